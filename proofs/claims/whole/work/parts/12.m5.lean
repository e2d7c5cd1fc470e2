/-! the reference: its calls -/
variable {G : GT} {l : Launch} {a : Nat → Nat} {f g o d st du tb bi si : Nat → Nat} {nu mo : Nat → Int64} {kp it tn fr to vl wr : Nat}
theorem kw_RX11_172 : GoodIn wsL_law (wsV RX11 172 RX11 yX11_behind (WS yX11_behind cX11_behind 3 (some .int))) := gV (rin23 _ (List.mem_of_getElem? (i := 7) rfl)) (rin23 _ (List.mem_of_getElem? (i := 8) rfl)) (rin23 _ (List.mem_of_getElem? (i := 9) rfl)) (rin1 _ (List.mem_of_getElem? (i := 5) rfl)) (rin23 _ (List.mem_of_getElem? (i := 10) rfl))
theorem kdV_X11_behind : yX11_behind.cls = RX11 ∧ yX11_behind.cls ≠ "java/lang/invoke/MethodHandle" ∧ yX11_behind.cls ≠ "java/lang/invoke/VarHandle" ∧ (parseMethodDescriptor yX11_behind.desc).map (fun d => d.parameters.length) = some 2 := ⟨rfl, by decide +kernel, by decide +kernel, by decide +kernel⟩
set_option maxHeartbeats 4000000 in
set_option maxRecDepth 100000 in
theorem c_X11_mostBy {w hi n : Nat} {x sg : Int32} (hw1 : w < 51) (hh : hi < 1000) (hw : x = -1 ∨ ∃ w, x = nI w ∧ w < 51) (hV : ∀ v, v ≤ hi → Inv (va_up f w v) ∧ va_up f w v 0 + n ≤ 200000) (hg : ¬ sg * tryV f w x n 0 ≤ -999999) : Ki G l yX11_mostBy cX11_mostBy 11 (some .int) (RM 11 227) [.ref (a 0), .int (nI w), .int (nI hi), .int x, .int sg, .int (nI n)] (wM G a f g o d st du tb bi si nu mo kp it tn fr to vl wr) (fun u : (Nat → Nat) × (Nat → Nat) × Nat => wM G a f g o u.1 st u.2.1 tb bi si nu mo kp u.2.2 tn fr to vl wr) (fun r u => r = nI (am (fun v => sg * tryV f w x n v) hi)) := by
  refine Ki.of (by decide) (Nat.le_of_ble_eq_true rfl) ?_
  intro p e s m args below meth c A Q ls hx hb S0 hG hA h hret hl
  have S0 : CF p m c cX11_mostBy 11 s args RX11 := S0
  have hl : lv_has ls 11 [(0, .ref (a 0)), (1, .int (nI w)), (2, .int (nI hi)), (3, .int x), (4, .int sg), (5, .int (nI n))] := hl
  have lp18 : ∀ (kf : Nat) (v : Nat) (fv d1 d2 : Nat → Nat) (t1 best : Nat) (mo1 : Int32) (H : Heap) (locs : List Loc) (ls : Array Slot) (hv : v ≤ hi + 1) (hf : ∀ z, va_up fv w z = va_up f w z) (hbst : (v = 0 → best = 0 ∧ mo1 = -999999) ∧ (0 < v → best = am (fun v => sg * tryV f w x n v) (v - 1) ∧ mo1 = (fun v => sg * tryV f w x n v) (am (fun v => sg * tryV f w x n v) (v - 1)))), hi + 1 - v < kf → WX G A s H locs (wM G a fv g o d1 st d2 tb bi si nu mo kp t1 tn fr to vl wr) → lv_has ls 11 [(0, .ref (a 0)), (1, .int (nI w)), (2, .int (nI hi)), (3, .int x), (4, .int sg), (5, .int (nI n)), (6, .int (nI (f w))), (7, .int (nI best)), (8, .int mo1), (9, .int (nI v))] → W p l e (RM 11 227) s m args below meth c H locs 0 0 Q (F0 m 18 ls []) := by
    intro kf
    induction kf with
    | zero => intro v fv d1 d2 t1 best mo1 H locs ls hv hf hbst hm; exact absurd hm (Nat.not_lt_zero _)
    | succ kf ih18 =>
      intro v fv d1 d2 t1 best mo1 H locs ls hv hf hbst hm h hl
      refine lv_iload hx hb dX11_mostBy_18 (lv_at hl 9 rfl) ?_
      refine lv_iload_n hx hb dX11_mostBy_20 rfl (lv_at hl 2 rfl) ?_
      refine n_cgt hx hb (by omega) (by omega) (tgt := 82) dX11_mostBy_21 (by decide) (fun c21 => ?_) (fun c21 => ?_)
      ·
        refine lv_aload_n hx hb dX11_mostBy_82 rfl (lv_at hl 0 rfl) ?_
        refine gM_s S0 hG h dX11_mostBy_83 ?_
        refine lv_iload_n hx hb dX11_mostBy_86 rfl (lv_at hl 1 rfl) ?_
        refine lv_iload hx hb dX11_mostBy_87 (lv_at hl 6 rfl) ?_
        refine sM_s S0 hG h (by omega) dX11_mostBy_89 (fun H locs h => ?_)
        refine lv_iload hx hb dX11_mostBy_90 (lv_at hl 7 rfl) ?_
        have e9 : v = hi + 1 := by omega
        subst e9
        rw [hf, va_up_id] at h
        exact hret _ (_, _, _) _ _ _ _ (nI_cong (hbst.2 (Nat.succ_pos _)).1) h dX11_mostBy_92
      ·
        refine lv_aload_n hx hb dX11_mostBy_24 rfl (lv_at hl 0 rfl) ?_
        refine gM_s S0 hG h dX11_mostBy_25 ?_
        refine lv_iload_n hx hb dX11_mostBy_28 rfl (lv_at hl 1 rfl) ?_
        refine lv_iload hx hb dX11_mostBy_29 (lv_at hl 9 rfl) ?_
        refine sM_s S0 hG h (by omega) dX11_mostBy_31 (fun H locs h => ?_)
        rw [hf v] at h
        refine lv_iload hx hb dX11_mostBy_32 (lv_at hl 4 rfl) ?_
        refine lv_aload_n hx hb dX11_mostBy_34 rfl (lv_at hl 0 rfl) ?_
        refine lv_iload_n hx hb dX11_mostBy_35 rfl (lv_at hl 3 rfl) ?_
        refine lv_iload hx hb dX11_mostBy_36 (lv_at hl 5 rfl) ?_
        refine cV_i0 S0 hG hA h hl.1 kw_RX11_172 kdV_X11_behind (c_X11_behind (hV v (by omega)).1 (hV v (by omega)).2 hw) ⟨rfl, rfl, by decide, by decide, Nat.le_refl _, Nat.le_refl _⟩ rfl 11 0 rfl rfl rfl (Nat.le_of_ble_eq_true rfl) dX11_mostBy_38 (fun _ => rfl) (fun r u H locs hq h => ?_)
        obtain ⟨u1, u2⟩ := u
        obtain rfl := hq
        refine lv_imul hx hb dX11_mostBy_41 ?_
        refine lv_istore hx hb dX11_mostBy_42 hl (by decide) rfl (fun ls hl => ?_)
        refine lv_iload hx hb dX11_mostBy_44 (lv_at hl 0 rfl) ?_
        refine lv_iload hx hb dX11_mostBy_46 (lv_at hl 9 rfl) ?_
        refine lv_icmp_le hx hb (tgt := 56) dX11_mostBy_48 (by decide) (fun c48 => ?_) (fun c48 => ?_)
        ·
          refine lv_iload hx hb dX11_mostBy_56 (lv_at hl 8 rfl) ?_
          refine lv_istore hx hb dX11_mostBy_58 hl (by decide) rfl (fun ls hl => ?_)
          refine lv_iload hx hb dX11_mostBy_60 (lv_at hl 1 rfl) ?_
          refine lv_iload hx hb dX11_mostBy_62 (lv_at hl 9 rfl) ?_
          refine lv_icmp_le hx hb (tgt := 72) dX11_mostBy_64 (by decide) (fun c64 => ?_) (fun c64 => ?_)
          ·
            refine lv_iload hx hb dX11_mostBy_72 (lv_at hl 9 rfl) ?_
            refine lv_istore hx hb dX11_mostBy_74 hl (by decide) rfl (fun ls hl => ?_)
            refine lv_iinc hx hb dX11_mostBy_76 hl (k := 10) rfl (inc_1 _) (by decide) rfl (fun ls hl => ?_)
            refine lv_goto (tgt := 18) hx hb dX11_mostBy_79 (by decide) ?_
            exact ih18 (v + 1) _ _ _ _ _ _ _ _ _ (by omega) (fun z => bx_uu f w v z) ⟨fun q => absurd q (Nat.succ_ne_zero _), fun _ => bst_t (g := (fun v => sg * tryV f w x n v)) hg hbst c48⟩ (by omega) h (lv_sub hl [4, 5, 6, 7, 8, 9, 10, 2, 1, 0] rfl)
          ·
            exact absurd c48 c64
        ·
          refine lv_iload hx hb dX11_mostBy_51 (lv_at hl 10 rfl) ?_
          refine lv_goto (tgt := 58) hx hb dX11_mostBy_53 (by decide) ?_
          refine lv_istore hx hb dX11_mostBy_58 hl (by decide) rfl (fun ls hl => ?_)
          refine lv_iload hx hb dX11_mostBy_60 (lv_at hl 1 rfl) ?_
          refine lv_iload hx hb dX11_mostBy_62 (lv_at hl 9 rfl) ?_
          refine lv_icmp_le hx hb (tgt := 72) dX11_mostBy_64 (by decide) (fun c64 => ?_) (fun c64 => ?_)
          ·
            exact absurd c64 c48
          ·
            refine lv_iload hx hb dX11_mostBy_67 (lv_at hl 1 rfl) ?_
            refine lv_goto (tgt := 74) hx hb dX11_mostBy_69 (by decide) ?_
            refine lv_istore hx hb dX11_mostBy_74 hl (by decide) rfl (fun ls hl => ?_)
            refine lv_iinc hx hb dX11_mostBy_76 hl (k := 10) rfl (inc_1 _) (by decide) rfl (fun ls hl => ?_)
            refine lv_goto (tgt := 18) hx hb dX11_mostBy_79 (by decide) ?_
            exact ih18 (v + 1) _ _ _ _ _ _ _ _ _ (by omega) (fun z => bx_uu f w v z) ⟨fun q => absurd q (Nat.succ_ne_zero _), fun _ => bst_f (g := (fun v => sg * tryV f w x n v)) hbst c48⟩ (by omega) h (lv_sub hl [4, 5, 6, 7, 8, 9, 10, 2, 1, 0] rfl)
  refine lv_aload_n hx hb dX11_mostBy_0 rfl (lv_at hl 0 rfl) ?_
  refine gM_s S0 hG h dX11_mostBy_1 ?_
  refine lv_iload_n hx hb dX11_mostBy_4 rfl (lv_at hl 1 rfl) ?_
  refine rM_s S0 hG h (by omega) dX11_mostBy_5 ?_
  refine lv_istore hx hb dX11_mostBy_6 hl (by decide) rfl (fun ls hl => ?_)
  refine lv_iconst (v := nI 0) hx hb dX11_mostBy_8 (by decide) ?_
  refine lv_istore hx hb dX11_mostBy_9 hl (by decide) rfl (fun ls hl => ?_)
  refine lv_ldc (v := -999999) hx hb S0.2.2.2.1 (S0.2.2.2.2 _ (rin26 _ (List.mem_of_getElem? (i := 5) rfl))) dX11_mostBy_11 ?_
  refine lv_istore hx hb dX11_mostBy_13 hl (by decide) rfl (fun ls hl => ?_)
  refine lv_iconst (v := nI 0) hx hb dX11_mostBy_15 (by decide) ?_
  refine lv_istore hx hb dX11_mostBy_16 hl (by decide) rfl (fun ls hl => ?_)
  exact lp18 _ 0 _ _ _ _ _ _ _ _ _ (Nat.zero_le _) (fun _ => rfl) ⟨fun _ => ⟨rfl, rfl⟩, fun q => absurd q (Nat.lt_irrefl _)⟩ (Nat.lt_succ_self _) h (lv_sub hl [4, 5, 6, 7, 8, 9, 3, 2, 1, 0] rfl)
theorem kw_RX11_66 : GoodIn wsL_law (va_wsS RX11 66 yX11_isQuarter (WS yX11_isQuarter cX11_isQuarter 1 (some .boolean))) := gS (rin6 _ (List.mem_of_getElem? (i := 22) rfl)) (rin6 _ (List.mem_of_getElem? (i := 23) rfl)) (rin1 _ (List.mem_of_getElem? (i := 5) rfl)) (rin7 _ (List.mem_of_getElem? (i := 0) rfl))
theorem kw_RX11_70 : GoodIn wsL_law (va_wsS RX11 70 yX11_isSpot (WS yX11_isSpot cX11_isSpot 1 (some .boolean))) := gS (rin7 _ (List.mem_of_getElem? (i := 5) rfl)) (rin7 _ (List.mem_of_getElem? (i := 6) rfl)) (rin1 _ (List.mem_of_getElem? (i := 5) rfl)) (rin7 _ (List.mem_of_getElem? (i := 7) rfl))
theorem kw_RX11_73 : GoodIn wsL_law (wsV RX11 73 RX11 yX11_becomes (WS yX11_becomes cX11_becomes 4 (some .int))) := gV (rin7 _ (List.mem_of_getElem? (i := 9) rfl)) (rin7 _ (List.mem_of_getElem? (i := 10) rfl)) (rin7 _ (List.mem_of_getElem? (i := 11) rfl)) (rin1 _ (List.mem_of_getElem? (i := 5) rfl)) (rin7 _ (List.mem_of_getElem? (i := 12) rfl))
theorem kdS_X11_isQuarter : yX11_isQuarter.cls ≠ "java/lang/invoke/MethodHandle" ∧ yX11_isQuarter.cls ≠ "java/lang/invoke/VarHandle" ∧ (parseMethodDescriptor yX11_isQuarter.desc).map (fun d => d.parameters.length) = some 1 := ⟨by decide +kernel, by decide +kernel, by decide +kernel⟩
theorem kdS_X11_isSpot : yX11_isSpot.cls ≠ "java/lang/invoke/MethodHandle" ∧ yX11_isSpot.cls ≠ "java/lang/invoke/VarHandle" ∧ (parseMethodDescriptor yX11_isSpot.desc).map (fun d => d.parameters.length) = some 1 := ⟨by decide +kernel, by decide +kernel, by decide +kernel⟩
theorem kdV_X11_becomes : yX11_becomes.cls = RX11 ∧ yX11_becomes.cls ≠ "java/lang/invoke/MethodHandle" ∧ yX11_becomes.cls ≠ "java/lang/invoke/VarHandle" ∧ (parseMethodDescriptor yX11_becomes.desc).map (fun d => d.parameters.length) = some 2 := ⟨rfl, by decide +kernel, by decide +kernel, by decide +kernel⟩
set_option maxHeartbeats 4000000 in
set_option maxRecDepth 100000 in
theorem c_X11_score {x y : Int32} : Ki G l yX11_score cX11_score 3 (some .int) (RM 3 45) [.ref (a 0), .int x, .int y] (wM G a f g o d st du tb bi si nu mo kp it tn fr to vl wr) (fun u : (Nat → Nat) × (Nat → Nat) => wM G a u.1 g o d u.2 du tb bi si nu mo kp it tn fr to vl wr) (fun r u => P_score f st x y r u.1 u.2) := by
  refine Ki.of (by decide) (Nat.le_of_ble_eq_true rfl) ?_
  intro p e s m args below meth c A Q ls hx hb S0 hG hA h hret hl
  have S0 : CF p m c cX11_score 3 s args RX11 := S0
  have hl : lv_has ls 3 [(0, .ref (a 0)), (1, .int x), (2, .int y)] := hl
  refine lv_iload_n hx hb dX11_score_0 rfl (lv_at hl 1 rfl) ?_
  refine cS_iE S0 hG hA h hl.1 kw_RX11_66 kdS_X11_isQuarter (c_X11_isQuarter) ⟨rfl, rfl, by decide, by decide, Nat.le_refl _, Nat.le_refl _⟩ rfl rfl (Nat.le_of_ble_eq_true rfl) dX11_score_1 (fun r u H locs hq h => ?_)
  rcases hq with ⟨rfl, b1⟩ | ⟨rfl, b1⟩
  ·
    obtain ⟨xn, rfl, xh, xq⟩ := inR_nat (x := x) ⟨Int.le_trans (by decide) b1.1, b1.2⟩
    have xr := (inR_n xq).mp b1
    refine n_zeq hx hb (by decide) (tgt := 25) dX11_score_4 (by decide) (fun q => absurd q (by decide)) (fun _ => ?_)
    refine lv_iload_n hx hb dX11_score_7 rfl (lv_at hl 2 rfl) ?_
    refine cS_iE S0 hG hA h hl.1 kw_RX11_70 kdS_X11_isSpot (c_X11_isSpot) ⟨rfl, rfl, by decide, by decide, Nat.le_refl _, Nat.le_refl _⟩ rfl rfl (Nat.le_of_ble_eq_true rfl) dX11_score_8 (fun r u H locs hq h => ?_)
    rcases hq with ⟨rfl, b8⟩ | ⟨rfl, b8⟩
    ·
      obtain ⟨yn, rfl, yh, yq⟩ := inR_nat (x := y) ⟨Int.le_trans (by decide) b8.1, b8.2⟩
      have yr := (inR_n yq).mp b8
      refine n_zeq hx hb (by decide) (tgt := 25) dX11_score_11 (by decide) (fun q => absurd q (by decide)) (fun _ => ?_)
      refine lv_aload_n hx hb dX11_score_14 rfl (lv_at hl 0 rfl) ?_
      refine lv_iconst (v := nI 2) hx hb dX11_score_15 (by decide) ?_
      refine lv_iload_n hx hb dX11_score_16 rfl (lv_at hl 1 rfl) ?_
      refine n_add hx hb dX11_score_17 ?_
      refine lv_iload_n hx hb dX11_score_18 rfl (lv_at hl 2 rfl) ?_
      refine cV_i0 S0 hG hA h hl.1 kw_RX11_73 kdV_X11_becomes (c_X11_becomes (by omega)) ⟨rfl, rfl, by decide, by decide, Nat.le_refl _, Nat.le_refl _⟩ rfl 11 0 rfl rfl rfl (Nat.le_of_ble_eq_true rfl) dX11_score_19 (fun _ => rfl) (fun r u H locs hq h => ?_)
      obtain rfl := hq
      refine lv_goto (tgt := 31) hx hb dX11_score_22 (by decide) ?_
      exact hret _ (va_up f (2 + xn) yn, st) _ _ _ _ (Or.inl ⟨⟨b1, b8⟩, by simp only [nt_nI xq], by simp only [nt_nI xq, nt_nI yq], rfl⟩) h dX11_score_31
    ·
      refine n_zeq hx hb (by decide) (tgt := 25) dX11_score_11 (by decide) (fun _ => ?_) (fun q => absurd q (by decide))
      refine lv_aload_n hx hb dX11_score_25 rfl (lv_at hl 0 rfl) ?_
      refine lv_ldc (v := -1000000001) hx hb S0.2.2.2.1 (S0.2.2.2.2 _ (rin6 _ (List.mem_of_getElem? (i := 21) rfl))) dX11_score_26 ?_
      refine cV_i0 S0 hG hA h hl.1 kw_RX11_76 kdV_X11_finds (c_X11_finds (k := 0) (by decide) (by decide)) ⟨rfl, rfl, by decide, by decide, Nat.le_refl _, Nat.le_refl _⟩ rfl 11 0 rfl rfl rfl (Nat.le_of_ble_eq_true rfl) dX11_score_28 (fun _ => rfl) (fun r u H locs hq h => ?_)
      obtain rfl := hq
      exact hret _ (_, _) _ _ _ _ (Or.inr ⟨by first | exact fun q => b1 q.1 | exact fun q => b8 q.2, rfl, rfl, rfl⟩) h dX11_score_31
  ·
    refine n_zeq hx hb (by decide) (tgt := 25) dX11_score_4 (by decide) (fun _ => ?_) (fun q => absurd q (by decide))
    refine lv_aload_n hx hb dX11_score_25 rfl (lv_at hl 0 rfl) ?_
    refine lv_ldc (v := -1000000001) hx hb S0.2.2.2.1 (S0.2.2.2.2 _ (rin6 _ (List.mem_of_getElem? (i := 21) rfl))) dX11_score_26 ?_
    refine cV_i0 S0 hG hA h hl.1 kw_RX11_76 kdV_X11_finds (c_X11_finds (k := 0) (by decide) (by decide)) ⟨rfl, rfl, by decide, by decide, Nat.le_refl _, Nat.le_refl _⟩ rfl 11 0 rfl rfl rfl (Nat.le_of_ble_eq_true rfl) dX11_score_28 (fun _ => rfl) (fun r u H locs hq h => ?_)
    obtain rfl := hq
    exact hret _ (_, _) _ _ _ _ (Or.inr ⟨by first | exact fun q => b1 q.1 | exact fun q => b8 q.2, rfl, rfl, rfl⟩) h dX11_score_31
theorem kw_RX11_79 : GoodIn wsL_law (va_wsS RX11 79 yX11_isBell (WS yX11_isBell cX11_isBell 1 (some .boolean))) := gS (rin8 _ (List.mem_of_getElem? (i := 2) rfl)) (rin8 _ (List.mem_of_getElem? (i := 3) rfl)) (rin1 _ (List.mem_of_getElem? (i := 5) rfl)) (rin8 _ (List.mem_of_getElem? (i := 4) rfl))
theorem kdS_X11_isBell : yX11_isBell.cls ≠ "java/lang/invoke/MethodHandle" ∧ yX11_isBell.cls ≠ "java/lang/invoke/VarHandle" ∧ (parseMethodDescriptor yX11_isBell.desc).map (fun d => d.parameters.length) = some 1 := ⟨by decide +kernel, by decide +kernel, by decide +kernel⟩
set_option maxHeartbeats 4000000 in
set_option maxRecDepth 100000 in
theorem c_X11_bell {x y : Int32} : Ki G l yX11_bell cX11_bell 3 (some .int) (RM 3 45) [.ref (a 0), .int x, .int y] (wM G a f g o d st du tb bi si nu mo kp it tn fr to vl wr) (fun u : (Nat → Nat) × (Nat → Nat) => wM G a u.1 g o d u.2 du tb bi si nu mo kp it tn fr to vl wr) (fun r u => P_bell f st x y r u.1 u.2) := by
  refine Ki.of (by decide) (Nat.le_of_ble_eq_true rfl) ?_
  intro p e s m args below meth c A Q ls hx hb S0 hG hA h hret hl
  have S0 : CF p m c cX11_bell 3 s args RX11 := S0
  have hl : lv_has ls 3 [(0, .ref (a 0)), (1, .int x), (2, .int y)] := hl
  refine lv_iload_n hx hb dX11_bell_0 rfl (lv_at hl 1 rfl) ?_
  refine cS_iE S0 hG hA h hl.1 kw_RX11_79 kdS_X11_isBell (c_X11_isBell) ⟨rfl, rfl, by decide, by decide, Nat.le_refl _, Nat.le_refl _⟩ rfl rfl (Nat.le_of_ble_eq_true rfl) dX11_bell_1 (fun r u H locs hq h => ?_)
  rcases hq with ⟨rfl, b1⟩ | ⟨rfl, b1⟩
  ·
    obtain ⟨xn, rfl, xh, xq⟩ := inR_nat (x := x) ⟨Int.le_trans (by decide) b1.1, b1.2⟩
    have xr := (inR_n xq).mp b1
    refine n_zeq hx hb (by decide) (tgt := 31) dX11_bell_4 (by decide) (fun q => absurd q (by decide)) (fun _ => ?_)
    refine lv_iload_n hx hb dX11_bell_7 rfl (lv_at hl 2 rfl) ?_
    refine lv_i2l hx hb dX11_bell_8 rfl ?_
    refine lv_lconst (v := 0) hx hb dX11_bell_9 (by decide) ?_
    refine lv_ldc2 (v := 47) hx hb S0.2.2.2.1 (S0.2.2.2.2 _ (rin8 _ (List.mem_of_getElem? (i := 1) rfl))) dX11_bell_10 ?_
    refine cS_iE S0 hG hA h hl.1 kw_RX11_49 kdS_X11_in (c_X11_in) ⟨rfl, rfl, by decide, by decide, Nat.le_refl _, Nat.le_refl _⟩ rfl rfl (Nat.le_of_ble_eq_true rfl) dX11_bell_13 (fun r u H locs hq h => ?_)
    rcases hq with ⟨rfl, b13⟩ | ⟨rfl, b13⟩
    ·
      have b13 : inR y 0 47 := by simpa [inR, i2l_toInt] using b13
      obtain ⟨yn, rfl, yh, yq⟩ := inR_nat (x := y) ⟨Int.le_trans (by decide) b13.1, b13.2⟩
      have yr := (inR_n yq).mp b13
      refine n_zeq hx hb (by decide) (tgt := 31) dX11_bell_16 (by decide) (fun q => absurd q (by decide)) (fun _ => ?_)
      refine lv_aload_n hx hb dX11_bell_19 rfl (lv_at hl 0 rfl) ?_
      refine lv_bipush (v := nI 8) hx hb dX11_bell_20 (by decide) ?_
      refine lv_iload_n hx hb dX11_bell_22 rfl (lv_at hl 1 rfl) ?_
      refine n_add hx hb dX11_bell_23 ?_
      refine lv_iload_n hx hb dX11_bell_24 rfl (lv_at hl 2 rfl) ?_
      refine cV_i0 S0 hG hA h hl.1 kw_RX11_73 kdV_X11_becomes (c_X11_becomes (by omega)) ⟨rfl, rfl, by decide, by decide, Nat.le_refl _, Nat.le_refl _⟩ rfl 11 0 rfl rfl rfl (Nat.le_of_ble_eq_true rfl) dX11_bell_25 (fun _ => rfl) (fun r u H locs hq h => ?_)
      obtain rfl := hq
      refine lv_goto (tgt := 37) hx hb dX11_bell_28 (by decide) ?_
      exact hret _ (va_up f (8 + xn) yn, st) _ _ _ _ (Or.inl ⟨⟨b1, b13⟩, by simp only [nt_nI xq], by simp only [nt_nI xq, nt_nI yq], rfl⟩) h dX11_bell_37
    ·
      have b13 : ¬ inR y 0 47 := by simpa [inR, i2l_toInt] using b13
      refine n_zeq hx hb (by decide) (tgt := 31) dX11_bell_16 (by decide) (fun _ => ?_) (fun q => absurd q (by decide))
      refine lv_aload_n hx hb dX11_bell_31 rfl (lv_at hl 0 rfl) ?_
      refine lv_ldc (v := -1000000001) hx hb S0.2.2.2.1 (S0.2.2.2.2 _ (rin6 _ (List.mem_of_getElem? (i := 21) rfl))) dX11_bell_32 ?_
      refine cV_i0 S0 hG hA h hl.1 kw_RX11_76 kdV_X11_finds (c_X11_finds (k := 0) (by decide) (by decide)) ⟨rfl, rfl, by decide, by decide, Nat.le_refl _, Nat.le_refl _⟩ rfl 11 0 rfl rfl rfl (Nat.le_of_ble_eq_true rfl) dX11_bell_34 (fun _ => rfl) (fun r u H locs hq h => ?_)
      obtain rfl := hq
      exact hret _ (_, _) _ _ _ _ (Or.inr ⟨by first | exact fun q => b1 q.1 | exact fun q => b13 q.2, rfl, rfl, rfl⟩) h dX11_bell_37
  ·
    refine n_zeq hx hb (by decide) (tgt := 31) dX11_bell_4 (by decide) (fun _ => ?_) (fun q => absurd q (by decide))
    refine lv_aload_n hx hb dX11_bell_31 rfl (lv_at hl 0 rfl) ?_
    refine lv_ldc (v := -1000000001) hx hb S0.2.2.2.1 (S0.2.2.2.2 _ (rin6 _ (List.mem_of_getElem? (i := 21) rfl))) dX11_bell_32 ?_
    refine cV_i0 S0 hG hA h hl.1 kw_RX11_76 kdV_X11_finds (c_X11_finds (k := 0) (by decide) (by decide)) ⟨rfl, rfl, by decide, by decide, Nat.le_refl _, Nat.le_refl _⟩ rfl 11 0 rfl rfl rfl (Nat.le_of_ble_eq_true rfl) dX11_bell_34 (fun _ => rfl) (fun r u H locs hq h => ?_)
    obtain rfl := hq
    exact hret _ (_, _) _ _ _ _ (Or.inr ⟨by first | exact fun q => b1 q.1 | exact fun q => b13 q.2, rfl, rfl, rfl⟩) h dX11_bell_37
theorem kw_RX11_94 : GoodIn wsL_law (wsV RX11 94 RX11 yX11_dueOnes (WS yX11_dueOnes cX11_dueOnes 3 (some .int))) := gV (rin12 _ (List.mem_of_getElem? (i := 6) rfl)) (rin12 _ (List.mem_of_getElem? (i := 7) rfl)) (rin12 _ (List.mem_of_getElem? (i := 8) rfl)) (rin1 _ (List.mem_of_getElem? (i := 5) rfl)) (rin12 _ (List.mem_of_getElem? (i := 9) rfl))
theorem kdV_X11_dueOnes : yX11_dueOnes.cls = RX11 ∧ yX11_dueOnes.cls ≠ "java/lang/invoke/MethodHandle" ∧ yX11_dueOnes.cls ≠ "java/lang/invoke/VarHandle" ∧ (parseMethodDescriptor yX11_dueOnes.desc).map (fun d => d.parameters.length) = some 0 := ⟨rfl, by decide +kernel, by decide +kernel, by decide +kernel⟩
set_option maxHeartbeats 4000000 in
set_option maxRecDepth 100000 in
theorem c_X11_now {x : Int32} (hI : Inv f) : Ki G l yX11_now cX11_now 2 (some .int) (RM 6 111) [.ref (a 0), .int x] (wM G a f g o d st du tb bi si nu mo kp it tn fr to vl wr) (fun u : Nat → Nat => wM G a f g o d u du tb bi si nu mo kp it tn fr to vl wr) (fun r u => P_now f st x r u) := by
  refine Ki.of (by decide) (Nat.le_of_ble_eq_true rfl) ?_
  intro p e s m args below meth c A Q ls hx hb S0 hG hA h hret hl
  have S0 : CF p m c cX11_now 2 s args RX11 := S0
  have hl : lv_has ls 2 [(0, .ref (a 0)), (1, .int x)] := hl
  have hq0 := qtr_lt f
  refine lv_iload_n hx hb dX11_now_0 rfl (lv_at hl 1 rfl) ?_
  rcases (show x.toInt = 0 ∨ x.toInt = 1 ∨ x.toInt = 2 ∨ x.toInt = 3 ∨ x.toInt = 4 ∨ x.toInt = 5 ∨ (x.toInt < 0 ∨ 5 < x.toInt) by omega) with e1 | e1 | e1 | e1 | e1 | e1 | e1
  ·
    refine i_swIn hx hb e1 (off := 39) (tgt := 40) dX11_now_1 (by decide) (by decide) rfl (by decide) ?_
    refine lv_aload_n hx hb dX11_now_40 rfl (lv_at hl 0 rfl) ?_
    refine gM_s S0 hG h dX11_now_41 ?_
    refine lv_iconst (v := nI 0) hx hb dX11_now_44 (by decide) ?_
    refine rM_s S0 hG h (by omega) dX11_now_45 ?_
    exact hret _ _ _ _ _ _ (Or.inl ⟨by unfold inR; omega, by rw [e1]; rfl, rfl⟩) h dX11_now_46
  ·
    refine i_swIn hx hb e1 (off := 46) (tgt := 47) dX11_now_1 (by decide) (by decide) rfl (by decide) ?_
    refine lv_aload_n hx hb dX11_now_47 rfl (lv_at hl 0 rfl) ?_
    refine cV_i0 S0 hG hA h hl.1 kw_RX11_87 kdV_X11_quarter (c_X11_quarter hI) ⟨rfl, rfl, by decide, by decide, Nat.le_refl _, Nat.le_refl _⟩ rfl 11 0 rfl rfl rfl (Nat.le_of_ble_eq_true rfl) dX11_now_48 (fun _ => rfl) (fun r u H locs hq h => ?_)
    obtain rfl := hq
    exact hret _ _ _ _ _ _ (Or.inl ⟨by unfold inR; omega, by rw [e1]; rfl, rfl⟩) h dX11_now_51
  ·
    refine i_swIn hx hb e1 (off := 51) (tgt := 52) dX11_now_1 (by decide) (by decide) rfl (by decide) ?_
    refine lv_aload_n hx hb dX11_now_52 rfl (lv_at hl 0 rfl) ?_
    refine gM_s S0 hG h dX11_now_53 ?_
    refine lv_iconst (v := nI 2) hx hb dX11_now_56 (by decide) ?_
    refine lv_aload_n hx hb dX11_now_57 rfl (lv_at hl 0 rfl) ?_
    refine cV_i0 S0 hG hA h hl.1 kw_RX11_87 kdV_X11_quarter (c_X11_quarter hI) ⟨rfl, rfl, by decide, by decide, Nat.le_refl _, Nat.le_refl _⟩ rfl 11 0 rfl rfl rfl (Nat.le_of_ble_eq_true rfl) dX11_now_58 (fun _ => rfl) (fun r u H locs hq h => ?_)
    obtain rfl := hq
    refine n_add hx hb dX11_now_61 ?_
    refine rM_s S0 hG h (by omega) dX11_now_62 ?_
    exact hret _ _ _ _ _ _ (Or.inl ⟨by unfold inR; omega, by rw [e1]; rfl, rfl⟩) h dX11_now_63
  ·
    refine i_swIn hx hb e1 (off := 63) (tgt := 64) dX11_now_1 (by decide) (by decide) rfl (by decide) ?_
    refine lv_aload_n hx hb dX11_now_64 rfl (lv_at hl 0 rfl) ?_
    refine cV_i0 S0 hG hA h hl.1 kw_RX11_91 kdV_X11_ringing (c_X11_ringing hI) ⟨rfl, rfl, by decide, by decide, Nat.le_refl _, Nat.le_refl _⟩ rfl 11 0 rfl rfl rfl (Nat.le_of_ble_eq_true rfl) dX11_now_65 (fun _ => rfl) (fun r u H locs hq h => ?_)
    obtain rfl := hq
    exact hret _ _ _ _ _ _ (Or.inl ⟨by unfold inR; omega, by rw [e1]; rfl, rfl⟩) h dX11_now_68
  ·
    refine i_swIn hx hb e1 (off := 68) (tgt := 69) dX11_now_1 (by decide) (by decide) rfl (by decide) ?_
    refine lv_aload_n hx hb dX11_now_69 rfl (lv_at hl 0 rfl) ?_
    refine cV_i0 S0 hG hA h hl.1 kw_RX11_94 kdV_X11_dueOnes (c_X11_dueOnes hI) ⟨rfl, rfl, by decide, by decide, Nat.le_refl _, Nat.le_refl _⟩ rfl 11 0 rfl rfl rfl (Nat.le_of_ble_eq_true rfl) dX11_now_70 (fun _ => rfl) (fun r u H locs hq h => ?_)
    obtain rfl := hq
    exact hret _ _ _ _ _ _ (Or.inl ⟨by unfold inR; omega, by rw [e1]; rfl, rfl⟩) h dX11_now_73
  ·
    refine i_swIn hx hb e1 (off := 73) (tgt := 74) dX11_now_1 (by decide) (by decide) rfl (by decide) ?_
    refine lv_ldc (v := nI 100000) hx hb S0.2.2.2.1 (S0.2.2.2.2 _ (rin11 _ (List.mem_of_getElem? (i := 21) rfl))) dX11_now_74 ?_
    refine lv_aload_n hx hb dX11_now_76 rfl (lv_at hl 0 rfl) ?_
    refine cV_i0 S0 hG hA h hl.1 kw_RX11_98 kdV_X11_harmonyNow (c_X11_harmonyNow hI) ⟨rfl, rfl, by decide, by decide, Nat.le_refl _, Nat.le_refl _⟩ rfl 11 0 rfl rfl rfl (Nat.le_of_ble_eq_true rfl) dX11_now_77 (fun _ => rfl) (fun r u H locs hq h => ?_)
    obtain rfl := hq
    refine lv_iadd hx hb dX11_now_80 ?_
    exact hret _ _ _ _ _ _ (Or.inl ⟨by unfold inR; omega, by rw [e1]; rfl, rfl⟩) h dX11_now_81
  ·
    refine lv_tableOut hx hb (tgt := 82) dX11_now_1 (by omega) (by decide) ?_
    refine lv_aload_n hx hb dX11_now_82 rfl (lv_at hl 0 rfl) ?_
    refine lv_ldc (v := -1000000001) hx hb S0.2.2.2.1 (S0.2.2.2.2 _ (rin6 _ (List.mem_of_getElem? (i := 21) rfl))) dX11_now_83 ?_
    refine cV_i0 S0 hG hA h hl.1 kw_RX11_76 kdV_X11_finds (c_X11_finds (k := 0) (by decide) (by decide)) ⟨rfl, rfl, by decide, by decide, Nat.le_refl _, Nat.le_refl _⟩ rfl 11 0 rfl rfl rfl (Nat.le_of_ble_eq_true rfl) dX11_now_85 (fun _ => rfl) (fun r u H locs hq h => ?_)
    obtain rfl := hq
    exact hret _ _ _ _ _ _ (Or.inr ⟨fun q => by obtain ⟨q1, q2⟩ := q; omega, rfl, rfl⟩) h dX11_now_88
set_option maxHeartbeats 4000000 in
set_option maxRecDepth 100000 in
theorem c_X11_who {x : Int32} (hI : Inv f) : Ki G l yX11_who cX11_who 2 (some .int) (RM 4 66) [.ref (a 0), .int x] (wM G a f g o d st du tb bi si nu mo kp it tn fr to vl wr) (fun u : Nat → Nat => wM G a f g o d u du tb bi si nu mo kp it tn fr to vl wr) (fun r u => P_who f st x r u) := by
  refine Ki.of (by decide) (Nat.le_of_ble_eq_true rfl) ?_
  intro p e s m args below meth c A Q ls hx hb S0 hG hA h hret hl
  have S0 : CF p m c cX11_who 2 s args RX11 := S0
  have hl : lv_has ls 2 [(0, .ref (a 0)), (1, .int x)] := hl
  refine lv_iload_n hx hb dX11_who_0 rfl (lv_at hl 1 rfl) ?_
  refine cS_iE S0 hG hA h hl.1 kw_RX11_70 kdS_X11_isSpot (c_X11_isSpot) ⟨rfl, rfl, by decide, by decide, Nat.le_refl _, Nat.le_refl _⟩ rfl rfl (Nat.le_of_ble_eq_true rfl) dX11_who_1 (fun r u H locs hq h => ?_)
  rcases hq with ⟨rfl, b1⟩ | ⟨rfl, b1⟩
  ·
    obtain ⟨xn, rfl, xh, xq⟩ := inR_nat (x := x) ⟨Int.le_trans (by decide) b1.1, b1.2⟩
    have xr := (inR_n xq).mp b1
    refine n_zeq hx hb (by decide) (tgt := 15) dX11_who_4 (by decide) (fun q => absurd q (by decide)) (fun _ => ?_)
    refine lv_aload_n hx hb dX11_who_7 rfl (lv_at hl 0 rfl) ?_
    refine lv_iload_n hx hb dX11_who_8 rfl (lv_at hl 1 rfl) ?_
    refine cV_i0 S0 hG hA h hl.1 kw_RX11_101 kdV_X11_whoAt (c_X11_whoAt hI (by omega)) ⟨rfl, rfl, by decide, by decide, Nat.le_refl _, Nat.le_refl _⟩ rfl 11 0 rfl rfl rfl (Nat.le_of_ble_eq_true rfl) dX11_who_9 (fun _ => rfl) (fun r u H locs hq h => ?_)
    obtain rfl := hq
    refine lv_goto (tgt := 21) hx hb dX11_who_12 (by decide) ?_
    exact hret _ _ _ _ _ _ (Or.inl ⟨b1, by rw [nt_nI xq], rfl⟩) h dX11_who_21
  ·
    refine n_zeq hx hb (by decide) (tgt := 15) dX11_who_4 (by decide) (fun _ => ?_) (fun q => absurd q (by decide))
    refine lv_aload_n hx hb dX11_who_15 rfl (lv_at hl 0 rfl) ?_
    refine lv_ldc (v := -1000000001) hx hb S0.2.2.2.1 (S0.2.2.2.2 _ (rin6 _ (List.mem_of_getElem? (i := 21) rfl))) dX11_who_16 ?_
    refine cV_i0 S0 hG hA h hl.1 kw_RX11_76 kdV_X11_finds (c_X11_finds (k := 0) (by decide) (by decide)) ⟨rfl, rfl, by decide, by decide, Nat.le_refl _, Nat.le_refl _⟩ rfl 11 0 rfl rfl rfl (Nat.le_of_ble_eq_true rfl) dX11_who_18 (fun _ => rfl) (fun r u H locs hq h => ?_)
    obtain rfl := hq
    exact hret _ _ _ _ _ _ (Or.inr ⟨b1, rfl, rfl⟩) h dX11_who_21
theorem kw_RX11_116 : GoodIn wsL_law (va_wsS RX11 116 yX11_isKind (WS yX11_isKind cX11_isKind 1 (some .boolean))) := gS (rin14 _ (List.mem_of_getElem? (i := 20) rfl)) (rin14 _ (List.mem_of_getElem? (i := 21) rfl)) (rin1 _ (List.mem_of_getElem? (i := 5) rfl)) (rin14 _ (List.mem_of_getElem? (i := 22) rfl))
theorem kw_RX11_120 : GoodIn wsL_law (wsV RX11 120 RX11 yX11_adds (WS yX11_adds cX11_adds 4 (some .int))) := gV (rin14 _ (List.mem_of_getElem? (i := 23) rfl)) (rin15 _ (List.mem_of_getElem? (i := 0) rfl)) (rin15 _ (List.mem_of_getElem? (i := 1) rfl)) (rin1 _ (List.mem_of_getElem? (i := 5) rfl)) (rin15 _ (List.mem_of_getElem? (i := 2) rfl))
theorem kdS_X11_isKind : yX11_isKind.cls ≠ "java/lang/invoke/MethodHandle" ∧ yX11_isKind.cls ≠ "java/lang/invoke/VarHandle" ∧ (parseMethodDescriptor yX11_isKind.desc).map (fun d => d.parameters.length) = some 1 := ⟨by decide +kernel, by decide +kernel, by decide +kernel⟩
theorem kdV_X11_adds : yX11_adds.cls = RX11 ∧ yX11_adds.cls ≠ "java/lang/invoke/MethodHandle" ∧ yX11_adds.cls ≠ "java/lang/invoke/VarHandle" ∧ (parseMethodDescriptor yX11_adds.desc).map (fun d => d.parameters.length) = some 2 := ⟨rfl, by decide +kernel, by decide +kernel, by decide +kernel⟩
set_option maxHeartbeats 4000000 in
set_option maxRecDepth 100000 in
theorem c_X11_person {x y : Int32} (hI : Inv f) : Ki G l yX11_person cX11_person 3 (some .int) (RM 3 45) [.ref (a 0), .int x, .int y] (wM G a f g o d st du tb bi si nu mo kp it tn fr to vl wr) (fun u : (Nat → Nat) × (Nat → Nat) => wM G a u.1 g o d u.2 du tb bi si nu mo kp it tn fr to vl wr) (fun r u => P_person f st x y r u.1 u.2) := by
  refine Ki.of (by decide) (Nat.le_of_ble_eq_true rfl) ?_
  intro p e s m args below meth c A Q ls hx hb S0 hG hA h hret hl
  have S0 : CF p m c cX11_person 3 s args RX11 := S0
  have hl : lv_has ls 3 [(0, .ref (a 0)), (1, .int x), (2, .int y)] := hl
  have h1 := hI.2.1
  refine lv_iload_n hx hb dX11_person_0 rfl (lv_at hl 1 rfl) ?_
  refine cS_iE S0 hG hA h hl.1 kw_RX11_116 kdS_X11_isKind (c_X11_isKind) ⟨rfl, rfl, by decide, by decide, Nat.le_refl _, Nat.le_refl _⟩ rfl rfl (Nat.le_of_ble_eq_true rfl) dX11_person_1 (fun r u H locs hq h => ?_)
  rcases hq with ⟨rfl, b1⟩ | ⟨rfl, b1⟩
  ·
    obtain ⟨xn, rfl, xh, xq⟩ := inR_nat (x := x) ⟨Int.le_trans (by decide) b1.1, b1.2⟩
    have xr := (inR_n xq).mp b1
    refine n_zeq hx hb (by decide) (tgt := 14) dX11_person_4 (by decide) (fun q => absurd q (by decide)) (fun _ => ?_)
    refine lv_iload_n hx hb dX11_person_7 rfl (lv_at hl 2 rfl) ?_
    refine cS_iE S0 hG hA h hl.1 kw_RX11_70 kdS_X11_isSpot (c_X11_isSpot) ⟨rfl, rfl, by decide, by decide, Nat.le_refl _, Nat.le_refl _⟩ rfl rfl (Nat.le_of_ble_eq_true rfl) dX11_person_8 (fun r u H locs hq h => ?_)
    rcases hq with ⟨rfl, b8⟩ | ⟨rfl, b8⟩
    ·
      obtain ⟨yn, rfl, yh, yq⟩ := inR_nat (x := y) ⟨Int.le_trans (by decide) b8.1, b8.2⟩
      have yr := (inR_n yq).mp b8
      refine n_zne hx hb (by decide) (tgt := 21) dX11_person_11 (by decide) (fun _ => ?_) (fun q => absurd q (by decide))
      refine lv_aload_n hx hb dX11_person_21 rfl (lv_at hl 0 rfl) ?_
      refine gM_s S0 hG h dX11_person_22 ?_
      refine lv_iconst (v := nI 1) hx hb dX11_person_25 (by decide) ?_
      refine rM_s S0 hG h (by omega) dX11_person_26 ?_
      refine lv_bipush (v := nI 8) hx hb dX11_person_27 (by decide) ?_
      refine n_cne hx hb (by omega) (by omega) (tgt := 41) dX11_person_29 (by decide) (fun c29 => ?_) (fun c29 => ?_)
      ·
        refine lv_aload_n hx hb dX11_person_41 rfl (lv_at hl 0 rfl) ?_
        refine lv_iload_n hx hb dX11_person_42 rfl (lv_at hl 1 rfl) ?_
        refine lv_iload_n hx hb dX11_person_43 rfl (lv_at hl 2 rfl) ?_
        refine cV_i0 S0 hG hA h hl.1 kw_RX11_120 kdV_X11_adds (c_X11_adds (by omega)) ⟨rfl, rfl, by decide, by decide, Nat.le_refl _, Nat.le_refl _⟩ rfl 11 0 rfl rfl rfl (Nat.le_of_ble_eq_true rfl) dX11_person_44 (fun _ => rfl) (fun r u H locs hq h => ?_)
        obtain rfl := hq
        exact hret _ (addF f xn yn, st) _ _ _ _ (Or.inl ⟨⟨b1, b8⟩, Or.inr ⟨c29, rfl, by simp only [nt_nI xq, nt_nI yq], rfl⟩⟩) h dX11_person_47
      ·
        refine lv_aload_n hx hb dX11_person_32 rfl (lv_at hl 0 rfl) ?_
        refine lv_ldc (v := -1000000002) hx hb S0.2.2.2.1 (S0.2.2.2.2 _ (rin14 _ (List.mem_of_getElem? (i := 19) rfl))) dX11_person_33 ?_
        refine cV_i0 S0 hG hA h hl.1 kw_RX11_76 kdV_X11_finds (c_X11_finds (k := 1) (by decide) (by decide)) ⟨rfl, rfl, by decide, by decide, Nat.le_refl _, Nat.le_refl _⟩ rfl 11 0 rfl rfl rfl (Nat.le_of_ble_eq_true rfl) dX11_person_35 (fun _ => rfl) (fun r u H locs hq h => ?_)
        obtain rfl := hq
        refine lv_goto (tgt := 47) hx hb dX11_person_38 (by decide) ?_
        exact hret _ (_, _) _ _ _ _ (Or.inl ⟨⟨b1, b8⟩, Or.inl ⟨c29, rfl, rfl, rfl⟩⟩) h dX11_person_47
    ·
      refine n_zne hx hb (by decide) (tgt := 21) dX11_person_11 (by decide) (fun q => absurd q (by decide)) (fun _ => ?_)
      refine lv_aload_n hx hb dX11_person_14 rfl (lv_at hl 0 rfl) ?_
      refine lv_ldc (v := -1000000001) hx hb S0.2.2.2.1 (S0.2.2.2.2 _ (rin6 _ (List.mem_of_getElem? (i := 21) rfl))) dX11_person_15 ?_
      refine cV_i0 S0 hG hA h hl.1 kw_RX11_76 kdV_X11_finds (c_X11_finds (k := 0) (by decide) (by decide)) ⟨rfl, rfl, by decide, by decide, Nat.le_refl _, Nat.le_refl _⟩ rfl 11 0 rfl rfl rfl (Nat.le_of_ble_eq_true rfl) dX11_person_17 (fun _ => rfl) (fun r u H locs hq h => ?_)
      obtain rfl := hq
      exact hret _ (_, _) _ _ _ _ (Or.inr ⟨by first | exact fun q => b1 q.1 | exact fun q => b8 q.2, rfl, rfl, rfl⟩) h dX11_person_20
  ·
    refine n_zeq hx hb (by decide) (tgt := 14) dX11_person_4 (by decide) (fun _ => ?_) (fun q => absurd q (by decide))
    refine lv_aload_n hx hb dX11_person_14 rfl (lv_at hl 0 rfl) ?_
    refine lv_ldc (v := -1000000001) hx hb S0.2.2.2.1 (S0.2.2.2.2 _ (rin6 _ (List.mem_of_getElem? (i := 21) rfl))) dX11_person_15 ?_
    refine cV_i0 S0 hG hA h hl.1 kw_RX11_76 kdV_X11_finds (c_X11_finds (k := 0) (by decide) (by decide)) ⟨rfl, rfl, by decide, by decide, Nat.le_refl _, Nat.le_refl _⟩ rfl 11 0 rfl rfl rfl (Nat.le_of_ble_eq_true rfl) dX11_person_17 (fun _ => rfl) (fun r u H locs hq h => ?_)
    obtain rfl := hq
    exact hret _ (_, _) _ _ _ _ (Or.inr ⟨by first | exact fun q => b1 q.1 | exact fun q => b8 q.2, rfl, rfl, rfl⟩) h dX11_person_20
theorem kw_RX11_123 : GoodIn wsL_law (wsV RX11 123 RX11 yX11_isPerson (WS yX11_isPerson cX11_isPerson 2 (some .boolean))) := gV (rin18 _ (List.mem_of_getElem? (i := 3) rfl)) (rin18 _ (List.mem_of_getElem? (i := 4) rfl)) (rin18 _ (List.mem_of_getElem? (i := 5) rfl)) (rin1 _ (List.mem_of_getElem? (i := 5) rfl)) (rin18 _ (List.mem_of_getElem? (i := 6) rfl))
theorem kdV_X11_isPerson : yX11_isPerson.cls = RX11 ∧ yX11_isPerson.cls ≠ "java/lang/invoke/MethodHandle" ∧ yX11_isPerson.cls ≠ "java/lang/invoke/VarHandle" ∧ (parseMethodDescriptor yX11_isPerson.desc).map (fun d => d.parameters.length) = some 1 := ⟨rfl, by decide +kernel, by decide +kernel, by decide +kernel⟩
set_option maxHeartbeats 4000000 in
set_option maxRecDepth 100000 in
theorem c_X11_of {x y : Int32} (hI : Inv f) : Ki G l yX11_of cX11_of 3 (some .int) (RM 7 134) [.ref (a 0), .int x, .int y] (wM G a f g o d st du tb bi si nu mo kp it tn fr to vl wr) (fun u : Nat → Nat => wM G a f g o d u du tb bi si nu mo kp it tn fr to vl wr) (fun r u => P_of f st x y r u) := by
  refine Ki.of (by decide) (Nat.le_of_ble_eq_true rfl) ?_
  intro p e s m args below meth c A Q ls hx hb S0 hG hA h hret hl
  have S0 : CF p m c cX11_of 3 s args RX11 := S0
  have hl : lv_has ls 3 [(0, .ref (a 0)), (1, .int x), (2, .int y)] := hl
  have h1 := hI.2.1
  refine lv_aload_n hx hb dX11_of_0 rfl (lv_at hl 0 rfl) ?_
  refine lv_iload_n hx hb dX11_of_1 rfl (lv_at hl 1 rfl) ?_
  refine cV_i0 S0 hG hA h hl.1 kw_RX11_123 kdV_X11_isPerson (c_X11_isPerson (by omega)) ⟨rfl, rfl, by decide, by decide, Nat.le_refl _, Nat.le_refl _⟩ rfl 11 0 rfl rfl rfl (Nat.le_of_ble_eq_true rfl) dX11_of_2 (fun _ => rfl) (fun r u H locs hq h => ?_)
  rcases hq with ⟨rfl, b2⟩ | ⟨rfl, b2⟩
  ·
    obtain ⟨xn, rfl, xh, xq⟩ := inR_nat (x := x) ⟨Int.le_trans (by decide) b2.1, b2.2⟩
    have xr := (inR_n xq).mp b2
    refine n_zeq hx hb (by decide) (tgt := 20) dX11_of_5 (by decide) (fun q => absurd q (by decide)) (fun _ => ?_)
    refine lv_iload_n hx hb dX11_of_8 rfl (lv_at hl 2 rfl) ?_
    refine lv_i2l hx hb dX11_of_9 rfl ?_
    refine lv_lconst (v := 0) hx hb dX11_of_10 (by decide) ?_
    refine lv_ldc2 (v := 8) hx hb S0.2.2.2.1 (S0.2.2.2.2 _ (rin18 _ (List.mem_of_getElem? (i := 2) rfl))) dX11_of_11 ?_
    refine cS_iE S0 hG hA h hl.1 kw_RX11_49 kdS_X11_in (c_X11_in) ⟨rfl, rfl, by decide, by decide, Nat.le_refl _, Nat.le_refl _⟩ rfl rfl (Nat.le_of_ble_eq_true rfl) dX11_of_14 (fun r u H locs hq h => ?_)
    rcases hq with ⟨rfl, b14⟩ | ⟨rfl, b14⟩
    ·
      have b14 : inR y 0 8 := by simpa [inR, i2l_toInt] using b14
      obtain ⟨yn, rfl, yh, yq⟩ := inR_nat (x := y) ⟨Int.le_trans (by decide) b14.1, b14.2⟩
      have yr := (inR_n yq).mp b14
      refine n_zne hx hb (by decide) (tgt := 27) dX11_of_17 (by decide) (fun _ => ?_) (fun q => absurd q (by decide))
      refine lv_iload_n hx hb dX11_of_27 rfl (lv_at hl 2 rfl) ?_
      refine lv_iconst (v := nI 4) hx hb dX11_of_28 (by decide) ?_
      refine n_cgt hx hb (by omega) (by omega) (tgt := 39) dX11_of_29 (by decide) (fun c29 => ?_) (fun c29 => ?_)
      ·
        refine lv_iload_n hx hb dX11_of_39 rfl (lv_at hl 2 rfl) ?_
        refine lv_iconst (v := nI 5) hx hb dX11_of_40 (by decide) ?_
        refine n_cne hx hb (by omega) (by omega) (tgt := 52) dX11_of_41 (by decide) (fun c41 => ?_) (fun c41 => ?_)
        ·
          refine lv_iload_n hx hb dX11_of_52 rfl (lv_at hl 2 rfl) ?_
          refine lv_bipush (v := nI 6) hx hb dX11_of_53 (by decide) ?_
          refine n_cne hx hb (by omega) (by omega) (tgt := 74) dX11_of_55 (by decide) (fun c55 => ?_) (fun c55 => ?_)
          ·
            refine lv_iload_n hx hb dX11_of_74 rfl (lv_at hl 2 rfl) ?_
            refine lv_bipush (v := nI 7) hx hb dX11_of_75 (by decide) ?_
            refine n_cne hx hb (by omega) (by omega) (tgt := 88) dX11_of_77 (by decide) (fun c77 => ?_) (fun c77 => ?_)
            ·
              refine lv_aload_n hx hb dX11_of_88 rfl (lv_at hl 0 rfl) ?_
              refine lv_iload_n hx hb dX11_of_89 rfl (lv_at hl 1 rfl) ?_
              refine cV_i0 S0 hG hA h hl.1 kw_RX11_131 kdV_X11_spoilsOf (c_X11_spoilsOf hI (by omega)) ⟨rfl, rfl, by decide, by decide, Nat.le_refl _, Nat.le_refl _⟩ rfl 11 0 rfl rfl rfl (Nat.le_of_ble_eq_true rfl) dX11_of_90 (fun _ => rfl) (fun r u H locs hq h => ?_)
              obtain rfl := hq
              exact hret _ _ _ _ _ _ (Or.inl ⟨⟨b2, b14⟩, by unfold ofV; rw [nI_toInt yq, nt_nI xq]; (repeat' split) <;> first | rfl | (exfalso; omega) | simp_all, rfl⟩) h dX11_of_93
            ·
              refine lv_aload_n hx hb dX11_of_80 rfl (lv_at hl 0 rfl) ?_
              refine lv_iload_n hx hb dX11_of_81 rfl (lv_at hl 1 rfl) ?_
              refine cV_i0 S0 hG hA h hl.1 kw_RX11_128 kdV_X11_walksOf (c_X11_walksOf hI (by omega)) ⟨rfl, rfl, by decide, by decide, Nat.le_refl _, Nat.le_refl _⟩ rfl 11 0 rfl rfl rfl (Nat.le_of_ble_eq_true rfl) dX11_of_82 (fun _ => rfl) (fun r u H locs hq h => ?_)
              obtain rfl := hq
              refine lv_goto (tgt := 93) hx hb dX11_of_85 (by decide) ?_
              exact hret _ _ _ _ _ _ (Or.inl ⟨⟨b2, b14⟩, by unfold ofV; rw [nI_toInt yq, nt_nI xq]; (repeat' split) <;> first | rfl | (exfalso; omega) | simp_all, rfl⟩) h dX11_of_93
          ·
            refine lv_aload_n hx hb dX11_of_58 rfl (lv_at hl 0 rfl) ?_
            refine lv_iload_n hx hb dX11_of_59 rfl (lv_at hl 1 rfl) ?_
            refine cV_i0 S0 hG hA h hl.1 kw_RX11_104 kdV_X11_isHearing (c_X11_isHearing hI (by omega)) ⟨rfl, rfl, by decide, by decide, Nat.le_refl _, Nat.le_refl _⟩ rfl 11 0 rfl rfl rfl (Nat.le_of_ble_eq_true rfl) dX11_of_60 (fun _ => rfl) (fun r u H locs hq h => ?_)
            rcases hq with ⟨rfl, b60⟩ | ⟨rfl, b60⟩
            ·
              refine n_zeq hx hb (by decide) (tgt := 70) dX11_of_63 (by decide) (fun q => absurd q (by decide)) (fun _ => ?_)
              refine lv_iconst (v := nI 1) hx hb dX11_of_66 (by decide) ?_
              refine lv_goto (tgt := 93) hx hb dX11_of_67 (by decide) ?_
              exact hret _ _ _ _ _ _ (Or.inl ⟨⟨b2, b14⟩, by unfold ofV; rw [nI_toInt yq, nt_nI xq]; (repeat' split) <;> first | rfl | (exfalso; omega) | simp_all, rfl⟩) h dX11_of_93
            ·
              refine n_zeq hx hb (by decide) (tgt := 70) dX11_of_63 (by decide) (fun _ => ?_) (fun q => absurd q (by decide))
              refine lv_iconst (v := nI 0) hx hb dX11_of_70 (by decide) ?_
              refine lv_goto (tgt := 93) hx hb dX11_of_71 (by decide) ?_
              exact hret _ _ _ _ _ _ (Or.inl ⟨⟨b2, b14⟩, by unfold ofV; rw [nI_toInt yq, nt_nI xq]; (repeat' split) <;> first | rfl | (exfalso; omega) | simp_all, rfl⟩) h dX11_of_93
        ·
          refine lv_aload_n hx hb dX11_of_44 rfl (lv_at hl 0 rfl) ?_
          refine lv_iload_n hx hb dX11_of_45 rfl (lv_at hl 1 rfl) ?_
          refine cV_i0 S0 hG hA h hl.1 kw_RX11_84 kdV_X11_dueOf (c_X11_dueOf hI (by omega)) ⟨rfl, rfl, by decide, by decide, Nat.le_refl _, Nat.le_refl _⟩ rfl 11 0 rfl rfl rfl (Nat.le_of_ble_eq_true rfl) dX11_of_46 (fun _ => rfl) (fun r u H locs hq h => ?_)
          obtain rfl := hq
          refine lv_goto (tgt := 93) hx hb dX11_of_49 (by decide) ?_
          exact hret _ _ _ _ _ _ (Or.inl ⟨⟨b2, b14⟩, by unfold ofV; rw [nI_toInt yq, nt_nI xq]; (repeat' split) <;> first | rfl | (exfalso; omega) | simp_all, rfl⟩) h dX11_of_93
      ·
        refine lv_aload_n hx hb dX11_of_32 rfl (lv_at hl 0 rfl) ?_
        refine lv_iload_n hx hb dX11_of_33 rfl (lv_at hl 1 rfl) ?_
        refine lv_iload_n hx hb dX11_of_34 rfl (lv_at hl 2 rfl) ?_
        refine cV_i0 S0 hG hA h hl.1 kw_RX11_59 kdV_X11_its (c_X11_its (by omega) (by omega)) ⟨rfl, rfl, by decide, by decide, Nat.le_refl _, Nat.le_refl _⟩ rfl 11 0 rfl rfl rfl (Nat.le_of_ble_eq_true rfl) dX11_of_35 (fun _ => rfl) (fun r u H locs hq h => ?_)
        obtain rfl := hq
        exact hret _ _ _ _ _ _ (Or.inl ⟨⟨b2, b14⟩, by unfold ofV; rw [nI_toInt yq, nt_nI xq]; (repeat' split) <;> first | rfl | (exfalso; omega) | simp_all, rfl⟩) h dX11_of_38
    ·
      have b14 : ¬ inR y 0 8 := by simpa [inR, i2l_toInt] using b14
      refine n_zne hx hb (by decide) (tgt := 27) dX11_of_17 (by decide) (fun q => absurd q (by decide)) (fun _ => ?_)
      refine lv_aload_n hx hb dX11_of_20 rfl (lv_at hl 0 rfl) ?_
      refine lv_ldc (v := -1000000001) hx hb S0.2.2.2.1 (S0.2.2.2.2 _ (rin6 _ (List.mem_of_getElem? (i := 21) rfl))) dX11_of_21 ?_
      refine cV_i0 S0 hG hA h hl.1 kw_RX11_76 kdV_X11_finds (c_X11_finds (k := 0) (by decide) (by decide)) ⟨rfl, rfl, by decide, by decide, Nat.le_refl _, Nat.le_refl _⟩ rfl 11 0 rfl rfl rfl (Nat.le_of_ble_eq_true rfl) dX11_of_23 (fun _ => rfl) (fun r u H locs hq h => ?_)
      obtain rfl := hq
      exact hret _ _ _ _ _ _ (Or.inr ⟨by first | exact fun q => b2 q.1 | exact fun q => b14 q.2, rfl, rfl⟩) h dX11_of_26
  ·
    refine n_zeq hx hb (by decide) (tgt := 20) dX11_of_5 (by decide) (fun _ => ?_) (fun q => absurd q (by decide))
    refine lv_aload_n hx hb dX11_of_20 rfl (lv_at hl 0 rfl) ?_
    refine lv_ldc (v := -1000000001) hx hb S0.2.2.2.1 (S0.2.2.2.2 _ (rin6 _ (List.mem_of_getElem? (i := 21) rfl))) dX11_of_21 ?_
    refine cV_i0 S0 hG hA h hl.1 kw_RX11_76 kdV_X11_finds (c_X11_finds (k := 0) (by decide) (by decide)) ⟨rfl, rfl, by decide, by decide, Nat.le_refl _, Nat.le_refl _⟩ rfl 11 0 rfl rfl rfl (Nat.le_of_ble_eq_true rfl) dX11_of_23 (fun _ => rfl) (fun r u H locs hq h => ?_)
    obtain rfl := hq
    exact hret _ _ _ _ _ _ (Or.inr ⟨by first | exact fun q => b2 q.1 | exact fun q => b14 q.2, rfl, rfl⟩) h dX11_of_26
