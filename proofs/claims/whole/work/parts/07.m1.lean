/-! the reference: its smallest methods -/
variable {G : GT} {l : Launch} {a : Nat → Nat} {f g o d st du tb bi si : Nat → Nat} {nu mo : Nat → Int64} {kp it tn fr to vl wr : Nat}
set_option maxHeartbeats 4000000 in
set_option maxRecDepth 100000 in
theorem c_X11_in {x y z : Int64} : Ki G l yX11_in cX11_in 6 (some .boolean) (RM 1 0) [.long x, .long y, .long z] ([]) (fun u : Unit => []) (fun r _ => (r = nI 1 ∧ y.toInt ≤ x.toInt ∧ x.toInt ≤ z.toInt) ∨ (r = nI 0 ∧ ¬ (y.toInt ≤ x.toInt ∧ x.toInt ≤ z.toInt))) := by
  refine Ki.ofz (by decide) (Nat.le_of_ble_eq_true rfl) ?_
  intro p e s m args below meth c A Q ls hx hb S0 hG hA h hret hl
  have S0 : CF p m c cX11_in 6 s args RX11 := S0
  have hl : lv_has ls 6 [(0, .long x), (2, .long y), (4, .long z)] := hl
  refine lv_lload_n hx hb dX11_in_0 rfl (lv_at hl 0 rfl) ?_
  refine lv_lload_n hx hb dX11_in_1 rfl (lv_at hl 1 rfl) ?_
  refine W.lcmp hx hb dX11_in_2 ?_
  refine lv_if_lt hx hb (tgt := 17) dX11_in_3 (by decide) (fun c3 => ?_) (fun c3 => ?_)
  ·
    refine lv_iconst (v := nI 0) hx hb dX11_in_17 (by decide) ?_
    exact hret _ () _ _ _ _ (by decide) (by simp only [lg_cmp_lt, lg_cmp_gt, cmpL.1] at c3; exact Or.inr ⟨rfl, by omega⟩) h dX11_in_18
  ·
    refine lv_lload_n hx hb dX11_in_6 rfl (lv_at hl 0 rfl) ?_
    refine lv_lload hx hb dX11_in_7 (lv_at hl 2 rfl) ?_
    refine W.lcmp hx hb dX11_in_9 ?_
    refine lv_if_gt hx hb (tgt := 17) dX11_in_10 (by decide) (fun c10 => ?_) (fun c10 => ?_)
    ·
      refine lv_iconst (v := nI 0) hx hb dX11_in_17 (by decide) ?_
      exact hret _ () _ _ _ _ (by decide) (by simp only [lg_cmp_lt, lg_cmp_gt, cmpL.1] at c3 c10; exact Or.inr ⟨rfl, by omega⟩) h dX11_in_18
    ·
      refine lv_iconst (v := nI 1) hx hb dX11_in_13 (by decide) ?_
      refine lv_goto (tgt := 18) hx hb dX11_in_14 (by decide) ?_
      exact hret _ () _ _ _ _ (by decide) (by simp only [lg_cmp_lt, lg_cmp_gt, cmpL.1] at c3 c10; exact Or.inl ⟨rfl, by omega⟩) h dX11_in_18
theorem kw_RX11_49 : GoodIn wsL_law (va_wsS RX11 49 yX11_in (WS yX11_in cX11_in 6 (some .boolean))) := gS (rin7 _ (List.mem_of_getElem? (i := 2) rfl)) (rin7 _ (List.mem_of_getElem? (i := 3) rfl)) (rin1 _ (List.mem_of_getElem? (i := 5) rfl)) (rin7 _ (List.mem_of_getElem? (i := 4) rfl))
theorem kdS_X11_in : yX11_in.cls ≠ "java/lang/invoke/MethodHandle" ∧ yX11_in.cls ≠ "java/lang/invoke/VarHandle" ∧ (parseMethodDescriptor yX11_in.desc).map (fun d => d.parameters.length) = some 3 := ⟨by decide +kernel, by decide +kernel, by decide +kernel⟩
set_option maxHeartbeats 4000000 in
set_option maxRecDepth 100000 in
theorem c_X11_isSpot {x : Int32} : Ki G l yX11_isSpot cX11_isSpot 1 (some .boolean) (RM 2 25) [.int x] ([]) (fun u : Unit => []) (fun r _ => (r = nI 1 ∧ inR x 0 11) ∨ (r = nI 0 ∧ ¬ inR x 0 11)) := by
  refine Ki.ofz (by decide) (Nat.le_of_ble_eq_true rfl) ?_
  intro p e s m args below meth c A Q ls hx hb S0 hG hA h hret hl
  have S0 : CF p m c cX11_isSpot 1 s args RX11 := S0
  have hl : lv_has ls 1 [(0, .int x)] := hl
  refine lv_iload_n hx hb dX11_isSpot_0 rfl (lv_at hl 0 rfl) ?_
  refine lv_i2l hx hb dX11_isSpot_1 rfl ?_
  refine lv_lconst (v := 0) hx hb dX11_isSpot_2 (by decide) ?_
  refine lv_ldc2 (v := 11) hx hb S0.2.2.2.1 (S0.2.2.2.2 _ (rin7 _ (List.mem_of_getElem? (i := 8) rfl))) dX11_isSpot_3 ?_
  refine cS_iE S0 hG hA h hl.1 kw_RX11_49 kdS_X11_in (c_X11_in) ⟨rfl, rfl, by decide, by decide, Nat.le_refl _, Nat.le_refl _⟩ rfl rfl (Nat.le_of_ble_eq_true rfl) dX11_isSpot_6 (fun r u H locs hq h => ?_)
  rcases hq with ⟨rfl, b6⟩ | ⟨rfl, b6⟩
  ·
    exact hret _ () _ _ _ _ (by decide) (Or.inl ⟨rfl, by simpa [inR, i2l_toInt] using b6⟩) h dX11_isSpot_9
  ·
    exact hret _ () _ _ _ _ (by decide) (Or.inr ⟨rfl, by simpa [inR, i2l_toInt] using b6⟩) h dX11_isSpot_9
set_option maxHeartbeats 4000000 in
set_option maxRecDepth 100000 in
theorem c_X11_isQuarter {x : Int32} : Ki G l yX11_isQuarter cX11_isQuarter 1 (some .boolean) (RM 2 25) [.int x] ([]) (fun u : Unit => []) (fun r _ => (r = nI 1 ∧ inR x 0 5) ∨ (r = nI 0 ∧ ¬ inR x 0 5)) := by
  refine Ki.ofz (by decide) (Nat.le_of_ble_eq_true rfl) ?_
  intro p e s m args below meth c A Q ls hx hb S0 hG hA h hret hl
  have S0 : CF p m c cX11_isQuarter 1 s args RX11 := S0
  have hl : lv_has ls 1 [(0, .int x)] := hl
  refine lv_iload_n hx hb dX11_isQuarter_0 rfl (lv_at hl 0 rfl) ?_
  refine lv_i2l hx hb dX11_isQuarter_1 rfl ?_
  refine lv_lconst (v := 0) hx hb dX11_isQuarter_2 (by decide) ?_
  refine lv_ldc2 (v := 5) hx hb S0.2.2.2.1 (S0.2.2.2.2 _ (rin7 _ (List.mem_of_getElem? (i := 1) rfl))) dX11_isQuarter_3 ?_
  refine cS_iE S0 hG hA h hl.1 kw_RX11_49 kdS_X11_in (c_X11_in) ⟨rfl, rfl, by decide, by decide, Nat.le_refl _, Nat.le_refl _⟩ rfl rfl (Nat.le_of_ble_eq_true rfl) dX11_isQuarter_6 (fun r u H locs hq h => ?_)
  rcases hq with ⟨rfl, b6⟩ | ⟨rfl, b6⟩
  ·
    exact hret _ () _ _ _ _ (by decide) (Or.inl ⟨rfl, by simpa [inR, i2l_toInt] using b6⟩) h dX11_isQuarter_9
  ·
    exact hret _ () _ _ _ _ (by decide) (Or.inr ⟨rfl, by simpa [inR, i2l_toInt] using b6⟩) h dX11_isQuarter_9
set_option maxHeartbeats 4000000 in
set_option maxRecDepth 100000 in
theorem c_X11_isBell {x : Int32} : Ki G l yX11_isBell cX11_isBell 1 (some .boolean) (RM 2 25) [.int x] ([]) (fun u : Unit => []) (fun r _ => (r = nI 1 ∧ inR x 0 2) ∨ (r = nI 0 ∧ ¬ inR x 0 2)) := by
  refine Ki.ofz (by decide) (Nat.le_of_ble_eq_true rfl) ?_
  intro p e s m args below meth c A Q ls hx hb S0 hG hA h hret hl
  have S0 : CF p m c cX11_isBell 1 s args RX11 := S0
  have hl : lv_has ls 1 [(0, .int x)] := hl
  refine lv_iload_n hx hb dX11_isBell_0 rfl (lv_at hl 0 rfl) ?_
  refine lv_i2l hx hb dX11_isBell_1 rfl ?_
  refine lv_lconst (v := 0) hx hb dX11_isBell_2 (by decide) ?_
  refine lv_ldc2 (v := 2) hx hb S0.2.2.2.1 (S0.2.2.2.2 _ (rin8 _ (List.mem_of_getElem? (i := 5) rfl))) dX11_isBell_3 ?_
  refine cS_iE S0 hG hA h hl.1 kw_RX11_49 kdS_X11_in (c_X11_in) ⟨rfl, rfl, by decide, by decide, Nat.le_refl _, Nat.le_refl _⟩ rfl rfl (Nat.le_of_ble_eq_true rfl) dX11_isBell_6 (fun r u H locs hq h => ?_)
  rcases hq with ⟨rfl, b6⟩ | ⟨rfl, b6⟩
  ·
    exact hret _ () _ _ _ _ (by decide) (Or.inl ⟨rfl, by simpa [inR, i2l_toInt] using b6⟩) h dX11_isBell_9
  ·
    exact hret _ () _ _ _ _ (by decide) (Or.inr ⟨rfl, by simpa [inR, i2l_toInt] using b6⟩) h dX11_isBell_9
set_option maxHeartbeats 4000000 in
set_option maxRecDepth 100000 in
theorem c_X11_isKind {x : Int32} : Ki G l yX11_isKind cX11_isKind 1 (some .boolean) (RM 2 25) [.int x] ([]) (fun u : Unit => []) (fun r _ => (r = nI 1 ∧ inR x 0 5) ∨ (r = nI 0 ∧ ¬ inR x 0 5)) := by
  refine Ki.ofz (by decide) (Nat.le_of_ble_eq_true rfl) ?_
  intro p e s m args below meth c A Q ls hx hb S0 hG hA h hret hl
  have S0 : CF p m c cX11_isKind 1 s args RX11 := S0
  have hl : lv_has ls 1 [(0, .int x)] := hl
  refine lv_iload_n hx hb dX11_isKind_0 rfl (lv_at hl 0 rfl) ?_
  refine lv_i2l hx hb dX11_isKind_1 rfl ?_
  refine lv_lconst (v := 0) hx hb dX11_isKind_2 (by decide) ?_
  refine lv_ldc2 (v := 5) hx hb S0.2.2.2.1 (S0.2.2.2.2 _ (rin7 _ (List.mem_of_getElem? (i := 1) rfl))) dX11_isKind_3 ?_
  refine cS_iE S0 hG hA h hl.1 kw_RX11_49 kdS_X11_in (c_X11_in) ⟨rfl, rfl, by decide, by decide, Nat.le_refl _, Nat.le_refl _⟩ rfl rfl (Nat.le_of_ble_eq_true rfl) dX11_isKind_6 (fun r u H locs hq h => ?_)
  rcases hq with ⟨rfl, b6⟩ | ⟨rfl, b6⟩
  ·
    exact hret _ () _ _ _ _ (by decide) (Or.inl ⟨rfl, by simpa [inR, i2l_toInt] using b6⟩) h dX11_isKind_9
  ·
    exact hret _ () _ _ _ _ (by decide) (Or.inr ⟨rfl, by simpa [inR, i2l_toInt] using b6⟩) h dX11_isKind_9
set_option maxHeartbeats 4000000 in
set_option maxRecDepth 100000 in
theorem c_X11_isAhead {x : Int32} : Ki G l yX11_isAhead cX11_isAhead 1 (some .boolean) (RM 2 25) [.int x] ([]) (fun u : Unit => []) (fun r _ => (r = nI 1 ∧ inR x 0 300) ∨ (r = nI 0 ∧ ¬ inR x 0 300)) := by
  refine Ki.ofz (by decide) (Nat.le_of_ble_eq_true rfl) ?_
  intro p e s m args below meth c A Q ls hx hb S0 hG hA h hret hl
  have S0 : CF p m c cX11_isAhead 1 s args RX11 := S0
  have hl : lv_has ls 1 [(0, .int x)] := hl
  refine lv_iload_n hx hb dX11_isAhead_0 rfl (lv_at hl 0 rfl) ?_
  refine lv_i2l hx hb dX11_isAhead_1 rfl ?_
  refine lv_lconst (v := 0) hx hb dX11_isAhead_2 (by decide) ?_
  refine lv_ldc2 (v := 300) hx hb S0.2.2.2.1 (S0.2.2.2.2 _ (rin23 _ (List.mem_of_getElem? (i := 6) rfl))) dX11_isAhead_3 ?_
  refine cS_iE S0 hG hA h hl.1 kw_RX11_49 kdS_X11_in (c_X11_in) ⟨rfl, rfl, by decide, by decide, Nat.le_refl _, Nat.le_refl _⟩ rfl rfl (Nat.le_of_ble_eq_true rfl) dX11_isAhead_6 (fun r u H locs hq h => ?_)
  rcases hq with ⟨rfl, b6⟩ | ⟨rfl, b6⟩
  ·
    exact hret _ () _ _ _ _ (by decide) (Or.inl ⟨rfl, by simpa [inR, i2l_toInt] using b6⟩) h dX11_isAhead_9
  ·
    exact hret _ () _ _ _ _ (by decide) (Or.inr ⟨rfl, by simpa [inR, i2l_toInt] using b6⟩) h dX11_isAhead_9
set_option maxHeartbeats 4000000 in
set_option maxRecDepth 100000 in
theorem c_X11_isSoon {x : Int32} : Ki G l yX11_isSoon cX11_isSoon 1 (some .boolean) (RM 2 25) [.int x] ([]) (fun u : Unit => []) (fun r _ => (r = nI 1 ∧ inR x 1 100) ∨ (r = nI 0 ∧ ¬ inR x 1 100)) := by
  refine Ki.ofz (by decide) (Nat.le_of_ble_eq_true rfl) ?_
  intro p e s m args below meth c A Q ls hx hb S0 hG hA h hret hl
  have S0 : CF p m c cX11_isSoon 1 s args RX11 := S0
  have hl : lv_has ls 1 [(0, .int x)] := hl
  refine lv_iload_n hx hb dX11_isSoon_0 rfl (lv_at hl 0 rfl) ?_
  refine lv_i2l hx hb dX11_isSoon_1 rfl ?_
  refine lv_lconst (v := 1) hx hb dX11_isSoon_2 (by decide) ?_
  refine lv_ldc2 (v := 100) hx hb S0.2.2.2.1 (S0.2.2.2.2 _ (rin26 _ (List.mem_of_getElem? (i := 0) rfl))) dX11_isSoon_3 ?_
  refine cS_iE S0 hG hA h hl.1 kw_RX11_49 kdS_X11_in (c_X11_in) ⟨rfl, rfl, by decide, by decide, Nat.le_refl _, Nat.le_refl _⟩ rfl rfl (Nat.le_of_ble_eq_true rfl) dX11_isSoon_6 (fun r u H locs hq h => ?_)
  rcases hq with ⟨rfl, b6⟩ | ⟨rfl, b6⟩
  ·
    exact hret _ () _ _ _ _ (by decide) (Or.inl ⟨rfl, by simpa [inR, i2l_toInt] using b6⟩) h dX11_isSoon_9
  ·
    exact hret _ () _ _ _ _ (by decide) (Or.inr ⟨rfl, by simpa [inR, i2l_toInt] using b6⟩) h dX11_isSoon_9
set_option maxHeartbeats 4000000 in
set_option maxRecDepth 100000 in
theorem c_X11_isOne {x : Int32} : Ki G l yX11_isOne cX11_isOne 1 (some .boolean) (RM 2 25) [.int x] ([]) (fun u : Unit => []) (fun r _ => (r = nI 1 ∧ inR x 0 3) ∨ (r = nI 0 ∧ ¬ inR x 0 3)) := by
  refine Ki.ofz (by decide) (Nat.le_of_ble_eq_true rfl) ?_
  intro p e s m args below meth c A Q ls hx hb S0 hG hA h hret hl
  have S0 : CF p m c cX11_isOne 1 s args RX11 := S0
  have hl : lv_has ls 1 [(0, .int x)] := hl
  refine lv_iload_n hx hb dX11_isOne_0 rfl (lv_at hl 0 rfl) ?_
  refine lv_i2l hx hb dX11_isOne_1 rfl ?_
  refine lv_lconst (v := 0) hx hb dX11_isOne_2 (by decide) ?_
  refine lv_ldc2 (v := 3) hx hb S0.2.2.2.1 (S0.2.2.2.2 _ (rin36 _ (List.mem_of_getElem? (i := 16) rfl))) dX11_isOne_3 ?_
  refine cS_iE S0 hG hA h hl.1 kw_RX11_49 kdS_X11_in (c_X11_in) ⟨rfl, rfl, by decide, by decide, Nat.le_refl _, Nat.le_refl _⟩ rfl rfl (Nat.le_of_ble_eq_true rfl) dX11_isOne_6 (fun r u H locs hq h => ?_)
  rcases hq with ⟨rfl, b6⟩ | ⟨rfl, b6⟩
  ·
    exact hret _ () _ _ _ _ (by decide) (Or.inl ⟨rfl, by simpa [inR, i2l_toInt] using b6⟩) h dX11_isOne_9
  ·
    exact hret _ () _ _ _ _ (by decide) (Or.inr ⟨rfl, by simpa [inR, i2l_toInt] using b6⟩) h dX11_isOne_9
set_option maxHeartbeats 4000000 in
set_option maxRecDepth 100000 in
theorem c_X11_isLetter {x : Int32} : Ki G l yX11_isLetter cX11_isLetter 1 (some .boolean) (RM 2 25) [.int x] ([]) (fun u : Unit => []) (fun r _ => (r = nI 1 ∧ inR x 97 122) ∨ (r = nI 0 ∧ ¬ inR x 97 122)) := by
  refine Ki.ofz (by decide) (Nat.le_of_ble_eq_true rfl) ?_
  intro p e s m args below meth c A Q ls hx hb S0 hG hA h hret hl
  have S0 : CF p m c cX11_isLetter 1 s args RX11 := S0
  have hl : lv_has ls 1 [(0, .int x)] := hl
  refine lv_iload_n hx hb dX11_isLetter_0 rfl (lv_at hl 0 rfl) ?_
  refine lv_i2l hx hb dX11_isLetter_1 rfl ?_
  refine lv_ldc2 (v := 97) hx hb S0.2.2.2.1 (S0.2.2.2.2 _ (rin33 _ (List.mem_of_getElem? (i := 14) rfl))) dX11_isLetter_2 ?_
  refine lv_ldc2 (v := 122) hx hb S0.2.2.2.1 (S0.2.2.2.2 _ (rin33 _ (List.mem_of_getElem? (i := 15) rfl))) dX11_isLetter_5 ?_
  refine cS_iE S0 hG hA h hl.1 kw_RX11_49 kdS_X11_in (c_X11_in) ⟨rfl, rfl, by decide, by decide, Nat.le_refl _, Nat.le_refl _⟩ rfl rfl (Nat.le_of_ble_eq_true rfl) dX11_isLetter_8 (fun r u H locs hq h => ?_)
  rcases hq with ⟨rfl, b8⟩ | ⟨rfl, b8⟩
  ·
    exact hret _ () _ _ _ _ (by decide) (Or.inl ⟨rfl, by simpa [inR, i2l_toInt] using b8⟩) h dX11_isLetter_11
  ·
    exact hret _ () _ _ _ _ (by decide) (Or.inr ⟨rfl, by simpa [inR, i2l_toInt] using b8⟩) h dX11_isLetter_11
set_option maxHeartbeats 4000000 in
set_option maxRecDepth 100000 in
theorem c_X11_isDigit {x : Int32} : Ki G l yX11_isDigit cX11_isDigit 1 (some .boolean) (RM 2 25) [.int x] ([]) (fun u : Unit => []) (fun r _ => (r = nI 1 ∧ inR x 48 57) ∨ (r = nI 0 ∧ ¬ inR x 48 57)) := by
  refine Ki.ofz (by decide) (Nat.le_of_ble_eq_true rfl) ?_
  intro p e s m args below meth c A Q ls hx hb S0 hG hA h hret hl
  have S0 : CF p m c cX11_isDigit 1 s args RX11 := S0
  have hl : lv_has ls 1 [(0, .int x)] := hl
  refine lv_iload_n hx hb dX11_isDigit_0 rfl (lv_at hl 0 rfl) ?_
  refine lv_i2l hx hb dX11_isDigit_1 rfl ?_
  refine lv_ldc2 (v := 48) hx hb S0.2.2.2.1 (S0.2.2.2.2 _ (rin33 _ (List.mem_of_getElem? (i := 19) rfl))) dX11_isDigit_2 ?_
  refine lv_ldc2 (v := 57) hx hb S0.2.2.2.1 (S0.2.2.2.2 _ (rin33 _ (List.mem_of_getElem? (i := 20) rfl))) dX11_isDigit_5 ?_
  refine cS_iE S0 hG hA h hl.1 kw_RX11_49 kdS_X11_in (c_X11_in) ⟨rfl, rfl, by decide, by decide, Nat.le_refl _, Nat.le_refl _⟩ rfl rfl (Nat.le_of_ble_eq_true rfl) dX11_isDigit_8 (fun r u H locs hq h => ?_)
  rcases hq with ⟨rfl, b8⟩ | ⟨rfl, b8⟩
  ·
    exact hret _ () _ _ _ _ (by decide) (Or.inl ⟨rfl, by simpa [inR, i2l_toInt] using b8⟩) h dX11_isDigit_11
  ·
    exact hret _ () _ _ _ _ (by decide) (Or.inr ⟨rfl, by simpa [inR, i2l_toInt] using b8⟩) h dX11_isDigit_11
set_option maxHeartbeats 4000000 in
set_option maxRecDepth 100000 in
theorem c_X11_spot {x y : Nat} : Ki G l yX11_spot cX11_spot 2 (some .int) (RM 1 0) [.int (nI x), .int (nI y)] ([]) (fun u : Unit => []) (fun r _ => r = nI (11 + 5 * x + y)) := by
  refine Ki.of (by decide) (Nat.le_of_ble_eq_true rfl) ?_
  intro p e s m args below meth c A Q ls hx hb S0 hG hA h hret hl
  have S0 : CF p m c cX11_spot 2 s args RX11 := S0
  have hl : lv_has ls 2 [(0, .int (nI x)), (1, .int (nI y))] := hl
  refine lv_bipush (v := nI 11) hx hb dX11_spot_0 (by decide) ?_
  refine lv_iconst (v := nI 5) hx hb dX11_spot_2 (by decide) ?_
  refine lv_iload_n hx hb dX11_spot_3 rfl (lv_at hl 0 rfl) ?_
  refine n_mul hx hb dX11_spot_4 ?_
  refine n_add hx hb dX11_spot_5 ?_
  refine lv_iload_n hx hb dX11_spot_6 rfl (lv_at hl 1 rfl) ?_
  refine n_add hx hb dX11_spot_7 ?_
  exact hret _ () _ _ _ _ rfl h dX11_spot_8
theorem kw_RX11_45 : GoodIn wsL_law (va_wsS RX11 45 yX11_spot (WS yX11_spot cX11_spot 2 (some .int))) := gS (rin12 _ (List.mem_of_getElem? (i := 14) rfl)) (rin12 _ (List.mem_of_getElem? (i := 15) rfl)) (rin1 _ (List.mem_of_getElem? (i := 5) rfl)) (rin12 _ (List.mem_of_getElem? (i := 16) rfl))
theorem kdS_X11_spot : yX11_spot.cls ≠ "java/lang/invoke/MethodHandle" ∧ yX11_spot.cls ≠ "java/lang/invoke/VarHandle" ∧ (parseMethodDescriptor yX11_spot.desc).map (fun d => d.parameters.length) = some 2 := ⟨by decide +kernel, by decide +kernel, by decide +kernel⟩
set_option maxHeartbeats 4000000 in
set_option maxRecDepth 100000 in
theorem c_X11_its {x y : Nat} (hx1 : x < 8) (hy1 : y < 5) : Ki G l yX11_its cX11_its 3 (some .int) (RM 2 21) [.ref (a 0), .int (nI x), .int (nI y)] (wM G a f g o d st du tb bi si nu mo kp it tn fr to vl wr) (fun u : Unit => wM G a f g o d st du tb bi si nu mo kp it tn fr to vl wr) (fun r _ => r = nI (its f x y)) := by
  refine Ki.of (by decide) (Nat.le_of_ble_eq_true rfl) ?_
  intro p e s m args below meth c A Q ls hx hb S0 hG hA h hret hl
  have S0 : CF p m c cX11_its 3 s args RX11 := S0
  have hl : lv_has ls 3 [(0, .ref (a 0)), (1, .int (nI x)), (2, .int (nI y))] := hl
  refine lv_aload_n hx hb dX11_its_0 rfl (lv_at hl 0 rfl) ?_
  refine gM_s S0 hG h dX11_its_1 ?_
  refine lv_iload_n hx hb dX11_its_4 rfl (lv_at hl 1 rfl) ?_
  refine lv_iload_n hx hb dX11_its_5 rfl (lv_at hl 2 rfl) ?_
  refine cS_iE S0 hG hA h hl.1 kw_RX11_45 kdS_X11_spot (c_X11_spot) ⟨rfl, rfl, by decide, by decide, Nat.le_refl _, Nat.le_refl _⟩ rfl rfl (Nat.le_of_ble_eq_true rfl) dX11_its_6 (fun r u H locs hq h => ?_)
  obtain rfl := hq
  refine rM_s S0 hG h (by omega) dX11_its_9 ?_
  exact hret _ () _ _ _ _ rfl h dX11_its_10
set_option maxHeartbeats 4000000 in
set_option maxRecDepth 100000 in
theorem c_X11_becomes {x y : Nat} (hx1 : x < 51) : Ki G l yX11_becomes cX11_becomes 4 (some .int) (RM 1 0) [.ref (a 0), .int (nI x), .int (nI y)] (wM G a f g o d st du tb bi si nu mo kp it tn fr to vl wr) (fun u : Unit => wM G a (va_up f x y) g o d st du tb bi si nu mo kp it tn fr to vl wr) (fun r _ => r = nI (f x)) := by
  refine Ki.of (by decide) (Nat.le_of_ble_eq_true rfl) ?_
  intro p e s m args below meth c A Q ls hx hb S0 hG hA h hret hl
  have S0 : CF p m c cX11_becomes 4 s args RX11 := S0
  have hl : lv_has ls 4 [(0, .ref (a 0)), (1, .int (nI x)), (2, .int (nI y))] := hl
  refine lv_aload_n hx hb dX11_becomes_0 rfl (lv_at hl 0 rfl) ?_
  refine gM_s S0 hG h dX11_becomes_1 ?_
  refine lv_iload_n hx hb dX11_becomes_4 rfl (lv_at hl 1 rfl) ?_
  refine rM_s S0 hG h (by omega) dX11_becomes_5 ?_
  refine lv_istore_n hx hb dX11_becomes_6 rfl hl (by decide) rfl (fun ls hl => ?_)
  refine lv_aload_n hx hb dX11_becomes_7 rfl (lv_at hl 1 rfl) ?_
  refine gM_s S0 hG h dX11_becomes_8 ?_
  refine lv_iload_n hx hb dX11_becomes_11 rfl (lv_at hl 2 rfl) ?_
  refine lv_iload_n hx hb dX11_becomes_12 rfl (lv_at hl 3 rfl) ?_
  refine sM_s S0 hG h (by omega) dX11_becomes_13 (fun H locs h => ?_)
  refine lv_iload_n hx hb dX11_becomes_14 rfl (lv_at hl 0 rfl) ?_
  exact hret _ () _ _ _ _ rfl h dX11_becomes_15
