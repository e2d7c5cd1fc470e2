/-! a sheet -/
def wSh (G : GT) (a : Nat → Nat) (nu : Nat → Int64) (bb ss : Nat) : va_W := [(a 0, .inr (7, [.ref (a 1), .int (nI bb), .int (nI ss)])), (a 1, .inl (gJ G, 40, .inr (.inl nu)))]
section SR
variable {p : Program} {l : Launch} {e : Env} {R : Room} {s : State} {m : MethodId} {args : Array Value} {below : List Frame} {meth : Method} {c : Code} {H : Heap} {locs : List Loc} {cells slots : Nat} {Q : State → Prop}
variable {cc : ByteArray} {pc nL : Nat} {ls : Array Slot} {rest : List Value} {A : Nat → Prop} {G : GT} {a : Nat → Nat} {own : String}
variable {nu : Nat → Int64} {bb ss : Nat}
theorem gS_numbers (S0 : CF p m c cc nL s args RX7) (hG : GX G A s) (h : WX G A s H locs (wSh G a nu bb ss)) (hdg : decode cc pc = .ok (.getfield 9, 3)) (kk : W p l e R s m args below meth c H locs cells slots Q (F0 m (pc + 3) ls (.ref (a 1) :: rest))) : W p l e R s m args below meth c H locs cells slots Q (F0 m pc ls (.ref (a 0) :: rest)) :=
  va_get S0.1 S0.2.1 S0.2.2.2.2 inlX7 S0.2.2.2.1 hG.2.2.1 h.1 0 rfl rfl 0 (by decide) (S0.2.2.2.2 _ (rin5 _ (List.mem_of_getElem? (i := 8) rfl))) (fun _ h => h) rfl hdg kk
theorem gS_bits (S0 : CF p m c cc nL s args RX7) (hG : GX G A s) (h : WX G A s H locs (wSh G a nu bb ss)) (hdg : decode cc pc = .ok (.getfield 15, 3)) (kk : W p l e R s m args below meth c H locs cells slots Q (F0 m (pc + 3) ls (.int (nI bb) :: rest))) : W p l e R s m args below meth c H locs cells slots Q (F0 m pc ls (.ref (a 0) :: rest)) :=
  va_get S0.1 S0.2.1 S0.2.2.2.2 inlX7 S0.2.2.2.1 hG.2.2.1 h.1 0 rfl rfl 1 (by decide) (S0.2.2.2.2 _ (rin5 _ (List.mem_of_getElem? (i := 9) rfl))) (fun _ h => h) rfl hdg kk
theorem pS_bits {v : Nat} (S0 : CF p m c cc nL s args RX7) (hG : GX G A s) (h : WX G A s H locs (wSh G a nu bb ss)) (hdg : decode cc pc = .ok (.putfield 15, 3)) (kk : ∀ (H1 : Heap) (locs1 : List Loc), WX G A s H1 locs1 (wSh G a nu v ss) → W p l e R s m args below meth c H1 locs1 cells slots Q (F0 m (pc + 3) ls rest)) : W p l e R s m args below meth c H locs cells slots Q (F0 m pc ls (.int (nI v) :: .ref (a 0) :: rest)) :=
  va_put (ty := .int) S0.1 S0.2.1 S0.2.2.2.2 inlX7 tyX7 tyX7_ok nmX7 S0.2.2.2.1 hG.2.2.1 h.1 h.2.1 h.2.2 0 rfl rfl 1 (by decide) (S0.2.2.2.2 _ (rin5 _ (List.mem_of_getElem? (i := 9) rfl))) (fun _ h => h) rfl (by decide +kernel) rfl rfl (Nat.le_of_ble_eq_true rfl) hdg (fun H1 locs1 hP hD hS => kk H1 locs1 (⟨hP, hD, hS⟩))
theorem gS_size (S0 : CF p m c cc nL s args RX7) (hG : GX G A s) (h : WX G A s H locs (wSh G a nu bb ss)) (hdg : decode cc pc = .ok (.getfield 19, 3)) (kk : W p l e R s m args below meth c H locs cells slots Q (F0 m (pc + 3) ls (.int (nI ss) :: rest))) : W p l e R s m args below meth c H locs cells slots Q (F0 m pc ls (.ref (a 0) :: rest)) :=
  va_get S0.1 S0.2.1 S0.2.2.2.2 inlX7 S0.2.2.2.1 hG.2.2.1 h.1 0 rfl rfl 2 (by decide) (S0.2.2.2.2 _ (rin5 _ (List.mem_of_getElem? (i := 10) rfl))) (fun _ h => h) rfl hdg kk
theorem pS_size {v : Nat} (S0 : CF p m c cc nL s args RX7) (hG : GX G A s) (h : WX G A s H locs (wSh G a nu bb ss)) (hdg : decode cc pc = .ok (.putfield 19, 3)) (kk : ∀ (H1 : Heap) (locs1 : List Loc), WX G A s H1 locs1 (wSh G a nu bb v) → W p l e R s m args below meth c H1 locs1 cells slots Q (F0 m (pc + 3) ls rest)) : W p l e R s m args below meth c H locs cells slots Q (F0 m pc ls (.int (nI v) :: .ref (a 0) :: rest)) :=
  va_put (ty := .int) S0.1 S0.2.1 S0.2.2.2.2 inlX7 tyX7 tyX7_ok nmX7 S0.2.2.2.1 hG.2.2.1 h.1 h.2.1 h.2.2 0 rfl rfl 2 (by decide) (S0.2.2.2.2 _ (rin5 _ (List.mem_of_getElem? (i := 10) rfl))) (fun _ h => h) rfl (by decide +kernel) rfl rfl (Nat.le_of_ble_eq_true rfl) hdg (fun H1 locs1 hP hD hS => kk H1 locs1 (⟨hP, hD, hS⟩))
theorem sS_numbers {j : Nat} {v : Int64} (S0 : CF p m c cc nL s args own) (hG : GX G A s) (h : WX G A s H locs (wSh G a nu bb ss)) (hj : j < 40) (hdg : decode cc pc = .ok (.lastore, 1)) (kk : ∀ (H1 : Heap) (locs1 : List Loc), WX G A s H1 locs1 (wSh G a (vp_updL nu j v) bb ss) → W p l e R s m args below meth c H1 locs1 cells slots Q (F0 m (pc + 1) ls rest)) : W p l e R s m args below meth c H locs cells slots Q (F0 m pc ls (.long v :: .int (nI j) :: .ref (a 1) :: rest)) :=
  va_last S0.1 S0.2.1 hG.2.2.1 h.1 h.2.1 h.2.2 1 1 rfl rfl (vp_in_nI hj (by decide)) hdg (fun H1 locs1 hP hD hS => kk H1 locs1 (by rw [cl_nI hj (by decide)] at hP hD; exact ⟨hP, hD, hS⟩))
theorem lS_numbers (S0 : CF p m c cc nL s args own) (hG : GX G A s) (h : WX G A s H locs (wSh G a nu bb ss)) (hdg : decode cc pc = .ok (.arraylength, 1)) (kk : W p l e R s m args below meth c H locs cells slots Q (F0 m (pc + 1) ls (.int (nI 40) :: rest))) : W p l e R s m args below meth c H locs cells slots Q (F0 m pc ls (.ref (a 1) :: rest)) :=
  va_alen S0.1 S0.2.1 hG.2.2.1 h.1 1 1 rfl rfl (v := nI 40) rfl hdg kk
end SR
def zf (nu : Nat → Int64) (v : Int64) (n : Nat) : Nat → Int64 := fun i => if i < n then v else nu i
theorem zf_0 (nu : Nat → Int64) (v : Int64) : zf nu v 0 = nu := funext fun i => by unfold zf; rw [if_neg (by omega)]
theorem zf_s (nu : Nat → Int64) (v : Int64) (k : Nat) : vp_updL (zf nu v k) k v = zf nu v (k + 1) := funext fun i => by
  unfold vp_updL zf
  by_cases h : i = k
  · rw [if_pos h, if_pos (by omega)]
  · rw [if_neg h]
    show (if i < k then v else nu i) = _
    by_cases h2 : i < k
    · rw [if_pos h2, if_pos (by omega)]
    · rw [if_neg h2, if_neg (by omega)]
variable {G : GT} {l : Launch} {a : Nat → Nat} {nu : Nat → Int64} {bb ss : Nat}
set_option maxHeartbeats 4000000 in
set_option maxRecDepth 100000 in
theorem c_J7_fill_d0a16 {v : Int64} : Kv G l yJ7_fill_d0a16 cJ7_fill_d0a16 5 none (RM 1 0) [.ref (a 1), .long v] (wSh G a nu bb ss) (fun u : Unit => wSh G a (fun _ => v) bb ss) (fun _ => True) := by
  refine Kv.of (by decide) (Nat.le_of_ble_eq_true rfl) ?_
  intro p e s m args below meth c A Q ls hx hb S0 hG hA h hret hl
  have S0 : CF p m c cJ7_fill_d0a16 5 s args RJ7 := S0
  have hl : lv_has ls 5 [(0, .ref (a 1)), (1, .long v)] := hl
  have lp6 : ∀ (kf : Nat) (i : Nat) (H : Heap) (locs : List Loc) (ls : Array Slot) (hi : i ≤ 40), 40 - i < kf → WX G A s H locs (wSh G a (zf nu v i) bb ss) → lv_has ls 5 [(0, .ref (a 1)), (1, .long v), (3, .int (nI i)), (4, .int (nI 40))] → W p l e (RM 1 0) s m args below meth c H locs 0 0 Q (F0 m 6 ls []) := by
    intro kf
    induction kf with
    | zero => intro i H locs ls hi hm; exact absurd hm (Nat.not_lt_zero _)
    | succ kf ih6 =>
      intro i H locs ls hi hm h hl
      refine lv_iload_n hx hb dJ7_fill_d0a16_6 rfl (lv_at hl 2 rfl) ?_
      refine lv_iload hx hb dJ7_fill_d0a16_7 (lv_at hl 3 rfl) ?_
      refine n_cge hx hb (by omega) (by omega) (tgt := 22) dJ7_fill_d0a16_9 (by decide) (fun c9 => ?_) (fun c9 => ?_)
      ·
        exact hret () _ _ _ _ trivial (h.ext_l 1 rfl (fun j hj => by show (if j < i then v else nu j) = v; rw [if_pos (by omega)]) : WX G A s _ _ (wSh G a (fun _ => v) bb ss)) dJ7_fill_d0a16_22
      ·
        refine lv_aload_n hx hb dJ7_fill_d0a16_12 rfl (lv_at hl 0 rfl) ?_
        refine lv_iload_n hx hb dJ7_fill_d0a16_13 rfl (lv_at hl 2 rfl) ?_
        refine lv_lload_n hx hb dJ7_fill_d0a16_14 rfl (lv_at hl 1 rfl) ?_
        refine sS_numbers S0 hG h (by omega) dJ7_fill_d0a16_15 (fun H locs h => ?_)
        refine lv_iinc hx hb dJ7_fill_d0a16_16 hl (k := 2) rfl (inc_1 _) (by decide) rfl (fun ls hl => ?_)
        refine lv_goto (tgt := 6) hx hb dJ7_fill_d0a16_19 (by decide) ?_
        exact ih6 (i + 1) _ _ _ (by omega) (by omega) (h.eq (by rw [zf_s])) (lv_sub hl [1, 2, 0, 3] rfl)
  refine lv_iconst (v := nI 0) hx hb dJ7_fill_d0a16_0 (by decide) ?_
  refine lv_istore_n hx hb dJ7_fill_d0a16_1 rfl hl (by decide) rfl (fun ls hl => ?_)
  refine lv_aload_n hx hb dJ7_fill_d0a16_2 rfl (lv_at hl 1 rfl) ?_
  refine lS_numbers S0 hG h dJ7_fill_d0a16_3 ?_
  refine lv_istore hx hb dJ7_fill_d0a16_4 hl (by decide) rfl (fun ls hl => ?_)
  exact lp6 _ 0 _ _ _ (by omega) (Nat.lt_succ_self _) (h.eq (by rw [zf_0])) (lv_sub hl [2, 3, 1, 0] rfl)
theorem kw_RX7_22 : GoodIn wsL_law (va_wsS RX7 22 yJ7_fill_d0a16 (WS yJ7_fill_d0a16 cJ7_fill_d0a16 5 none)) := gS (rin36 _ (List.mem_of_getElem? (i := 4) rfl)) (rin36 _ (List.mem_of_getElem? (i := 5) rfl)) (rin36 _ (List.mem_of_getElem? (i := 6) rfl)) (rin36 _ (List.mem_of_getElem? (i := 7) rfl))
theorem kdS_J7_fill_d0a16 : yJ7_fill_d0a16.cls ≠ "java/lang/invoke/MethodHandle" ∧ yJ7_fill_d0a16.cls ≠ "java/lang/invoke/VarHandle" ∧ (parseMethodDescriptor yJ7_fill_d0a16.desc).map (fun d => d.parameters.length) = some 2 := ⟨by decide +kernel, by decide +kernel, by decide +kernel⟩
set_option maxHeartbeats 4000000 in
set_option maxRecDepth 100000 in
theorem c_X7_lay {x y : Nat} (hx1 : x < 1000) : Kv G l yX7_lay cX7_lay 3 none (RM 2 24) [.ref (a 0), .int (nI x), .int (nI y)] (wSh G a nu bb ss) (fun u : Unit => wSh G a (fun _ => 0) x (if x = 0 then 0 else y)) (fun _ => True) := by
  refine Kv.of (by decide) (Nat.le_of_ble_eq_true rfl) ?_
  intro p e s m args below meth c A Q ls hx hb S0 hG hA h hret hl
  have S0 : CF p m c cX7_lay 3 s args RX7 := S0
  have hl : lv_has ls 3 [(0, .ref (a 0)), (1, .int (nI x)), (2, .int (nI y))] := hl
  refine lv_aload_n hx hb dX7_lay_0 rfl (lv_at hl 0 rfl) ?_
  refine lv_iload_n hx hb dX7_lay_1 rfl (lv_at hl 1 rfl) ?_
  refine pS_bits S0 hG h dX7_lay_2 (fun H locs h => ?_)
  refine lv_aload_n hx hb dX7_lay_5 rfl (lv_at hl 0 rfl) ?_
  refine lv_iload_n hx hb dX7_lay_6 rfl (lv_at hl 1 rfl) ?_
  refine n_zne hx hb (by omega) (tgt := 14) dX7_lay_7 (by decide) (fun c7 => ?_) (fun c7 => ?_)
  ·
    refine lv_iload_n hx hb dX7_lay_14 rfl (lv_at hl 2 rfl) ?_
    refine pS_size S0 hG h dX7_lay_15 (fun H locs h => ?_)
    refine lv_aload_n hx hb dX7_lay_18 rfl (lv_at hl 0 rfl) ?_
    refine gS_numbers S0 hG h dX7_lay_19 ?_
    refine lv_lconst (v := 0) hx hb dX7_lay_22 (by decide) ?_
    refine cS_v0 S0 hG hA h hl.1 kw_RX7_22 kdS_J7_fill_d0a16 (c_J7_fill_d0a16) ⟨rfl, rfl, by decide, by decide, Nat.le_refl _, Nat.le_refl _⟩ rfl rfl (Nat.le_of_ble_eq_true rfl) dX7_lay_23 (fun _ => rfl) (fun u H locs hq h => ?_)
    exact hret () _ _ _ _ trivial (h.eq (by rw [if_neg (by omega)])) dX7_lay_26
  ·
    refine lv_iconst (v := nI 0) hx hb dX7_lay_10 (by decide) ?_
    refine lv_goto (tgt := 15) hx hb dX7_lay_11 (by decide) ?_
    refine pS_size S0 hG h dX7_lay_15 (fun H locs h => ?_)
    refine lv_aload_n hx hb dX7_lay_18 rfl (lv_at hl 0 rfl) ?_
    refine gS_numbers S0 hG h dX7_lay_19 ?_
    refine lv_lconst (v := 0) hx hb dX7_lay_22 (by decide) ?_
    refine cS_v0 S0 hG hA h hl.1 kw_RX7_22 kdS_J7_fill_d0a16 (c_J7_fill_d0a16) ⟨rfl, rfl, by decide, by decide, Nat.le_refl _, Nat.le_refl _⟩ rfl rfl (Nat.le_of_ble_eq_true rfl) dX7_lay_23 (fun _ => rfl) (fun u H locs hq h => ?_)
    exact hret () _ _ _ _ trivial (h.eq (by rw [if_pos c7])) dX7_lay_26
set_option maxHeartbeats 4000000 in
set_option maxRecDepth 100000 in
theorem c_X7_isMissing (hb1 : bb < 1000) : Ki G l yX7_isMissing cX7_isMissing 1 (some .boolean) (RM 1 0) [.ref (a 0)] (wSh G a nu bb ss) (fun u : Unit => wSh G a nu bb ss) (fun r _ => (r = nI 1 ∧ bb = 0) ∨ (r = nI 0 ∧ bb ≠ 0)) := by
  refine Ki.ofz (by decide) (Nat.le_of_ble_eq_true rfl) ?_
  intro p e s m args below meth c A Q ls hx hb S0 hG hA h hret hl
  have S0 : CF p m c cX7_isMissing 1 s args RX7 := S0
  have hl : lv_has ls 1 [(0, .ref (a 0))] := hl
  refine lv_aload_n hx hb dX7_isMissing_0 rfl (lv_at hl 0 rfl) ?_
  refine gS_bits S0 hG h dX7_isMissing_1 ?_
  refine n_zne hx hb (by omega) (tgt := 11) dX7_isMissing_4 (by decide) (fun c4 => ?_) (fun c4 => ?_)
  ·
    refine lv_iconst (v := nI 0) hx hb dX7_isMissing_11 (by decide) ?_
    exact hret _ () _ _ _ _ (by decide) (Or.inr ⟨rfl, by omega⟩) h dX7_isMissing_12
  ·
    refine lv_iconst (v := nI 1) hx hb dX7_isMissing_7 (by decide) ?_
    refine lv_goto (tgt := 12) hx hb dX7_isMissing_8 (by decide) ?_
    exact hret _ () _ _ _ _ (by decide) (Or.inl ⟨rfl, c4⟩) h dX7_isMissing_12
set_option maxHeartbeats 4000000 in
set_option maxRecDepth 100000 in
theorem c_X7_narrow {v : Int64} (hb1 : bb < 1000) : Kl G l yX7_narrow cX7_narrow 3 (some .long) (RM 1 0) [.ref (a 0), .long v] (wSh G a nu bb ss) (fun u : Unit => wSh G a nu bb ss) (fun r _ => r = nar bb v) := by
  refine Kl.of (by decide) (Nat.le_of_ble_eq_true rfl) ?_
  intro p e s m args below meth c A Q ls hx hb S0 hG hA h hret hl
  have S0 : CF p m c cX7_narrow 3 s args RX7 := S0
  have hl : lv_has ls 3 [(0, .ref (a 0)), (1, .long v)] := hl
  refine lv_aload_n hx hb dX7_narrow_0 rfl (lv_at hl 0 rfl) ?_
  refine gS_bits S0 hG h dX7_narrow_1 ?_
  refine lv_bipush (v := nI 8) hx hb dX7_narrow_4 (by decide) ?_
  refine n_cne hx hb (by omega) (by omega) (tgt := 14) dX7_narrow_6 (by decide) (fun c6 => ?_) (fun c6 => ?_)
  ·
    refine lv_aload_n hx hb dX7_narrow_14 rfl (lv_at hl 0 rfl) ?_
    refine gS_bits S0 hG h dX7_narrow_15 ?_
    refine lv_bipush (v := nI 16) hx hb dX7_narrow_18 (by decide) ?_
    refine n_cne hx hb (by omega) (by omega) (tgt := 30) dX7_narrow_20 (by decide) (fun c20 => ?_) (fun c20 => ?_)
    ·
      refine lv_lload_n hx hb dX7_narrow_30 rfl (lv_at hl 1 rfl) ?_
      exact hret _ () _ _ _ _ (by unfold nar; rw [if_neg c6, if_neg c20]) h dX7_narrow_31
    ·
      refine lv_lload_n hx hb dX7_narrow_23 rfl (lv_at hl 1 rfl) ?_
      refine lv_l2i hx hb dX7_narrow_24 rfl ?_
      refine lv_i2s hx hb dX7_narrow_25 rfl ?_
      refine lv_i2l hx hb dX7_narrow_26 rfl ?_
      refine lv_goto (tgt := 31) hx hb dX7_narrow_27 (by decide) ?_
      exact hret _ () _ _ _ _ (by unfold nar; rw [if_neg c6, if_pos c20]) h dX7_narrow_31
  ·
    refine lv_lload_n hx hb dX7_narrow_9 rfl (lv_at hl 1 rfl) ?_
    refine lv_l2i hx hb dX7_narrow_10 rfl ?_
    refine lv_i2b hx hb dX7_narrow_11 rfl ?_
    refine lv_i2l hx hb dX7_narrow_12 rfl ?_
    exact hret _ () _ _ _ _ (by unfold nar; rw [if_pos c6]) h dX7_narrow_13
set_option maxHeartbeats 4000000 in
set_option maxRecDepth 100000 in
theorem c_X7_hasRun {x y : Int32} (hs1 : ss ≤ 40) : Ki G l yX7_hasRun cX7_hasRun 3 (some .boolean) (RM 1 0) [.ref (a 0), .int x, .int y] (wSh G a nu bb ss) (fun u : Unit => wSh G a nu bb ss) (fun r _ => (r = nI 1 ∧ 0 ≤ x.toInt ∧ 0 ≤ y.toInt ∧ y.toInt + x.toInt ≤ (ss : Int)) ∨ (r = nI 0 ∧ ¬ (0 ≤ x.toInt ∧ 0 ≤ y.toInt ∧ y.toInt + x.toInt ≤ (ss : Int)))) := by
  refine Ki.ofz (by decide) (Nat.le_of_ble_eq_true rfl) ?_
  intro p e s m args below meth c A Q ls hx hb S0 hG hA h hret hl
  have S0 : CF p m c cX7_hasRun 3 s args RX7 := S0
  have hl : lv_has ls 3 [(0, .ref (a 0)), (1, .int x), (2, .int y)] := hl
  refine lv_iload_n hx hb dX7_hasRun_0 rfl (lv_at hl 1 rfl) ?_
  refine lv_if_lt hx hb (tgt := 22) dX7_hasRun_1 (by decide) (fun c1 => ?_) (fun c1 => ?_)
  ·
    have c1 := (clz x).mp c1
    refine lv_iconst (v := nI 0) hx hb dX7_hasRun_22 (by decide) ?_
    exact hret _ () _ _ _ _ (by decide) (Or.inr ⟨rfl, by omega⟩) h dX7_hasRun_23
  ·
    have c1 : ¬ x.toInt < 0 := fun z => c1 ((clz x).mpr z)
    refine lv_iload_n hx hb dX7_hasRun_4 rfl (lv_at hl 2 rfl) ?_
    refine lv_if_lt hx hb (tgt := 22) dX7_hasRun_5 (by decide) (fun c5 => ?_) (fun c5 => ?_)
    ·
      have c5 := (clz y).mp c5
      refine lv_iconst (v := nI 0) hx hb dX7_hasRun_22 (by decide) ?_
      exact hret _ () _ _ _ _ (by decide) (Or.inr ⟨rfl, by omega⟩) h dX7_hasRun_23
    ·
      have c5 : ¬ y.toInt < 0 := fun z => c5 ((clz y).mpr z)
      refine lv_iload_n hx hb dX7_hasRun_8 rfl (lv_at hl 2 rfl) ?_
      refine lv_aload_n hx hb dX7_hasRun_9 rfl (lv_at hl 0 rfl) ?_
      refine gS_size S0 hG h dX7_hasRun_10 ?_
      refine lv_iload_n hx hb dX7_hasRun_13 rfl (lv_at hl 1 rfl) ?_
      refine lv_isub hx hb dX7_hasRun_14 ?_
      refine lv_icmp_gt hx hb (tgt := 22) dX7_hasRun_15 (by decide) (fun c15 => ?_) (fun c15 => ?_)
      ·
        have c15 := Int32.lt_iff_toInt_lt.mp c15
        rw [subT hs1 (by omega)] at c15
        refine lv_iconst (v := nI 0) hx hb dX7_hasRun_22 (by decide) ?_
        exact hret _ () _ _ _ _ (by decide) (Or.inr ⟨rfl, by omega⟩) h dX7_hasRun_23
      ·
        have c15 : ¬ (nI ss - x).toInt < y.toInt := fun z => c15 (Int32.lt_iff_toInt_lt.mpr z)
        rw [subT hs1 (by omega)] at c15
        refine lv_iconst (v := nI 1) hx hb dX7_hasRun_18 (by decide) ?_
        refine lv_goto (tgt := 23) hx hb dX7_hasRun_19 (by decide) ?_
        exact hret _ () _ _ _ _ (by decide) (Or.inl ⟨rfl, by omega⟩) h dX7_hasRun_23
