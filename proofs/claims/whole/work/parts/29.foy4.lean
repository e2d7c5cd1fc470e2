/-! the foyer: the rest -/
variable {G : GT} {l : Launch} {a : Nat → Nat} {f : Nat → Nat} {q sp : Nat} {rg : Int32} {wd : Nat → Nat} {it : Nat}
theorem kw_RX3_84 : GoodIn wsL_law (wsV RX3 84 RX3 yX3_passMinute (WS yX3_passMinute cX3_passMinute 5 none)) := gV (rin20 _ (List.mem_of_getElem? (i := 21) rfl)) (rin20 _ (List.mem_of_getElem? (i := 22) rfl)) (rin20 _ (List.mem_of_getElem? (i := 23) rfl)) (rin2 _ (List.mem_of_getElem? (i := 3) rfl)) (rin21 _ (List.mem_of_getElem? (i := 0) rfl))
theorem kdV_X3_passMinute : yX3_passMinute.cls = RX3 ∧ yX3_passMinute.cls ≠ "java/lang/invoke/MethodHandle" ∧ yX3_passMinute.cls ≠ "java/lang/invoke/VarHandle" ∧ (parseMethodDescriptor yX3_passMinute.desc).map (fun d => d.parameters.length) = some 0 := ⟨rfl, by decide +kernel, by decide +kernel, by decide +kernel⟩
set_option maxHeartbeats 4000000 in
set_option maxRecDepth 100000 in
theorem c_X3_go {n : Nat} (hI : Inv f) (h0 : f 0 + n ≤ 200000) : Kv G l yX3_go cX3_go 3 none (RM 6 113) [.ref (a 0), .int (nI n)] (wF G a f q sp rg wd it) (fun u : Nat × Nat × Int32 × (Nat → Nat) × Nat => wF G a (goF f n) u.1 u.2.1 u.2.2.1 u.2.2.2.1 u.2.2.2.2) (fun u => (n = 0 → u.2.2.2.2 = it) ∧ (0 < n → u.2.2.2.2 = timeF (goF f (n - 1)))) := by
  refine Kv.of (by decide) (Nat.le_of_ble_eq_true rfl) ?_
  intro p e s m args below meth c A Q ls hx hb S0 hG hA h hret hl
  have S0 : CF p m c cX3_go 3 s args RX3 := S0
  have hl : lv_has ls 3 [(0, .ref (a 0)), (1, .int (nI n))] := hl
  have lp2 : ∀ (kf : Nat) (i q1 s1 : Nat) (r1 : Int32) (w1 : Nat → Nat) (t1 : Nat) (H : Heap) (locs : List Loc) (ls : Array Slot) (hi : i ≤ n) (ht : (i = 0 → t1 = it) ∧ (0 < i → t1 = timeF (goF f (i - 1)))), n - i < kf → WX G A s H locs (wF G a (goF f i) q1 s1 r1 w1 t1) → lv_has ls 3 [(0, .ref (a 0)), (1, .int (nI n)), (2, .int (nI i))] → W p l e (RM 6 113) s m args below meth c H locs 0 0 Q (F0 m 2 ls []) := by
    intro kf
    induction kf with
    | zero => intro i q1 s1 r1 w1 t1 H locs ls hi ht hm; exact absurd hm (Nat.not_lt_zero _)
    | succ kf ih2 =>
      intro i q1 s1 r1 w1 t1 H locs ls hi ht hm h hl
      have hI9 := goF_inv hI i (by omega)
      have g9 := goF_0 f i
      refine lv_iload_n hx hb dX3_go_2 rfl (lv_at hl 2 rfl) ?_
      refine lv_iload_n hx hb dX3_go_3 rfl (lv_at hl 1 rfl) ?_
      refine n_cge hx hb (by omega) (by omega) (tgt := 17) dX3_go_4 (by decide) (fun c4 => ?_) (fun c4 => ?_)
      ·
        have e9 : i = n := by omega
        subst e9
        exact hret (_, _, _, _, _) _ _ _ _ ht h dX3_go_17
      ·
        refine lv_aload_n hx hb dX3_go_7 rfl (lv_at hl 0 rfl) ?_
        refine cV_v0 S0 hG hA h hl.1 kw_RX3_84 kdV_X3_passMinute (c_X3_passMinute hI9 (by omega)) ⟨rfl, rfl, by decide, by decide, Nat.le_refl _, Nat.le_refl _⟩ rfl 3 0 rfl rfl rfl (Nat.le_of_ble_eq_true rfl) dX3_go_8 (fun _ => rfl) (fun u H locs hq h => ?_)
        have h : WX G A s _ _ (wF G a (goF f (i + 1)) u.1 u.2.1 u.2.2.1 u.2.2.2.1 u.2.2.2.2) := h
        obtain ⟨u1, u2, u3, u4, u5⟩ := u
        obtain rfl : u5 = _ := hq
        refine lv_iinc hx hb dX3_go_11 hl (k := 2) rfl (inc_1 _) (by decide) rfl (fun ls hl => ?_)
        refine lv_goto (tgt := 2) hx hb dX3_go_14 (by decide) ?_
        exact ih2 (i + 1) _ _ _ _ _ _ _ _ (by omega) ⟨fun z => absurd z (Nat.succ_ne_zero _), fun _ => rfl⟩ (by omega) h (lv_sub hl [1, 2, 0] rfl)
  refine lv_iconst (v := nI 0) hx hb dX3_go_0 (by decide) ?_
  refine lv_istore_n hx hb dX3_go_1 rfl hl (by decide) rfl (fun ls hl => ?_)
  exact lp2 _ 0 _ _ _ _ _ _ _ _ (Nat.zero_le _) ⟨fun _ => rfl, fun z => absurd z (Nat.lt_irrefl _)⟩ (Nat.lt_succ_self _) h (lv_sub hl [1, 2, 0] rfl)
set_option maxHeartbeats 4000000 in
set_option maxRecDepth 100000 in
theorem c_X3_whoIsAt {y : Nat} (hI : Inv f) (hy : y < 2147483648) : Ki G l yX3_whoIsAt cX3_whoIsAt 4 (some .int) (RM 1 0) [.ref (a 0), .int (nI y)] (wF G a f q sp rg wd it) (fun u : Unit => wF G a f q sp rg wd it) (fun r _ => r = nI (whoAt f y)) := by
  refine Ki.of (by decide) (Nat.le_of_ble_eq_true rfl) ?_
  intro p e s m args below meth c A Q ls hx hb S0 hG hA h hret hl
  have S0 : CF p m c cX3_whoIsAt 4 s args RX3 := S0
  have hl : lv_has ls 4 [(0, .ref (a 0)), (1, .int (nI y))] := hl
  have h1 := hI.2.1
  have lp4 : ∀ (kf : Nat) (i : Nat) (H : Heap) (locs : List Loc) (ls : Array Slot) (hi : i ≤ f 1), f 1 - i < kf → WX G A s H locs (wF G a f q sp rg wd it) → lv_has ls 4 [(0, .ref (a 0)), (1, .int (nI y)), (2, .int (nI (setN (fun p => decide (its f p 1 = y)) i))), (3, .int (nI i))] → W p l e (RM 1 0) s m args below meth c H locs 0 0 Q (F0 m 4 ls []) := by
    intro kf
    induction kf with
    | zero => intro i H locs ls hi hm; exact absurd hm (Nat.not_lt_zero _)
    | succ kf ih4 =>
      intro i H locs ls hi hm h hl
      refine lv_iload_n hx hb dX3_whoIsAt_4 rfl (lv_at hl 3 rfl) ?_
      refine lv_aload_n hx hb dX3_whoIsAt_5 rfl (lv_at hl 0 rfl) ?_
      refine gF_RX3_people S0 hG h dX3_whoIsAt_6 ?_
      refine n_cge hx hb (by omega) (by omega) (tgt := 34) dX3_whoIsAt_9 (by decide) (fun c9 => ?_) (fun c9 => ?_)
      ·
        have e9 : i = f 1 := by omega
        subst e9
        refine lv_iload_n hx hb dX3_whoIsAt_34 rfl (lv_at hl 2 rfl) ?_
        exact hret _ () _ _ _ _ rfl h dX3_whoIsAt_35
      ·
        refine lv_aload_n hx hb dX3_whoIsAt_12 rfl (lv_at hl 0 rfl) ?_
        refine gF_RX3_at S0 hG h dX3_whoIsAt_13 ?_
        refine lv_iload_n hx hb dX3_whoIsAt_16 rfl (lv_at hl 3 rfl) ?_
        refine rF_at S0 hG h (by omega) dX3_whoIsAt_17 ?_
        refine lv_iload_n hx hb dX3_whoIsAt_18 rfl (lv_at hl 1 rfl) ?_
        have h5 := hI.2.2.2.2 i (by omega)
        refine n_cne hx hb (by omega) (by omega) (tgt := 28) dX3_whoIsAt_19 (by decide) (fun c19 => ?_) (fun c19 => ?_)
        ·
          have s9 : setN (fun p => decide (its f p 1 = y)) i = setN (fun p => decide (its f p 1 = y)) (i + 1) := by simp [setN, c19]
          rw [s9] at hl
          refine lv_iinc hx hb dX3_whoIsAt_28 hl (k := 3) rfl (inc_1 _) (by decide) rfl (fun ls hl => ?_)
          refine lv_goto (tgt := 4) hx hb dX3_whoIsAt_31 (by decide) ?_
          exact ih4 (i + 1) _ _ _ (by omega) (by omega) h (lv_sub hl [1, 2, 3, 0] rfl)
        ·
          refine lv_iload_n hx hb dX3_whoIsAt_22 rfl (lv_at hl 2 rfl) ?_
          refine lv_iconst (v := nI 1) hx hb dX3_whoIsAt_23 (by decide) ?_
          refine lv_iload_n hx hb dX3_whoIsAt_24 rfl (lv_at hl 3 rfl) ?_
          refine lv_ishl hx hb dX3_whoIsAt_25 ?_
          refine tN (sh1 _ (by omega)) ?_
          refine lv_ior hx hb dX3_whoIsAt_26 ?_
          refine tN (t := setN (fun p => decide (its f p 1 = y)) (i + 1)) (by rw [or_nI]; exact nI_cong (by simp [setN, c19])) ?_
          refine lv_istore_n hx hb dX3_whoIsAt_27 rfl hl (by decide) rfl (fun ls hl => ?_)
          refine lv_iinc hx hb dX3_whoIsAt_28 hl (k := 3) rfl (inc_1 _) (by decide) rfl (fun ls hl => ?_)
          refine lv_goto (tgt := 4) hx hb dX3_whoIsAt_31 (by decide) ?_
          exact ih4 (i + 1) _ _ _ (by omega) (by omega) h (lv_sub hl [2, 3, 1, 0] rfl)
  refine lv_iconst (v := nI 0) hx hb dX3_whoIsAt_0 (by decide) ?_
  refine lv_istore_n hx hb dX3_whoIsAt_1 rfl hl (by decide) rfl (fun ls hl => ?_)
  refine lv_iconst (v := nI 0) hx hb dX3_whoIsAt_2 (by decide) ?_
  refine lv_istore_n hx hb dX3_whoIsAt_3 rfl hl (by decide) rfl (fun ls hl => ?_)
  exact lp4 _ 0 _ _ _ (Nat.zero_le _) (Nat.lt_succ_self _) h (lv_sub hl [2, 3, 1, 0] rfl)
set_option maxHeartbeats 4000000 in
set_option maxRecDepth 100000 in
theorem c_X3_whoIsDueHere (hI : Inv f) (hq : q = qtr f) (hsp : sp = sc f (qtr f)) (hrg : rg = ring f) : Ki G l yX3_whoIsDueHere cX3_whoIsDueHere 3 (some .int) (RM 5 89) [.ref (a 0)] (wF G a f q sp rg wd it) (fun u : Unit => wF G a f q sp rg wd it) (fun r _ => r = nI (dueOnes f)) := by
  refine Ki.of (by decide) (Nat.le_of_ble_eq_true rfl) ?_
  intro p e s m args below meth c A Q ls hx hb S0 hG hA h hret hl
  have S0 : CF p m c cX3_whoIsDueHere 3 s args RX3 := S0
  have hl : lv_has ls 3 [(0, .ref (a 0))] := hl
  subst hq
  subst hsp
  subst hrg
  have h1 := hI.2.1
  have lp4 : ∀ (kf : Nat) (i : Nat) (H : Heap) (locs : List Loc) (ls : Array Slot) (hi : i ≤ f 1), f 1 - i < kf → WX G A s H locs (wF G a f (qtr f) (sc f (qtr f)) (ring f) wd it) → lv_has ls 3 [(0, .ref (a 0)), (1, .int (nI (setN (fun p => decide (its f p 1 = due f p)) i))), (2, .int (nI i))] → W p l e (RM 5 89) s m args below meth c H locs 0 0 Q (F0 m 4 ls []) := by
    intro kf
    induction kf with
    | zero => intro i H locs ls hi hm; exact absurd hm (Nat.not_lt_zero _)
    | succ kf ih4 =>
      intro i H locs ls hi hm h hl
      refine lv_iload_n hx hb dX3_whoIsDueHere_4 rfl (lv_at hl 2 rfl) ?_
      refine lv_aload_n hx hb dX3_whoIsDueHere_5 rfl (lv_at hl 0 rfl) ?_
      refine gF_RX3_people S0 hG h dX3_whoIsDueHere_6 ?_
      refine n_cge hx hb (by omega) (by omega) (tgt := 38) dX3_whoIsDueHere_9 (by decide) (fun c9 => ?_) (fun c9 => ?_)
      ·
        have e9 : i = f 1 := by omega
        subst e9
        refine lv_iload_n hx hb dX3_whoIsDueHere_38 rfl (lv_at hl 1 rfl) ?_
        exact hret _ () _ _ _ _ rfl h dX3_whoIsDueHere_39
      ·
        refine lv_aload_n hx hb dX3_whoIsDueHere_12 rfl (lv_at hl 0 rfl) ?_
        refine gF_RX3_at S0 hG h dX3_whoIsDueHere_13 ?_
        refine lv_iload_n hx hb dX3_whoIsDueHere_16 rfl (lv_at hl 2 rfl) ?_
        refine rF_at S0 hG h (by omega) dX3_whoIsDueHere_17 ?_
        refine lv_aload_n hx hb dX3_whoIsDueHere_18 rfl (lv_at hl 0 rfl) ?_
        refine lv_iload_n hx hb dX3_whoIsDueHere_19 rfl (lv_at hl 2 rfl) ?_
        refine cV_i0 S0 hG hA h hl.1 kw_RX3_90 kdV_X3_dueOf (c_X3_dueOf (by omega) hI rfl rfl rfl) ⟨rfl, rfl, by decide, by decide, Nat.le_refl _, Nat.le_refl _⟩ rfl 3 0 rfl rfl rfl (Nat.le_of_ble_eq_true rfl) dX3_whoIsDueHere_20 (fun _ => rfl) (fun r u H locs hq h => ?_)
        obtain rfl := hq
        have h5 := hI.2.2.2.2 i (by omega)
        have h6 := due_le hI i
        refine n_cne hx hb (by omega) (by omega) (tgt := 32) dX3_whoIsDueHere_23 (by decide) (fun c23 => ?_) (fun c23 => ?_)
        ·
          have s9 : setN (fun p => decide (its f p 1 = due f p)) i = setN (fun p => decide (its f p 1 = due f p)) (i + 1) := by simp [setN, c23]
          rw [s9] at hl
          refine lv_iinc hx hb dX3_whoIsDueHere_32 hl (k := 2) rfl (inc_1 _) (by decide) rfl (fun ls hl => ?_)
          refine lv_goto (tgt := 4) hx hb dX3_whoIsDueHere_35 (by decide) ?_
          exact ih4 (i + 1) _ _ _ (by omega) (by omega) h (lv_sub hl [1, 2, 0] rfl)
        ·
          refine lv_iload_n hx hb dX3_whoIsDueHere_26 rfl (lv_at hl 1 rfl) ?_
          refine lv_iconst (v := nI 1) hx hb dX3_whoIsDueHere_27 (by decide) ?_
          refine lv_iload_n hx hb dX3_whoIsDueHere_28 rfl (lv_at hl 2 rfl) ?_
          refine lv_ishl hx hb dX3_whoIsDueHere_29 ?_
          refine tN (sh1 _ (by omega)) ?_
          refine lv_ior hx hb dX3_whoIsDueHere_30 ?_
          refine tN (t := setN (fun p => decide (its f p 1 = due f p)) (i + 1)) (by rw [or_nI]; exact nI_cong (by simp [setN, c23])) ?_
          refine lv_istore_n hx hb dX3_whoIsDueHere_31 rfl hl (by decide) rfl (fun ls hl => ?_)
          refine lv_iinc hx hb dX3_whoIsDueHere_32 hl (k := 2) rfl (inc_1 _) (by decide) rfl (fun ls hl => ?_)
          refine lv_goto (tgt := 4) hx hb dX3_whoIsDueHere_35 (by decide) ?_
          exact ih4 (i + 1) _ _ _ (by omega) (by omega) h (lv_sub hl [2, 1, 0] rfl)
  refine lv_iconst (v := nI 0) hx hb dX3_whoIsDueHere_0 (by decide) ?_
  refine lv_istore_n hx hb dX3_whoIsDueHere_1 rfl hl (by decide) rfl (fun ls hl => ?_)
  refine lv_iconst (v := nI 0) hx hb dX3_whoIsDueHere_2 (by decide) ?_
  refine lv_istore_n hx hb dX3_whoIsDueHere_3 rfl hl (by decide) rfl (fun ls hl => ?_)
  exact lp4 _ 0 _ _ _ (Nat.zero_le _) (Nat.lt_succ_self _) h (lv_sub hl [2, 1, 0] rfl)
set_option maxHeartbeats 4000000 in
set_option maxRecDepth 100000 in
theorem c_X3_sumOf3 (hI : Inv f) : Ki G l yX3_sumOf cX3_sumOf 4 (some .int) (RM 1 0) [.ref (a 0), .ref (a 6)] (wF G a f q sp rg wd it) (fun u : Unit => wF G a f q sp rg wd it) (fun r _ => r = nI (sumN f 3 (f 1))) := by
  refine Ki.of (by decide) (Nat.le_of_ble_eq_true rfl) ?_
  intro p e s m args below meth c A Q ls hx hb S0 hG hA h hret hl
  have S0 : CF p m c cX3_sumOf 4 s args RX3 := S0
  have hl : lv_has ls 4 [(0, .ref (a 0)), (1, .ref (a 6))] := hl
  have h1 := hI.2.1
  have lp4 : ∀ (kf : Nat) (i : Nat) (H : Heap) (locs : List Loc) (ls : Array Slot) (hi : i ≤ f 1), f 1 - i < kf → WX G A s H locs (wF G a f q sp rg wd it) → lv_has ls 4 [(0, .ref (a 0)), (1, .ref (a 6)), (2, .int (nI (sumN f 3 i))), (3, .int (nI i))] → W p l e (RM 1 0) s m args below meth c H locs 0 0 Q (F0 m 4 ls []) := by
    intro kf
    induction kf with
    | zero => intro i H locs ls hi hm; exact absurd hm (Nat.not_lt_zero _)
    | succ kf ih4 =>
      intro i H locs ls hi hm h hl
      refine lv_iload_n hx hb dX3_sumOf_4 rfl (lv_at hl 3 rfl) ?_
      refine lv_aload_n hx hb dX3_sumOf_5 rfl (lv_at hl 0 rfl) ?_
      refine gF_RX3_people S0 hG h dX3_sumOf_6 ?_
      refine n_cge hx hb (by omega) (by omega) (tgt := 24) dX3_sumOf_9 (by decide) (fun c9 => ?_) (fun c9 => ?_)
      ·
        have e9 : i = f 1 := by omega
        subst e9
        refine lv_iload_n hx hb dX3_sumOf_24 rfl (lv_at hl 2 rfl) ?_
        exact hret _ () _ _ _ _ rfl h dX3_sumOf_25
      ·
        refine lv_iload_n hx hb dX3_sumOf_12 rfl (lv_at hl 2 rfl) ?_
        refine lv_aload_n hx hb dX3_sumOf_13 rfl (lv_at hl 1 rfl) ?_
        refine lv_iload_n hx hb dX3_sumOf_14 rfl (lv_at hl 3 rfl) ?_
        refine rF_played S0 hG h (by omega) dX3_sumOf_15 ?_
        refine n_add hx hb dX3_sumOf_16 ?_
        refine lv_istore_n hx hb dX3_sumOf_17 rfl hl (by decide) rfl (fun ls hl => ?_)
        refine lv_iinc hx hb dX3_sumOf_18 hl (k := 3) rfl (inc_1 _) (by decide) rfl (fun ls hl => ?_)
        refine lv_goto (tgt := 4) hx hb dX3_sumOf_21 (by decide) ?_
        exact ih4 (i + 1) _ _ _ (by omega) (by omega) h (lv_sub hl [2, 3, 1, 0] rfl)
  refine lv_iconst (v := nI 0) hx hb dX3_sumOf_0 (by decide) ?_
  refine lv_istore_n hx hb dX3_sumOf_1 rfl hl (by decide) rfl (fun ls hl => ?_)
  refine lv_iconst (v := nI 0) hx hb dX3_sumOf_2 (by decide) ?_
  refine lv_istore_n hx hb dX3_sumOf_3 rfl hl (by decide) rfl (fun ls hl => ?_)
  exact lp4 _ 0 _ _ _ (Nat.zero_le _) (Nat.lt_succ_self _) h (lv_sub hl [2, 3, 1, 0] rfl)
set_option maxHeartbeats 4000000 in
set_option maxRecDepth 100000 in
theorem c_X3_sumOf4 (hI : Inv f) : Ki G l yX3_sumOf cX3_sumOf 4 (some .int) (RM 1 0) [.ref (a 0), .ref (a 7)] (wF G a f q sp rg wd it) (fun u : Unit => wF G a f q sp rg wd it) (fun r _ => r = nI (sumN f 4 (f 1))) := by
  refine Ki.of (by decide) (Nat.le_of_ble_eq_true rfl) ?_
  intro p e s m args below meth c A Q ls hx hb S0 hG hA h hret hl
  have S0 : CF p m c cX3_sumOf 4 s args RX3 := S0
  have hl : lv_has ls 4 [(0, .ref (a 0)), (1, .ref (a 7))] := hl
  have h1 := hI.2.1
  have lp4 : ∀ (kf : Nat) (i : Nat) (H : Heap) (locs : List Loc) (ls : Array Slot) (hi : i ≤ f 1), f 1 - i < kf → WX G A s H locs (wF G a f q sp rg wd it) → lv_has ls 4 [(0, .ref (a 0)), (1, .ref (a 7)), (2, .int (nI (sumN f 4 i))), (3, .int (nI i))] → W p l e (RM 1 0) s m args below meth c H locs 0 0 Q (F0 m 4 ls []) := by
    intro kf
    induction kf with
    | zero => intro i H locs ls hi hm; exact absurd hm (Nat.not_lt_zero _)
    | succ kf ih4 =>
      intro i H locs ls hi hm h hl
      refine lv_iload_n hx hb dX3_sumOf_4 rfl (lv_at hl 3 rfl) ?_
      refine lv_aload_n hx hb dX3_sumOf_5 rfl (lv_at hl 0 rfl) ?_
      refine gF_RX3_people S0 hG h dX3_sumOf_6 ?_
      refine n_cge hx hb (by omega) (by omega) (tgt := 24) dX3_sumOf_9 (by decide) (fun c9 => ?_) (fun c9 => ?_)
      ·
        have e9 : i = f 1 := by omega
        subst e9
        refine lv_iload_n hx hb dX3_sumOf_24 rfl (lv_at hl 2 rfl) ?_
        exact hret _ () _ _ _ _ rfl h dX3_sumOf_25
      ·
        refine lv_iload_n hx hb dX3_sumOf_12 rfl (lv_at hl 2 rfl) ?_
        refine lv_aload_n hx hb dX3_sumOf_13 rfl (lv_at hl 1 rfl) ?_
        refine lv_iload_n hx hb dX3_sumOf_14 rfl (lv_at hl 3 rfl) ?_
        refine rF_spoilt S0 hG h (by omega) dX3_sumOf_15 ?_
        refine n_add hx hb dX3_sumOf_16 ?_
        refine lv_istore_n hx hb dX3_sumOf_17 rfl hl (by decide) rfl (fun ls hl => ?_)
        refine lv_iinc hx hb dX3_sumOf_18 hl (k := 3) rfl (inc_1 _) (by decide) rfl (fun ls hl => ?_)
        refine lv_goto (tgt := 4) hx hb dX3_sumOf_21 (by decide) ?_
        exact ih4 (i + 1) _ _ _ (by omega) (by omega) h (lv_sub hl [2, 3, 1, 0] rfl)
  refine lv_iconst (v := nI 0) hx hb dX3_sumOf_0 (by decide) ?_
  refine lv_istore_n hx hb dX3_sumOf_1 rfl hl (by decide) rfl (fun ls hl => ?_)
  refine lv_iconst (v := nI 0) hx hb dX3_sumOf_2 (by decide) ?_
  refine lv_istore_n hx hb dX3_sumOf_3 rfl hl (by decide) rfl (fun ls hl => ?_)
  exact lp4 _ 0 _ _ _ (Nat.zero_le _) (Nat.lt_succ_self _) h (lv_sub hl [2, 3, 1, 0] rfl)
theorem kw_RX3_114 : GoodIn wsL_law (wsV RX3 114 RX3 yX3_sumOf (WS yX3_sumOf cX3_sumOf 4 (some .int))) := gV (rin11 _ (List.mem_of_getElem? (i := 13) rfl)) (rin11 _ (List.mem_of_getElem? (i := 14) rfl)) (rin11 _ (List.mem_of_getElem? (i := 15) rfl)) (rin2 _ (List.mem_of_getElem? (i := 3) rfl)) (rin11 _ (List.mem_of_getElem? (i := 16) rfl))
theorem kdV_X3_sumOf : yX3_sumOf.cls = RX3 ∧ yX3_sumOf.cls ≠ "java/lang/invoke/MethodHandle" ∧ yX3_sumOf.cls ≠ "java/lang/invoke/VarHandle" ∧ (parseMethodDescriptor yX3_sumOf.desc).map (fun d => d.parameters.length) = some 1 := ⟨rfl, by decide +kernel, by decide +kernel, by decide +kernel⟩
set_option maxHeartbeats 4000000 in
set_option maxRecDepth 100000 in
theorem c_X3_sumHarmony (hI : Inv f) : Ki G l yX3_sumHarmony cX3_sumHarmony 1 (some .int) (RM 2 23) [.ref (a 0)] (wF G a f q sp rg wd it) (fun u : Unit => wF G a f q sp rg wd it) (fun r _ => r = harm f) := by
  refine Ki.of (by decide) (Nat.le_of_ble_eq_true rfl) ?_
  intro p e s m args below meth c A Q ls hx hb S0 hG hA h hret hl
  have S0 : CF p m c cX3_sumHarmony 1 s args RX3 := S0
  have hl : lv_has ls 1 [(0, .ref (a 0))] := hl
  refine lv_aload_n hx hb dX3_sumHarmony_0 rfl (lv_at hl 0 rfl) ?_
  refine lv_aload_n hx hb dX3_sumHarmony_1 rfl (lv_at hl 0 rfl) ?_
  refine gF_RX3_played S0 hG h dX3_sumHarmony_2 ?_
  refine cV_i0 S0 hG hA h hl.1 kw_RX3_114 kdV_X3_sumOf (c_X3_sumOf3 hI) ⟨rfl, rfl, by decide, by decide, Nat.le_refl _, Nat.le_refl _⟩ rfl 3 0 rfl rfl rfl (Nat.le_of_ble_eq_true rfl) dX3_sumHarmony_5 (fun _ => rfl) (fun r u H locs hq h => ?_)
  obtain rfl := hq
  refine lv_aload_n hx hb dX3_sumHarmony_8 rfl (lv_at hl 0 rfl) ?_
  refine lv_aload_n hx hb dX3_sumHarmony_9 rfl (lv_at hl 0 rfl) ?_
  refine gF_RX3_spoilt S0 hG h dX3_sumHarmony_10 ?_
  refine cV_i0 S0 hG hA h hl.1 kw_RX3_114 kdV_X3_sumOf (c_X3_sumOf4 hI) ⟨rfl, rfl, by decide, by decide, Nat.le_refl _, Nat.le_refl _⟩ rfl 3 0 rfl rfl rfl (Nat.le_of_ble_eq_true rfl) dX3_sumHarmony_13 (fun _ => rfl) (fun r u H locs hq h => ?_)
  obtain rfl := hq
  refine lv_isub hx hb dX3_sumHarmony_16 ?_
  exact hret _ () _ _ _ _ rfl h dX3_sumHarmony_17
set_option maxHeartbeats 4000000 in
set_option maxRecDepth 100000 in
theorem c_X3_admit {x y z : Nat} (h8 : f 1 < 8) : Kv G l yX3_admit cX3_admit 4 none (RM 1 0) [.ref (a 0), .int (nI x), .int (nI y), .int (nI z)] (wF G a f q sp rg wd it) (fun u : Unit => wF G a (adm f x y z) q sp rg wd it) (fun _ => True) := by
  refine Kv.of (by decide) (Nat.le_of_ble_eq_true rfl) ?_
  intro p e s m args below meth c A Q ls hx hb S0 hG hA h hret hl
  have S0 : CF p m c cX3_admit 4 s args RX3 := S0
  have hl : lv_has ls 4 [(0, .ref (a 0)), (1, .int (nI x)), (2, .int (nI y)), (3, .int (nI z))] := hl
  refine lv_aload_n hx hb dX3_admit_0 rfl (lv_at hl 0 rfl) ?_
  refine gF_RX3_people S0 hG h dX3_admit_1 ?_
  refine lv_bipush (v := nI 8) hx hb dX3_admit_4 (by decide) ?_
  refine n_clt hx hb (by omega) (by omega) (tgt := 10) dX3_admit_6 (by decide) (fun c6 => ?_) (fun c6 => absurd c6 (by omega))
  refine lv_aload_n hx hb dX3_admit_10 rfl (lv_at hl 0 rfl) ?_
  refine gF_RX3_kind S0 hG h dX3_admit_11 ?_
  refine lv_aload_n hx hb dX3_admit_14 rfl (lv_at hl 0 rfl) ?_
  refine gF_RX3_people S0 hG h dX3_admit_15 ?_
  refine lv_iload_n hx hb dX3_admit_18 rfl (lv_at hl 1 rfl) ?_
  refine sF_kind S0 hG h (by omega) dX3_admit_19 (fun H locs h => ?_)
  refine lv_aload_n hx hb dX3_admit_20 rfl (lv_at hl 0 rfl) ?_
  refine gF_RX3_at S0 hG h dX3_admit_21 ?_
  refine lv_aload_n hx hb dX3_admit_24 rfl (lv_at hl 0 rfl) ?_
  refine gF_RX3_people S0 hG h dX3_admit_25 ?_
  refine tN (t := f 1) (nI_cong (by simp only [up_lo (show 1 < 11 by decide)])) ?_
  refine lv_iload_n hx hb dX3_admit_28 rfl (lv_at hl 2 rfl) ?_
  refine sF_at S0 hG h (by omega) dX3_admit_29 (fun H locs h => ?_)
  refine lv_aload_n hx hb dX3_admit_30 rfl (lv_at hl 0 rfl) ?_
  refine gF_RX3_quick S0 hG h dX3_admit_31 ?_
  refine lv_aload_n hx hb dX3_admit_34 rfl (lv_at hl 0 rfl) ?_
  refine gF_RX3_people S0 hG h dX3_admit_35 ?_
  refine tN (t := f 1) (nI_cong (by simp only [up_lo (show 1 < 11 by decide)])) ?_
  refine lv_iload_n hx hb dX3_admit_38 rfl (lv_at hl 3 rfl) ?_
  refine sF_quick S0 hG h (by omega) dX3_admit_39 (fun H locs h => ?_)
  refine lv_aload_n hx hb dX3_admit_40 rfl (lv_at hl 0 rfl) ?_
  refine gF_RX3_played S0 hG h dX3_admit_41 ?_
  refine lv_aload_n hx hb dX3_admit_44 rfl (lv_at hl 0 rfl) ?_
  refine gF_RX3_people S0 hG h dX3_admit_45 ?_
  refine tN (t := f 1) (nI_cong (by simp only [up_lo (show 1 < 11 by decide)])) ?_
  refine lv_iconst (v := nI 0) hx hb dX3_admit_48 (by decide) ?_
  refine sF_played S0 hG h (by omega) dX3_admit_49 (fun H locs h => ?_)
  refine lv_aload_n hx hb dX3_admit_50 rfl (lv_at hl 0 rfl) ?_
  refine gF_RX3_spoilt S0 hG h dX3_admit_51 ?_
  refine lv_aload_n hx hb dX3_admit_54 rfl (lv_at hl 0 rfl) ?_
  refine gF_RX3_people S0 hG h dX3_admit_55 ?_
  refine tN (t := f 1) (nI_cong (by simp only [up_lo (show 1 < 11 by decide)])) ?_
  refine lv_iconst (v := nI 0) hx hb dX3_admit_58 (by decide) ?_
  refine sF_spoilt S0 hG h (by omega) dX3_admit_59 (fun H locs h => ?_)
  refine lv_aload_n hx hb dX3_admit_60 rfl (lv_at hl 0 rfl) ?_
  refine lv_dup hx hb dX3_admit_61 rfl ?_
  refine gF_RX3_people S0 hG h dX3_admit_62 ?_
  refine tN (t := f 1) (nI_cong (by simp only [up_lo (show 1 < 11 by decide)])) ?_
  refine lv_iconst (v := nI 1) hx hb dX3_admit_65 (by decide) ?_
  refine n_add hx hb dX3_admit_66 ?_
  refine pF_RX3_people S0 hG h dX3_admit_67 (fun H locs h => ?_)
  exact hret () _ _ _ _ trivial (h.eq (by rw [adm_c])) dX3_admit_70
