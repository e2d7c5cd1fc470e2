/-! the reference: rows, bells, due -/
variable {G : GT} {l : Launch} {a : Nat → Nat} {f g o d st du tb bi si : Nat → Nat} {nu mo : Nat → Int64} {kp it tn fr to vl wr : Nat}
set_option maxHeartbeats 4000000 in
set_option maxRecDepth 100000 in
theorem c_X11_finds {x : Int32} {k : Nat} (hk : k < 7) (hx1 : -1000000001 - x = nI k) : Ki G l yX11_finds cX11_finds 2 (some .int) (RM 1 0) [.ref (a 0), .int x] (wM G a f g o d st du tb bi si nu mo kp it tn fr to vl wr) (fun u : Unit => wM G a f g o d (bump st k) du tb bi si nu mo kp it tn fr to vl wr) (fun r _ => r = x) := by
  refine Ki.of (by decide) (Nat.le_of_ble_eq_true rfl) ?_
  intro p e s m args below meth c A Q ls hx hb S0 hG hA h hret hl
  have S0 : CF p m c cX11_finds 2 s args RX11 := S0
  have hl : lv_has ls 2 [(0, .ref (a 0)), (1, .int x)] := hl
  refine lv_aload_n hx hb dX11_finds_0 rfl (lv_at hl 0 rfl) ?_
  refine gM_statuses S0 hG h dX11_finds_1 ?_
  refine lv_ldc (v := -1000000001) hx hb S0.2.2.2.1 (S0.2.2.2.2 _ (rin6 _ (List.mem_of_getElem? (i := 21) rfl))) dX11_finds_4 ?_
  refine lv_iload_n hx hb dX11_finds_6 rfl (lv_at hl 1 rfl) ?_
  refine lv_isub hx hb dX11_finds_7 ?_
  refine tN hx1 ?_
  refine lv_dup2_11 hx hb dX11_finds_8 rfl rfl ?_
  refine rM_statuses S0 hG h (by omega) dX11_finds_9 ?_
  refine lv_iconst (v := nI 1) hx hb dX11_finds_10 (by decide) ?_
  refine n_add hx hb dX11_finds_11 ?_
  refine sM_statuses S0 hG h (by omega) dX11_finds_12 (fun H locs h => ?_)
  refine lv_iload_n hx hb dX11_finds_13 rfl (lv_at hl 1 rfl) ?_
  exact hret _ () _ _ _ _ rfl h dX11_finds_14
set_option maxHeartbeats 4000000 in
set_option maxRecDepth 100000 in
theorem c_X11_saves  : Kv G l yX11_saves cX11_saves 2 none (RM 1 0) [.ref (a 0)] (wM G a f g o d st du tb bi si nu mo kp it tn fr to vl wr) (fun u : Unit => wM G a f g f d st du tb bi si nu mo kp it tn fr to vl wr) (fun _ => True) := by
  refine Kv.of (by decide) (Nat.le_of_ble_eq_true rfl) ?_
  intro p e s m args below meth c A Q ls hx hb S0 hG hA h hret hl
  have S0 : CF p m c cX11_saves 2 s args RX11 := S0
  have hl : lv_has ls 2 [(0, .ref (a 0))] := hl
  have lp2 : ∀ (kf : Nat) (i : Nat) (H : Heap) (locs : List Loc) (ls : Array Slot) (hi : i ≤ 51), 51 - i < kf → WX G A s H locs (wM G a f g (cp f o i) d st du tb bi si nu mo kp it tn fr to vl wr) → lv_has ls 2 [(0, .ref (a 0)), (1, .int (nI i))] → W p l e (RM 1 0) s m args below meth c H locs 0 0 Q (F0 m 2 ls []) := by
    intro kf
    induction kf with
    | zero => intro i H locs ls hi hm; exact absurd hm (Nat.not_lt_zero _)
    | succ kf ih2 =>
      intro i H locs ls hi hm h hl
      refine lv_iload_n hx hb dX11_saves_2 rfl (lv_at hl 1 rfl) ?_
      refine lv_bipush (v := nI 51) hx hb dX11_saves_3 (by decide) ?_
      refine n_cge hx hb (by omega) (by omega) (tgt := 26) dX11_saves_5 (by decide) (fun c5 => ?_) (fun c5 => ?_)
      ·
        exact hret () _ _ _ _ trivial (h.ext_i 3 rfl (fun j hj => by show nI (cp f o i j) = nI (f j); rw [cp_in (by omega)]) : WX G A s _ _ (wM G a f g f d st du tb bi si nu mo kp it tn fr to vl wr)) dX11_saves_26
      ·
        refine lv_aload_n hx hb dX11_saves_8 rfl (lv_at hl 0 rfl) ?_
        refine gM_other S0 hG h dX11_saves_9 ?_
        refine lv_iload_n hx hb dX11_saves_12 rfl (lv_at hl 1 rfl) ?_
        refine lv_aload_n hx hb dX11_saves_13 rfl (lv_at hl 0 rfl) ?_
        refine gM_s S0 hG h dX11_saves_14 ?_
        refine lv_iload_n hx hb dX11_saves_17 rfl (lv_at hl 1 rfl) ?_
        refine rM_s S0 hG h (by omega) dX11_saves_18 ?_
        refine sM_other S0 hG h (by omega) dX11_saves_19 (fun H locs h => ?_)
        refine lv_iinc hx hb dX11_saves_20 hl (k := 1) rfl (inc_1 _) (by decide) rfl (fun ls hl => ?_)
        refine lv_goto (tgt := 2) hx hb dX11_saves_23 (by decide) ?_
        exact ih2 (i + 1) _ _ _ (by omega) (by omega) (h.eq (by rw [cp_succ])) (lv_sub hl [1, 0] rfl)
  refine lv_iconst (v := nI 0) hx hb dX11_saves_0 (by decide) ?_
  refine lv_istore_n hx hb dX11_saves_1 rfl hl (by decide) rfl (fun ls hl => ?_)
  exact lp2 _ 0 _ _ _ (by omega) (Nat.lt_succ_self _) (h.eq (by rw [cp_0])) (lv_sub hl [1, 0] rfl)
set_option maxHeartbeats 4000000 in
set_option maxRecDepth 100000 in
theorem c_X11_putsBack  : Kv G l yX11_putsBack cX11_putsBack 2 none (RM 1 0) [.ref (a 0)] (wM G a f g o d st du tb bi si nu mo kp it tn fr to vl wr) (fun u : Unit => wM G a o g o d st du tb bi si nu mo kp it tn fr to vl wr) (fun _ => True) := by
  refine Kv.of (by decide) (Nat.le_of_ble_eq_true rfl) ?_
  intro p e s m args below meth c A Q ls hx hb S0 hG hA h hret hl
  have S0 : CF p m c cX11_putsBack 2 s args RX11 := S0
  have hl : lv_has ls 2 [(0, .ref (a 0))] := hl
  have lp2 : ∀ (kf : Nat) (i : Nat) (H : Heap) (locs : List Loc) (ls : Array Slot) (hi : i ≤ 51), 51 - i < kf → WX G A s H locs (wM G a (cp o f i) g o d st du tb bi si nu mo kp it tn fr to vl wr) → lv_has ls 2 [(0, .ref (a 0)), (1, .int (nI i))] → W p l e (RM 1 0) s m args below meth c H locs 0 0 Q (F0 m 2 ls []) := by
    intro kf
    induction kf with
    | zero => intro i H locs ls hi hm; exact absurd hm (Nat.not_lt_zero _)
    | succ kf ih2 =>
      intro i H locs ls hi hm h hl
      refine lv_iload_n hx hb dX11_putsBack_2 rfl (lv_at hl 1 rfl) ?_
      refine lv_bipush (v := nI 51) hx hb dX11_putsBack_3 (by decide) ?_
      refine n_cge hx hb (by omega) (by omega) (tgt := 26) dX11_putsBack_5 (by decide) (fun c5 => ?_) (fun c5 => ?_)
      ·
        exact hret () _ _ _ _ trivial (h.ext_i 1 rfl (fun j hj => by show nI (cp o f i j) = nI (o j); rw [cp_in (by omega)]) : WX G A s _ _ (wM G a o g o d st du tb bi si nu mo kp it tn fr to vl wr)) dX11_putsBack_26
      ·
        refine lv_aload_n hx hb dX11_putsBack_8 rfl (lv_at hl 0 rfl) ?_
        refine gM_s S0 hG h dX11_putsBack_9 ?_
        refine lv_iload_n hx hb dX11_putsBack_12 rfl (lv_at hl 1 rfl) ?_
        refine lv_aload_n hx hb dX11_putsBack_13 rfl (lv_at hl 0 rfl) ?_
        refine gM_other S0 hG h dX11_putsBack_14 ?_
        refine lv_iload_n hx hb dX11_putsBack_17 rfl (lv_at hl 1 rfl) ?_
        refine rM_other S0 hG h (by omega) dX11_putsBack_18 ?_
        refine sM_s S0 hG h (by omega) dX11_putsBack_19 (fun H locs h => ?_)
        refine lv_iinc hx hb dX11_putsBack_20 hl (k := 1) rfl (inc_1 _) (by decide) rfl (fun ls hl => ?_)
        refine lv_goto (tgt := 2) hx hb dX11_putsBack_23 (by decide) ?_
        exact ih2 (i + 1) _ _ _ (by omega) (by omega) (h.eq (by rw [cp_succ])) (lv_sub hl [1, 0] rfl)
  refine lv_iconst (v := nI 0) hx hb dX11_putsBack_0 (by decide) ?_
  refine lv_istore_n hx hb dX11_putsBack_1 rfl hl (by decide) rfl (fun ls hl => ?_)
  exact lp2 _ 0 _ _ _ (by omega) (Nat.lt_succ_self _) (h.eq (by rw [cp_0])) (lv_sub hl [1, 0] rfl)
set_option maxHeartbeats 4000000 in
set_option maxRecDepth 100000 in
theorem c_X11_laysAside  : Kv G l yX11_laysAside cX11_laysAside 2 none (RM 1 0) [.ref (a 0)] (wM G a f g o d st du tb bi si nu mo kp it tn fr to vl wr) (fun u : Unit => wM G a f g o f st du tb bi si nu mo kp it tn fr to vl wr) (fun _ => True) := by
  refine Kv.of (by decide) (Nat.le_of_ble_eq_true rfl) ?_
  intro p e s m args below meth c A Q ls hx hb S0 hG hA h hret hl
  have S0 : CF p m c cX11_laysAside 2 s args RX11 := S0
  have hl : lv_has ls 2 [(0, .ref (a 0))] := hl
  have lp2 : ∀ (kf : Nat) (i : Nat) (H : Heap) (locs : List Loc) (ls : Array Slot) (hi : i ≤ 51), 51 - i < kf → WX G A s H locs (wM G a f g o (cp f d i) st du tb bi si nu mo kp it tn fr to vl wr) → lv_has ls 2 [(0, .ref (a 0)), (1, .int (nI i))] → W p l e (RM 1 0) s m args below meth c H locs 0 0 Q (F0 m 2 ls []) := by
    intro kf
    induction kf with
    | zero => intro i H locs ls hi hm; exact absurd hm (Nat.not_lt_zero _)
    | succ kf ih2 =>
      intro i H locs ls hi hm h hl
      refine lv_iload_n hx hb dX11_laysAside_2 rfl (lv_at hl 1 rfl) ?_
      refine lv_bipush (v := nI 51) hx hb dX11_laysAside_3 (by decide) ?_
      refine n_cge hx hb (by omega) (by omega) (tgt := 26) dX11_laysAside_5 (by decide) (fun c5 => ?_) (fun c5 => ?_)
      ·
        exact hret () _ _ _ _ trivial (h.ext_i 4 rfl (fun j hj => by show nI (cp f d i j) = nI (f j); rw [cp_in (by omega)]) : WX G A s _ _ (wM G a f g o f st du tb bi si nu mo kp it tn fr to vl wr)) dX11_laysAside_26
      ·
        refine lv_aload_n hx hb dX11_laysAside_8 rfl (lv_at hl 0 rfl) ?_
        refine gM_aside S0 hG h dX11_laysAside_9 ?_
        refine lv_iload_n hx hb dX11_laysAside_12 rfl (lv_at hl 1 rfl) ?_
        refine lv_aload_n hx hb dX11_laysAside_13 rfl (lv_at hl 0 rfl) ?_
        refine gM_s S0 hG h dX11_laysAside_14 ?_
        refine lv_iload_n hx hb dX11_laysAside_17 rfl (lv_at hl 1 rfl) ?_
        refine rM_s S0 hG h (by omega) dX11_laysAside_18 ?_
        refine sM_aside S0 hG h (by omega) dX11_laysAside_19 (fun H locs h => ?_)
        refine lv_iinc hx hb dX11_laysAside_20 hl (k := 1) rfl (inc_1 _) (by decide) rfl (fun ls hl => ?_)
        refine lv_goto (tgt := 2) hx hb dX11_laysAside_23 (by decide) ?_
        exact ih2 (i + 1) _ _ _ (by omega) (by omega) (h.eq (by rw [cp_succ])) (lv_sub hl [1, 0] rfl)
  refine lv_iconst (v := nI 0) hx hb dX11_laysAside_0 (by decide) ?_
  refine lv_istore_n hx hb dX11_laysAside_1 rfl hl (by decide) rfl (fun ls hl => ?_)
  exact lp2 _ 0 _ _ _ (by omega) (Nat.lt_succ_self _) (h.eq (by rw [cp_0])) (lv_sub hl [1, 0] rfl)
set_option maxHeartbeats 4000000 in
set_option maxRecDepth 100000 in
theorem c_X11_takesBack {x : Int32} : Ki G l yX11_takesBack cX11_takesBack 3 (some .int) (RM 1 0) [.ref (a 0), .int x] (wM G a f g o d st du tb bi si nu mo kp it tn fr to vl wr) (fun u : Unit => wM G a d g o d st du tb bi si nu mo kp it tn fr to vl wr) (fun r _ => r = x) := by
  refine Ki.of (by decide) (Nat.le_of_ble_eq_true rfl) ?_
  intro p e s m args below meth c A Q ls hx hb S0 hG hA h hret hl
  have S0 : CF p m c cX11_takesBack 3 s args RX11 := S0
  have hl : lv_has ls 3 [(0, .ref (a 0)), (1, .int x)] := hl
  have lp2 : ∀ (kf : Nat) (i : Nat) (H : Heap) (locs : List Loc) (ls : Array Slot) (hi : i ≤ 51), 51 - i < kf → WX G A s H locs (wM G a (cp d f i) g o d st du tb bi si nu mo kp it tn fr to vl wr) → lv_has ls 3 [(0, .ref (a 0)), (1, .int x), (2, .int (nI i))] → W p l e (RM 1 0) s m args below meth c H locs 0 0 Q (F0 m 2 ls []) := by
    intro kf
    induction kf with
    | zero => intro i H locs ls hi hm; exact absurd hm (Nat.not_lt_zero _)
    | succ kf ih2 =>
      intro i H locs ls hi hm h hl
      refine lv_iload_n hx hb dX11_takesBack_2 rfl (lv_at hl 2 rfl) ?_
      refine lv_bipush (v := nI 51) hx hb dX11_takesBack_3 (by decide) ?_
      refine n_cge hx hb (by omega) (by omega) (tgt := 26) dX11_takesBack_5 (by decide) (fun c5 => ?_) (fun c5 => ?_)
      ·
        refine lv_iload_n hx hb dX11_takesBack_26 rfl (lv_at hl 1 rfl) ?_
        exact hret _ () _ _ _ _ rfl (h.ext_i 1 rfl (fun j hj => by show nI (cp d f i j) = nI (d j); rw [cp_in (by omega)]) : WX G A s _ _ (wM G a d g o d st du tb bi si nu mo kp it tn fr to vl wr)) dX11_takesBack_27
      ·
        refine lv_aload_n hx hb dX11_takesBack_8 rfl (lv_at hl 0 rfl) ?_
        refine gM_s S0 hG h dX11_takesBack_9 ?_
        refine lv_iload_n hx hb dX11_takesBack_12 rfl (lv_at hl 2 rfl) ?_
        refine lv_aload_n hx hb dX11_takesBack_13 rfl (lv_at hl 0 rfl) ?_
        refine gM_aside S0 hG h dX11_takesBack_14 ?_
        refine lv_iload_n hx hb dX11_takesBack_17 rfl (lv_at hl 2 rfl) ?_
        refine rM_aside S0 hG h (by omega) dX11_takesBack_18 ?_
        refine sM_s S0 hG h (by omega) dX11_takesBack_19 (fun H locs h => ?_)
        refine lv_iinc hx hb dX11_takesBack_20 hl (k := 2) rfl (inc_1 _) (by decide) rfl (fun ls hl => ?_)
        refine lv_goto (tgt := 2) hx hb dX11_takesBack_23 (by decide) ?_
        exact ih2 (i + 1) _ _ _ (by omega) (by omega) (h.eq (by rw [cp_succ])) (lv_sub hl [1, 2, 0] rfl)
  refine lv_iconst (v := nI 0) hx hb dX11_takesBack_0 (by decide) ?_
  refine lv_istore_n hx hb dX11_takesBack_1 rfl hl (by decide) rfl (fun ls hl => ?_)
  exact lp2 _ 0 _ _ _ (by omega) (Nat.lt_succ_self _) (h.eq (by rw [cp_0])) (lv_sub hl [1, 2, 0] rfl)
set_option maxHeartbeats 4000000 in
set_option maxRecDepth 100000 in
theorem c_X11_isPerson {x : Int32} (h8 : f 1 ≤ 8) : Ki G l yX11_isPerson cX11_isPerson 2 (some .boolean) (RM 2 25) [.ref (a 0), .int x] (wM G a f g o d st du tb bi si nu mo kp it tn fr to vl wr) (fun u : Unit => wM G a f g o d st du tb bi si nu mo kp it tn fr to vl wr) (fun r _ => (r = nI 1 ∧ inR x 0 ((f 1 : Int) - 1)) ∨ (r = nI 0 ∧ ¬ inR x 0 ((f 1 : Int) - 1))) := by
  refine Ki.ofz (by decide) (Nat.le_of_ble_eq_true rfl) ?_
  intro p e s m args below meth c A Q ls hx hb S0 hG hA h hret hl
  have S0 : CF p m c cX11_isPerson 2 s args RX11 := S0
  have hl : lv_has ls 2 [(0, .ref (a 0)), (1, .int x)] := hl
  refine lv_iload_n hx hb dX11_isPerson_0 rfl (lv_at hl 1 rfl) ?_
  refine lv_i2l hx hb dX11_isPerson_1 rfl ?_
  refine lv_lconst (v := 0) hx hb dX11_isPerson_2 (by decide) ?_
  refine lv_aload_n hx hb dX11_isPerson_3 rfl (lv_at hl 0 rfl) ?_
  refine gM_s S0 hG h dX11_isPerson_4 ?_
  refine lv_iconst (v := nI 1) hx hb dX11_isPerson_7 (by decide) ?_
  refine rM_s S0 hG h (by omega) dX11_isPerson_8 ?_
  refine lv_iconst (v := nI 1) hx hb dX11_isPerson_9 (by decide) ?_
  refine lv_isub hx hb dX11_isPerson_10 ?_
  refine lv_i2l hx hb dX11_isPerson_11 rfl ?_
  refine cS_iE S0 hG hA h hl.1 kw_RX11_49 kdS_X11_in (c_X11_in) ⟨rfl, rfl, by decide, by decide, Nat.le_refl _, Nat.le_refl _⟩ rfl rfl (Nat.le_of_ble_eq_true rfl) dX11_isPerson_12 (fun r u H locs hq h => ?_)
  rcases hq with ⟨rfl, b12⟩ | ⟨rfl, b12⟩
  ·
    have e9 : (nI (f 1) - nI 1).toInt = (f 1 : Int) - 1 := pk_sub_toInt (by omega) (by omega)
    exact hret _ () _ _ _ _ (by decide) (Or.inl ⟨rfl, by simpa [inR, i2l_toInt, e9] using b12⟩) h dX11_isPerson_15
  ·
    have e9 : (nI (f 1) - nI 1).toInt = (f 1 : Int) - 1 := pk_sub_toInt (by omega) (by omega)
    exact hret _ () _ _ _ _ (by decide) (Or.inr ⟨rfl, by simpa [inR, i2l_toInt, e9] using b12⟩) h dX11_isPerson_15
theorem kw_RX11_59 : GoodIn wsL_law (wsV RX11 59 RX11 yX11_its (WS yX11_its cX11_its 3 (some .int))) := gV (rin12 _ (List.mem_of_getElem? (i := 10) rfl)) (rin12 _ (List.mem_of_getElem? (i := 11) rfl)) (rin12 _ (List.mem_of_getElem? (i := 12) rfl)) (rin1 _ (List.mem_of_getElem? (i := 5) rfl)) (rin12 _ (List.mem_of_getElem? (i := 13) rfl))
theorem kdV_X11_its : yX11_its.cls = RX11 ∧ yX11_its.cls ≠ "java/lang/invoke/MethodHandle" ∧ yX11_its.cls ≠ "java/lang/invoke/VarHandle" ∧ (parseMethodDescriptor yX11_its.desc).map (fun d => d.parameters.length) = some 2 := ⟨rfl, by decide +kernel, by decide +kernel, by decide +kernel⟩
set_option maxHeartbeats 4000000 in
set_option maxRecDepth 100000 in
theorem c_X11_together {y : Nat} (hI : Inv f) (hy : y < 5) : Ki G l yX11_together cX11_together 4 (some .int) (RM 3 43) [.ref (a 0), .int (nI y)] (wM G a f g o d st du tb bi si nu mo kp it tn fr to vl wr) (fun u : Unit => wM G a f g o d st du tb bi si nu mo kp it tn fr to vl wr) (fun r _ => r = nI (sumN f y (f 1))) := by
  refine Ki.of (by decide) (Nat.le_of_ble_eq_true rfl) ?_
  intro p e s m args below meth c A Q ls hx hb S0 hG hA h hret hl
  have S0 : CF p m c cX11_together 4 s args RX11 := S0
  have hl : lv_has ls 4 [(0, .ref (a 0)), (1, .int (nI y))] := hl
  have h1 := hI.2.1
  have lp4 : ∀ (kf : Nat) (i : Nat) (H : Heap) (locs : List Loc) (ls : Array Slot) (hi : i ≤ f 1), f 1 - i < kf → WX G A s H locs (wM G a f g o d st du tb bi si nu mo kp it tn fr to vl wr) → lv_has ls 4 [(0, .ref (a 0)), (1, .int (nI y)), (2, .int (nI (sumN f y i))), (3, .int (nI i))] → W p l e (RM 3 43) s m args below meth c H locs 0 0 Q (F0 m 4 ls []) := by
    intro kf
    induction kf with
    | zero => intro i H locs ls hi hm; exact absurd hm (Nat.not_lt_zero _)
    | succ kf ih4 =>
      intro i H locs ls hi hm h hl
      refine lv_iload_n hx hb dX11_together_4 rfl (lv_at hl 3 rfl) ?_
      refine lv_aload_n hx hb dX11_together_5 rfl (lv_at hl 0 rfl) ?_
      refine gM_s S0 hG h dX11_together_6 ?_
      refine lv_iconst (v := nI 1) hx hb dX11_together_9 (by decide) ?_
      refine rM_s S0 hG h (by omega) dX11_together_10 ?_
      refine n_cge hx hb (by omega) (by omega) (tgt := 29) dX11_together_11 (by decide) (fun c11 => ?_) (fun c11 => ?_)
      ·
        have e9 : i = f 1 := by omega
        subst e9
        refine lv_iload_n hx hb dX11_together_29 rfl (lv_at hl 2 rfl) ?_
        exact hret _ () _ _ _ _ rfl h dX11_together_30
      ·
        refine lv_iload_n hx hb dX11_together_14 rfl (lv_at hl 2 rfl) ?_
        refine lv_aload_n hx hb dX11_together_15 rfl (lv_at hl 0 rfl) ?_
        refine lv_iload_n hx hb dX11_together_16 rfl (lv_at hl 3 rfl) ?_
        refine lv_iload_n hx hb dX11_together_17 rfl (lv_at hl 1 rfl) ?_
        refine cV_i0 S0 hG hA h hl.1 kw_RX11_59 kdV_X11_its (c_X11_its (by omega) (by omega)) ⟨rfl, rfl, by decide, by decide, Nat.le_refl _, Nat.le_refl _⟩ rfl 11 0 rfl rfl rfl (Nat.le_of_ble_eq_true rfl) dX11_together_18 (fun _ => rfl) (fun r u H locs hq h => ?_)
        obtain rfl := hq
        refine n_add hx hb dX11_together_21 ?_
        refine lv_istore_n hx hb dX11_together_22 rfl hl (by decide) rfl (fun ls hl => ?_)
        refine lv_iinc hx hb dX11_together_23 hl (k := 3) rfl (inc_1 _) (by decide) rfl (fun ls hl => ?_)
        refine lv_goto (tgt := 4) hx hb dX11_together_26 (by decide) ?_
        exact ih4 (i + 1) _ _ _ (by omega) (by omega) h (lv_sub hl [2, 3, 1, 0] rfl)
  refine lv_iconst (v := nI 0) hx hb dX11_together_0 (by decide) ?_
  refine lv_istore_n hx hb dX11_together_1 rfl hl (by decide) rfl (fun ls hl => ?_)
  refine lv_iconst (v := nI 0) hx hb dX11_together_2 (by decide) ?_
  refine lv_istore_n hx hb dX11_together_3 rfl hl (by decide) rfl (fun ls hl => ?_)
  exact lp4 _ 0 _ _ _ (Nat.zero_le _) (Nat.lt_succ_self _) h (lv_sub hl [2, 3, 1, 0] rfl)
theorem kw_RX11_62 : GoodIn wsL_law (wsV RX11 62 RX11 yX11_together (WS yX11_together cX11_together 4 (some .int))) := gV (rin13 _ (List.mem_of_getElem? (i := 9) rfl)) (rin13 _ (List.mem_of_getElem? (i := 10) rfl)) (rin13 _ (List.mem_of_getElem? (i := 11) rfl)) (rin1 _ (List.mem_of_getElem? (i := 5) rfl)) (rin13 _ (List.mem_of_getElem? (i := 12) rfl))
theorem kdV_X11_together : yX11_together.cls = RX11 ∧ yX11_together.cls ≠ "java/lang/invoke/MethodHandle" ∧ yX11_together.cls ≠ "java/lang/invoke/VarHandle" ∧ (parseMethodDescriptor yX11_together.desc).map (fun d => d.parameters.length) = some 1 := ⟨rfl, by decide +kernel, by decide +kernel, by decide +kernel⟩
set_option maxHeartbeats 4000000 in
set_option maxRecDepth 100000 in
theorem c_X11_harmonyNow (hI : Inv f) : Ki G l yX11_harmonyNow cX11_harmonyNow 1 (some .int) (RM 4 66) [.ref (a 0)] (wM G a f g o d st du tb bi si nu mo kp it tn fr to vl wr) (fun u : Unit => wM G a f g o d st du tb bi si nu mo kp it tn fr to vl wr) (fun r _ => r = nI (sumN f 3 (f 1)) - nI (sumN f 4 (f 1))) := by
  refine Ki.of (by decide) (Nat.le_of_ble_eq_true rfl) ?_
  intro p e s m args below meth c A Q ls hx hb S0 hG hA h hret hl
  have S0 : CF p m c cX11_harmonyNow 1 s args RX11 := S0
  have hl : lv_has ls 1 [(0, .ref (a 0))] := hl
  refine lv_aload_n hx hb dX11_harmonyNow_0 rfl (lv_at hl 0 rfl) ?_
  refine lv_iconst (v := nI 3) hx hb dX11_harmonyNow_1 (by decide) ?_
  refine cV_i0 S0 hG hA h hl.1 kw_RX11_62 kdV_X11_together (c_X11_together hI (by decide)) ⟨rfl, rfl, by decide, by decide, Nat.le_refl _, Nat.le_refl _⟩ rfl 11 0 rfl rfl rfl (Nat.le_of_ble_eq_true rfl) dX11_harmonyNow_2 (fun _ => rfl) (fun r u H locs hq h => ?_)
  obtain rfl := hq
  refine lv_aload_n hx hb dX11_harmonyNow_5 rfl (lv_at hl 0 rfl) ?_
  refine lv_iconst (v := nI 4) hx hb dX11_harmonyNow_6 (by decide) ?_
  refine cV_i0 S0 hG hA h hl.1 kw_RX11_62 kdV_X11_together (c_X11_together hI (by decide)) ⟨rfl, rfl, by decide, by decide, Nat.le_refl _, Nat.le_refl _⟩ rfl 11 0 rfl rfl rfl (Nat.le_of_ble_eq_true rfl) dX11_harmonyNow_7 (fun _ => rfl) (fun r u H locs hq h => ?_)
  obtain rfl := hq
  refine lv_isub hx hb dX11_harmonyNow_10 ?_
  exact hret _ () _ _ _ _ rfl h dX11_harmonyNow_11
set_option maxHeartbeats 4000000 in
set_option maxRecDepth 100000 in
theorem c_X11_quarter (hI : Inv f) : Ki G l yX11_quarter cX11_quarter 1 (some .int) (RM 1 0) [.ref (a 0)] (wM G a f g o d st du tb bi si nu mo kp it tn fr to vl wr) (fun u : Unit => wM G a f g o d st du tb bi si nu mo kp it tn fr to vl wr) (fun r _ => r = nI (qtr f)) := by
  refine Ki.of (by decide) (Nat.le_of_ble_eq_true rfl) ?_
  intro p e s m args below meth c A Q ls hx hb S0 hG hA h hret hl
  have S0 : CF p m c cX11_quarter 1 s args RX11 := S0
  have hl : lv_has ls 1 [(0, .ref (a 0))] := hl
  have h0 := hI.1
  refine lv_aload_n hx hb dX11_quarter_0 rfl (lv_at hl 0 rfl) ?_
  refine gM_s S0 hG h dX11_quarter_1 ?_
  refine lv_iconst (v := nI 0) hx hb dX11_quarter_4 (by decide) ?_
  refine rM_s S0 hG h (by omega) dX11_quarter_5 ?_
  refine lv_bipush (v := nI 8) hx hb dX11_quarter_6 (by decide) ?_
  refine n_div hx hb (by omega) (by decide) (by decide) dX11_quarter_8 ?_
  refine lv_bipush (v := nI 6) hx hb dX11_quarter_9 (by decide) ?_
  refine n_rem hx hb (by omega) (by decide) (by decide) dX11_quarter_11 ?_
  exact hret _ () _ _ _ _ rfl h dX11_quarter_12
set_option maxHeartbeats 4000000 in
set_option maxRecDepth 100000 in
theorem c_X11_ringing (hI : Inv f) : Ki G l yX11_ringing cX11_ringing 3 (some .int) (RM 1 0) [.ref (a 0)] (wM G a f g o d st du tb bi si nu mo kp it tn fr to vl wr) (fun u : Unit => wM G a f g o d st du tb bi si nu mo kp it tn fr to vl wr) (fun r _ => r = ring f) := by
  refine Ki.of (by decide) (Nat.le_of_ble_eq_true rfl) ?_
  intro p e s m args below meth c A Q ls hx hb S0 hG hA h hret hl
  have S0 : CF p m c cX11_ringing 3 s args RX11 := S0
  have hl : lv_has ls 3 [(0, .ref (a 0))] := hl
  have h0 := hI.1
  have hB := hI.2.2.2.1
  have lp4 : ∀ (kf : Nat) (i : Nat) (H : Heap) (locs : List Loc) (ls : Array Slot) (hi : i ≤ 3), 3 - i < kf → WX G A s H locs (wM G a f g o d st du tb bi si nu mo kp it tn fr to vl wr) → lv_has ls 3 [(0, .ref (a 0)), (1, .int (ringN f i)), (2, .int (nI i))] → W p l e (RM 1 0) s m args below meth c H locs 0 0 Q (F0 m 4 ls []) := by
    intro kf
    induction kf with
    | zero => intro i H locs ls hi hm; exact absurd hm (Nat.not_lt_zero _)
    | succ kf ih4 =>
      intro i H locs ls hi hm h hl
      refine lv_iload_n hx hb dX11_ringing_4 rfl (lv_at hl 2 rfl) ?_
      refine lv_iconst (v := nI 3) hx hb dX11_ringing_5 (by decide) ?_
      refine n_cge hx hb (by omega) (by omega) (tgt := 42) dX11_ringing_6 (by decide) (fun c6 => ?_) (fun c6 => ?_)
      ·
        have e9 : i = 3 := by omega
        subst e9
        refine lv_iload_n hx hb dX11_ringing_42 rfl (lv_at hl 1 rfl) ?_
        exact hret _ () _ _ _ _ rfl h dX11_ringing_43
      ·
        refine lv_aload_n hx hb dX11_ringing_9 rfl (lv_at hl 0 rfl) ?_
        refine gM_s S0 hG h dX11_ringing_10 ?_
        refine lv_iconst (v := nI 0) hx hb dX11_ringing_13 (by decide) ?_
        refine rM_s S0 hG h (by omega) dX11_ringing_14 ?_
        refine lv_bipush (v := nI 48) hx hb dX11_ringing_15 (by decide) ?_
        refine n_rem hx hb (by omega) (by decide) (by decide) dX11_ringing_17 ?_
        refine lv_aload_n hx hb dX11_ringing_18 rfl (lv_at hl 0 rfl) ?_
        refine gM_s S0 hG h dX11_ringing_19 ?_
        refine lv_bipush (v := nI 8) hx hb dX11_ringing_22 (by decide) ?_
        refine lv_iload_n hx hb dX11_ringing_24 rfl (lv_at hl 2 rfl) ?_
        refine n_add hx hb dX11_ringing_25 ?_
        refine rM_s S0 hG h (by omega) dX11_ringing_26 ?_
        have hb2 := hB i (by omega)
        unfold be at hb2
        have hm2 := Nat.mod_lt (f 0) (show 0 < 48 by omega)
        refine n_cne hx hb (by omega) (by omega) (tgt := 34) dX11_ringing_27 (by decide) (fun c27 => ?_) (fun c27 => ?_)
        ·
          have r9 : ringN f (i + 1) = ringN f i := by show (if f 0 % 48 = be f i then nI i else ringN f i) = _; rw [if_neg (show ¬ f 0 % 48 = be f i from c27)]
          refine lv_iload_n hx hb dX11_ringing_34 rfl (lv_at hl 1 rfl) ?_
          refine tI (ringN f (i + 1)) r9.symm ?_
          refine lv_istore_n hx hb dX11_ringing_35 rfl hl (by decide) rfl (fun ls hl => ?_)
          refine lv_iinc hx hb dX11_ringing_36 hl (k := 2) rfl (inc_1 _) (by decide) rfl (fun ls hl => ?_)
          refine lv_goto (tgt := 4) hx hb dX11_ringing_39 (by decide) ?_
          exact ih4 (i + 1) _ _ _ (by omega) (by omega) h (lv_sub hl [2, 1, 0] rfl)
        ·
          have r9 : ringN f (i + 1) = nI i := by show (if f 0 % 48 = be f i then nI i else ringN f i) = _; rw [if_pos (show f 0 % 48 = be f i from c27)]
          refine lv_iload_n hx hb dX11_ringing_30 rfl (lv_at hl 2 rfl) ?_
          refine lv_goto (tgt := 35) hx hb dX11_ringing_31 (by decide) ?_
          refine tI (ringN f (i + 1)) r9.symm ?_
          refine lv_istore_n hx hb dX11_ringing_35 rfl hl (by decide) rfl (fun ls hl => ?_)
          refine lv_iinc hx hb dX11_ringing_36 hl (k := 2) rfl (inc_1 _) (by decide) rfl (fun ls hl => ?_)
          refine lv_goto (tgt := 4) hx hb dX11_ringing_39 (by decide) ?_
          exact ih4 (i + 1) _ _ _ (by omega) (by omega) h (lv_sub hl [2, 1, 0] rfl)
  refine lv_iconst (v := -1) hx hb dX11_ringing_0 (by decide) ?_
  refine lv_istore_n hx hb dX11_ringing_1 rfl hl (by decide) rfl (fun ls hl => ?_)
  refine lv_iconst (v := nI 0) hx hb dX11_ringing_2 (by decide) ?_
  refine lv_istore_n hx hb dX11_ringing_3 rfl hl (by decide) rfl (fun ls hl => ?_)
  exact lp4 _ 0 _ _ _ (by omega) (Nat.lt_succ_self _) h (lv_sub hl [2, 1, 0] rfl)
theorem kw_RX11_91 : GoodIn wsL_law (wsV RX11 91 RX11 yX11_ringing (WS yX11_ringing cX11_ringing 3 (some .int))) := gV (rin12 _ (List.mem_of_getElem? (i := 2) rfl)) (rin12 _ (List.mem_of_getElem? (i := 3) rfl)) (rin12 _ (List.mem_of_getElem? (i := 4) rfl)) (rin1 _ (List.mem_of_getElem? (i := 5) rfl)) (rin12 _ (List.mem_of_getElem? (i := 5) rfl))
theorem kdV_X11_ringing : yX11_ringing.cls = RX11 ∧ yX11_ringing.cls ≠ "java/lang/invoke/MethodHandle" ∧ yX11_ringing.cls ≠ "java/lang/invoke/VarHandle" ∧ (parseMethodDescriptor yX11_ringing.desc).map (fun d => d.parameters.length) = some 0 := ⟨rfl, by decide +kernel, by decide +kernel, by decide +kernel⟩
set_option maxHeartbeats 4000000 in
set_option maxRecDepth 100000 in
theorem c_X11_isHearing {x : Nat} (hI : Inv f) (hx1 : x < 8) : Ki G l yX11_isHearing cX11_isHearing 4 (some .boolean) (RM 3 43) [.ref (a 0), .int (nI x)] (wM G a f g o d st du tb bi si nu mo kp it tn fr to vl wr) (fun u : Unit => wM G a f g o d st du tb bi si nu mo kp it tn fr to vl wr) (fun r _ => (r = nI 1 ∧ hears f x = true) ∨ (r = nI 0 ∧ hears f x = false)) := by
  refine Ki.ofz (by decide) (Nat.le_of_ble_eq_true rfl) ?_
  intro p e s m args below meth c A Q ls hx hb S0 hG hA h hret hl
  have S0 : CF p m c cX11_isHearing 4 s args RX11 := S0
  have hl : lv_has ls 4 [(0, .ref (a 0)), (1, .int (nI x))] := hl
  have h5 := hI.2.2.2.2 x hx1
  refine lv_aload_n hx hb dX11_isHearing_0 rfl (lv_at hl 0 rfl) ?_
  refine cV_i0 S0 hG hA h hl.1 kw_RX11_91 kdV_X11_ringing (c_X11_ringing hI) ⟨rfl, rfl, by decide, by decide, Nat.le_refl _, Nat.le_refl _⟩ rfl 11 0 rfl rfl rfl (Nat.le_of_ble_eq_true rfl) dX11_isHearing_1 (fun _ => rfl) (fun r u H locs hq h => ?_)
  obtain rfl := hq
  refine lv_istore_n hx hb dX11_isHearing_4 rfl hl (by decide) rfl (fun ls hl => ?_)
  refine lv_aload_n hx hb dX11_isHearing_5 rfl (lv_at hl 1 rfl) ?_
  refine lv_iload_n hx hb dX11_isHearing_6 rfl (lv_at hl 2 rfl) ?_
  refine lv_iconst (v := nI 3) hx hb dX11_isHearing_7 (by decide) ?_
  refine cV_i0 S0 hG hA h hl.1 kw_RX11_59 kdV_X11_its (c_X11_its (by omega) (by omega)) ⟨rfl, rfl, by decide, by decide, Nat.le_refl _, Nat.le_refl _⟩ rfl 11 0 rfl rfl rfl (Nat.le_of_ble_eq_true rfl) dX11_isHearing_8 (fun _ => rfl) (fun r u H locs hq h => ?_)
  obtain rfl := hq
  refine lv_bipush (v := nI 10) hx hb dX11_isHearing_11 (by decide) ?_
  refine n_cge hx hb (by omega) (by omega) (tgt := 20) dX11_isHearing_13 (by decide) (fun c13 => ?_) (fun c13 => ?_)
  ·
    refine lv_iconst (v := nI 0) hx hb dX11_isHearing_20 (by decide) ?_
    refine lv_istore_n hx hb dX11_isHearing_21 rfl hl (by decide) rfl (fun ls hl => ?_)
    refine lv_iload_n hx hb dX11_isHearing_22 rfl (lv_at hl 1 rfl) ?_
    refine lv_iconst (v := -1) hx hb dX11_isHearing_23 (by decide) ?_
    refine lv_icmp_ne hx hb (tgt := 29) dX11_isHearing_24 (by decide) (fun c24 => ?_) (fun c24 => ?_)
    ·
      refine lv_aload_n hx hb dX11_isHearing_29 rfl (lv_at hl 2 rfl) ?_
      refine lv_iload_n hx hb dX11_isHearing_30 rfl (lv_at hl 3 rfl) ?_
      refine lv_iconst (v := nI 0) hx hb dX11_isHearing_31 (by decide) ?_
      refine cV_i0 S0 hG hA h hl.1 kw_RX11_59 kdV_X11_its (c_X11_its (by omega) (by omega)) ⟨rfl, rfl, by decide, by decide, Nat.le_refl _, Nat.le_refl _⟩ rfl 11 0 rfl rfl rfl (Nat.le_of_ble_eq_true rfl) dX11_isHearing_32 (fun _ => rfl) (fun r u H locs hq h => ?_)
      obtain rfl := hq
      rcases (show its f x 0 = 2 ∨ its f x 0 = 3 ∨ its f x 0 = 4 ∨ its f x 0 = 5 ∨ (its f x 0 ≠ 2 ∧ its f x 0 ≠ 3 ∧ its f x 0 ≠ 4 ∧ its f x 0 ≠ 5) by omega) with e35 | e35 | e35 | e35 | e35
      ·
        refine n_swIn hx hb e35 (by decide) (off := 29) (tgt := 64) dX11_isHearing_35 (by decide) (by decide) rfl (by decide) ?_
        refine lv_iconst (v := nI 1) hx hb dX11_isHearing_64 (by decide) ?_
        exact hret _ () _ _ _ _ (by decide) (by first | exact Or.inl ⟨rfl, by simp [hears, hearK, nI_2, c13, c24, e35] <;> omega⟩ | exact Or.inr ⟨rfl, by simp [hears, hearK, nI_2, c13, c24, e35] <;> omega⟩) h dX11_isHearing_65
      ·
        refine n_swIn hx hb e35 (by decide) (off := 31) (tgt := 66) dX11_isHearing_35 (by decide) (by decide) rfl (by decide) ?_
        refine lv_iconst (v := nI 0) hx hb dX11_isHearing_66 (by decide) ?_
        exact hret _ () _ _ _ _ (by decide) (by first | exact Or.inl ⟨rfl, by simp [hears, hearK, nI_2, c13, c24, e35] <;> omega⟩ | exact Or.inr ⟨rfl, by simp [hears, hearK, nI_2, c13, c24, e35] <;> omega⟩) h dX11_isHearing_67
      ·
        refine n_swIn hx hb e35 (by decide) (off := 31) (tgt := 66) dX11_isHearing_35 (by decide) (by decide) rfl (by decide) ?_
        refine lv_iconst (v := nI 0) hx hb dX11_isHearing_66 (by decide) ?_
        exact hret _ () _ _ _ _ (by decide) (by first | exact Or.inl ⟨rfl, by simp [hears, hearK, nI_2, c13, c24, e35] <;> omega⟩ | exact Or.inr ⟨rfl, by simp [hears, hearK, nI_2, c13, c24, e35] <;> omega⟩) h dX11_isHearing_67
      ·
        refine n_swIn hx hb e35 (by decide) (off := 33) (tgt := 68) dX11_isHearing_35 (by decide) (by decide) rfl (by decide) ?_
        refine lv_iload_n hx hb dX11_isHearing_68 rfl (lv_at hl 0 rfl) ?_
        refine n_zeq hx hb (by decide) (tgt := 81) dX11_isHearing_69 (by decide) (fun _ => ?_) (fun q => absurd q (by decide))
        refine lv_iconst (v := nI 0) hx hb dX11_isHearing_81 (by decide) ?_
        exact hret _ () _ _ _ _ (by decide) (by first | exact Or.inl ⟨rfl, by simp [hears, hearK, nI_2, c13, c24, e35] <;> omega⟩ | exact Or.inr ⟨rfl, by simp [hears, hearK, nI_2, c13, c24, e35] <;> omega⟩) h dX11_isHearing_82
      ·
        refine n_swOut hx hb (by omega) (tgt := 83) dX11_isHearing_35 (by omega) (by decide) ?_
        refine lv_iload_n hx hb dX11_isHearing_83 rfl (lv_at hl 0 rfl) ?_
        exact hret _ () _ _ _ _ (by decide) (by first | exact Or.inl ⟨rfl, by simp [hears, hearK, nI_2, c13, c24, e35] <;> omega⟩ | exact Or.inr ⟨rfl, by simp [hears, hearK, nI_2, c13, c24, e35] <;> omega⟩) h dX11_isHearing_84
    ·
      refine lv_iconst (v := nI 0) hx hb dX11_isHearing_27 (by decide) ?_
      exact hret _ () _ _ _ _ (by decide) (by first | exact Or.inl ⟨rfl, by simp [hears, hearK, nI_2, c13, c24] <;> omega⟩ | exact Or.inr ⟨rfl, by simp [hears, hearK, nI_2, c13, c24] <;> omega⟩) h dX11_isHearing_28
  ·
    refine lv_iconst (v := nI 1) hx hb dX11_isHearing_16 (by decide) ?_
    refine lv_goto (tgt := 21) hx hb dX11_isHearing_17 (by decide) ?_
    refine lv_istore_n hx hb dX11_isHearing_21 rfl hl (by decide) rfl (fun ls hl => ?_)
    refine lv_iload_n hx hb dX11_isHearing_22 rfl (lv_at hl 1 rfl) ?_
    refine lv_iconst (v := -1) hx hb dX11_isHearing_23 (by decide) ?_
    refine lv_icmp_ne hx hb (tgt := 29) dX11_isHearing_24 (by decide) (fun c24 => ?_) (fun c24 => ?_)
    ·
      refine lv_aload_n hx hb dX11_isHearing_29 rfl (lv_at hl 2 rfl) ?_
      refine lv_iload_n hx hb dX11_isHearing_30 rfl (lv_at hl 3 rfl) ?_
      refine lv_iconst (v := nI 0) hx hb dX11_isHearing_31 (by decide) ?_
      refine cV_i0 S0 hG hA h hl.1 kw_RX11_59 kdV_X11_its (c_X11_its (by omega) (by omega)) ⟨rfl, rfl, by decide, by decide, Nat.le_refl _, Nat.le_refl _⟩ rfl 11 0 rfl rfl rfl (Nat.le_of_ble_eq_true rfl) dX11_isHearing_32 (fun _ => rfl) (fun r u H locs hq h => ?_)
      obtain rfl := hq
      rcases (show its f x 0 = 2 ∨ its f x 0 = 3 ∨ its f x 0 = 4 ∨ its f x 0 = 5 ∨ (its f x 0 ≠ 2 ∧ its f x 0 ≠ 3 ∧ its f x 0 ≠ 4 ∧ its f x 0 ≠ 5) by omega) with e35 | e35 | e35 | e35 | e35
      ·
        refine n_swIn hx hb e35 (by decide) (off := 29) (tgt := 64) dX11_isHearing_35 (by decide) (by decide) rfl (by decide) ?_
        refine lv_iconst (v := nI 1) hx hb dX11_isHearing_64 (by decide) ?_
        exact hret _ () _ _ _ _ (by decide) (by first | exact Or.inl ⟨rfl, by simp [hears, hearK, nI_2, c13, c24, e35] <;> omega⟩ | exact Or.inr ⟨rfl, by simp [hears, hearK, nI_2, c13, c24, e35] <;> omega⟩) h dX11_isHearing_65
      ·
        refine n_swIn hx hb e35 (by decide) (off := 31) (tgt := 66) dX11_isHearing_35 (by decide) (by decide) rfl (by decide) ?_
        refine lv_iconst (v := nI 0) hx hb dX11_isHearing_66 (by decide) ?_
        exact hret _ () _ _ _ _ (by decide) (by first | exact Or.inl ⟨rfl, by simp [hears, hearK, nI_2, c13, c24, e35] <;> omega⟩ | exact Or.inr ⟨rfl, by simp [hears, hearK, nI_2, c13, c24, e35] <;> omega⟩) h dX11_isHearing_67
      ·
        refine n_swIn hx hb e35 (by decide) (off := 31) (tgt := 66) dX11_isHearing_35 (by decide) (by decide) rfl (by decide) ?_
        refine lv_iconst (v := nI 0) hx hb dX11_isHearing_66 (by decide) ?_
        exact hret _ () _ _ _ _ (by decide) (by first | exact Or.inl ⟨rfl, by simp [hears, hearK, nI_2, c13, c24, e35] <;> omega⟩ | exact Or.inr ⟨rfl, by simp [hears, hearK, nI_2, c13, c24, e35] <;> omega⟩) h dX11_isHearing_67
      ·
        refine n_swIn hx hb e35 (by decide) (off := 33) (tgt := 68) dX11_isHearing_35 (by decide) (by decide) rfl (by decide) ?_
        refine lv_iload_n hx hb dX11_isHearing_68 rfl (lv_at hl 0 rfl) ?_
        refine n_zeq hx hb (by decide) (tgt := 81) dX11_isHearing_69 (by decide) (fun q => absurd q (by decide)) (fun _ => ?_)
        refine lv_iload_n hx hb dX11_isHearing_72 rfl (lv_at hl 1 rfl) ?_
        refine lv_iconst (v := nI 2) hx hb dX11_isHearing_73 (by decide) ?_
        refine lv_icmp_eq hx hb (tgt := 81) dX11_isHearing_74 (by decide) (fun c74 => ?_) (fun c74 => ?_)
        ·
          rw [nI_2] at c74
          refine lv_iconst (v := nI 0) hx hb dX11_isHearing_81 (by decide) ?_
          exact hret _ () _ _ _ _ (by decide) (by first | exact Or.inl ⟨rfl, by simp [hears, hearK, nI_2, c13, c24, e35, c74] <;> omega⟩ | exact Or.inr ⟨rfl, by simp [hears, hearK, nI_2, c13, c24, e35, c74] <;> omega⟩) h dX11_isHearing_82
        ·
          rw [nI_2] at c74
          refine lv_iconst (v := nI 1) hx hb dX11_isHearing_77 (by decide) ?_
          refine lv_goto (tgt := 82) hx hb dX11_isHearing_78 (by decide) ?_
          exact hret _ () _ _ _ _ (by decide) (by first | exact Or.inl ⟨rfl, by simp [hears, hearK, nI_2, c13, c24, e35, c74] <;> omega⟩ | exact Or.inr ⟨rfl, by simp [hears, hearK, nI_2, c13, c24, e35, c74] <;> omega⟩) h dX11_isHearing_82
      ·
        refine n_swOut hx hb (by omega) (tgt := 83) dX11_isHearing_35 (by omega) (by decide) ?_
        refine lv_iload_n hx hb dX11_isHearing_83 rfl (lv_at hl 0 rfl) ?_
        exact hret _ () _ _ _ _ (by decide) (by first | exact Or.inl ⟨rfl, by simp [hears, hearK, nI_2, c13, c24, e35] <;> omega⟩ | exact Or.inr ⟨rfl, by simp [hears, hearK, nI_2, c13, c24, e35] <;> omega⟩) h dX11_isHearing_84
    ·
      refine lv_iconst (v := nI 0) hx hb dX11_isHearing_27 (by decide) ?_
      exact hret _ () _ _ _ _ (by decide) (by first | exact Or.inl ⟨rfl, by simp [hears, hearK, nI_2, c13, c24] <;> omega⟩ | exact Or.inr ⟨rfl, by simp [hears, hearK, nI_2, c13, c24] <;> omega⟩) h dX11_isHearing_28
theorem kw_RX11_87 : GoodIn wsL_law (wsV RX11 87 RX11 yX11_quarter (WS yX11_quarter cX11_quarter 1 (some .int))) := gV (rin11 _ (List.mem_of_getElem? (i := 22) rfl)) (rin11 _ (List.mem_of_getElem? (i := 23) rfl)) (rin12 _ (List.mem_of_getElem? (i := 0) rfl)) (rin1 _ (List.mem_of_getElem? (i := 5) rfl)) (rin12 _ (List.mem_of_getElem? (i := 1) rfl))
theorem kdV_X11_quarter : yX11_quarter.cls = RX11 ∧ yX11_quarter.cls ≠ "java/lang/invoke/MethodHandle" ∧ yX11_quarter.cls ≠ "java/lang/invoke/VarHandle" ∧ (parseMethodDescriptor yX11_quarter.desc).map (fun d => d.parameters.length) = some 0 := ⟨rfl, by decide +kernel, by decide +kernel, by decide +kernel⟩
set_option maxHeartbeats 4000000 in
set_option maxRecDepth 100000 in
theorem c_X11_writtenFor {x : Nat} (hI : Inv f) (hx1 : x < 8) : Ki G l yX11_writtenFor cX11_writtenFor 6 (some .int) (RM 3 43) [.ref (a 0), .int (nI x)] (wM G a f g o d st du tb bi si nu mo kp it tn fr to vl wr) (fun u : Unit => wM G a f g o d st du tb bi si nu mo kp it tn fr to vl wr) (fun r _ => r = nI (writ f x)) := by
  refine Ki.of (by decide) (Nat.le_of_ble_eq_true rfl) ?_
  intro p e s m args below meth c A Q ls hx hb S0 hG hA h hret hl
  have S0 : CF p m c cX11_writtenFor 6 s args RX11 := S0
  have hl : lv_has ls 6 [(0, .ref (a 0)), (1, .int (nI x))] := hl
  have h5 := hI.2.2.2.2 x hx1
  have h0 := hI.1
  have hq := qtr_lt f
  have hs := hI.2.2.1 _ hq
  refine lv_aload_n hx hb dX11_writtenFor_0 rfl (lv_at hl 0 rfl) ?_
  refine cV_i0 S0 hG hA h hl.1 kw_RX11_87 kdV_X11_quarter (c_X11_quarter hI) ⟨rfl, rfl, by decide, by decide, Nat.le_refl _, Nat.le_refl _⟩ rfl 11 0 rfl rfl rfl (Nat.le_of_ble_eq_true rfl) dX11_writtenFor_1 (fun _ => rfl) (fun r u H locs hq h => ?_)
  obtain rfl := hq
  refine lv_istore_n hx hb dX11_writtenFor_4 rfl hl (by decide) rfl (fun ls hl => ?_)
  refine lv_aload_n hx hb dX11_writtenFor_5 rfl (lv_at hl 1 rfl) ?_
  refine gM_s S0 hG h dX11_writtenFor_6 ?_
  refine lv_iconst (v := nI 2) hx hb dX11_writtenFor_9 (by decide) ?_
  refine lv_iload_n hx hb dX11_writtenFor_10 rfl (lv_at hl 0 rfl) ?_
  refine n_add hx hb dX11_writtenFor_11 ?_
  refine rM_s S0 hG h (by omega) dX11_writtenFor_12 ?_
  refine lv_istore_n hx hb dX11_writtenFor_13 rfl hl (by decide) rfl (fun ls hl => ?_)
  refine lv_bipush (v := nI 11) hx hb dX11_writtenFor_14 (by decide) ?_
  refine lv_iload_n hx hb dX11_writtenFor_16 rfl (lv_at hl 0 rfl) ?_
  refine n_sub hx hb (show f (2 + qtr f) ≤ 11 from hs) dX11_writtenFor_17 ?_
  refine lv_istore hx hb dX11_writtenFor_18 hl (by decide) rfl (fun ls hl => ?_)
  refine lv_iload_n hx hb dX11_writtenFor_20 rfl (lv_at hl 2 rfl) ?_
  refine lv_iconst (v := nI 2) hx hb dX11_writtenFor_21 (by decide) ?_
  refine n_rem hx hb (by omega) (by decide) (by decide) dX11_writtenFor_22 ?_
  refine lv_iconst (v := nI 1) hx hb dX11_writtenFor_23 (by decide) ?_
  refine n_cne hx hb (by omega) (by omega) (tgt := 32) dX11_writtenFor_24 (by decide) (fun c24 => ?_) (fun c24 => ?_)
  ·
    refine lv_iload_n hx hb dX11_writtenFor_32 rfl (lv_at hl 1 rfl) ?_
    refine lv_istore hx hb dX11_writtenFor_33 hl (by decide) rfl (fun ls hl => ?_)
    refine lv_aload_n hx hb dX11_writtenFor_35 rfl (lv_at hl 4 rfl) ?_
    refine lv_iload_n hx hb dX11_writtenFor_36 rfl (lv_at hl 5 rfl) ?_
    refine lv_iconst (v := nI 0) hx hb dX11_writtenFor_37 (by decide) ?_
    refine cV_i0 S0 hG hA h hl.1 kw_RX11_59 kdV_X11_its (c_X11_its (by omega) (by omega)) ⟨rfl, rfl, by decide, by decide, Nat.le_refl _, Nat.le_refl _⟩ rfl 11 0 rfl rfl rfl (Nat.le_of_ble_eq_true rfl) dX11_writtenFor_38 (fun _ => rfl) (fun r u H locs hq h => ?_)
    obtain rfl := hq
    rcases (show its f x 0 = 1 ∨ its f x 0 = 2 ∨ its f x 0 = 3 ∨ its f x 0 = 4 ∨ its f x 0 = 5 ∨ (its f x 0 ≠ 1 ∧ its f x 0 ≠ 2 ∧ its f x 0 ≠ 3 ∧ its f x 0 ≠ 4 ∧ its f x 0 ≠ 5) by omega) with e41 | e41 | e41 | e41 | e41 | e41
    ·
      refine n_swIn hx hb e41 (by decide) (off := 35) (tgt := 76) dX11_writtenFor_41 (by decide) (by decide) rfl (by decide) ?_
      refine lv_iload hx hb dX11_writtenFor_76 (lv_at hl 1 rfl) ?_
      exact hret _ () _ _ _ _ (nI_cong (by simp [writ, singW, sc, c24, e41])) h dX11_writtenFor_78
    ·
      refine n_swIn hx hb e41 (by decide) (off := 38) (tgt := 79) dX11_writtenFor_41 (by decide) (by decide) rfl (by decide) ?_
      refine lv_iload hx hb dX11_writtenFor_79 (lv_at hl 0 rfl) ?_
      exact hret _ () _ _ _ _ (nI_cong (by simp [writ, singW, sc, c24, e41])) h dX11_writtenFor_81
    ·
      refine n_swIn hx hb e41 (by decide) (off := 41) (tgt := 82) dX11_writtenFor_41 (by decide) (by decide) rfl (by decide) ?_
      refine lv_aload_n hx hb dX11_writtenFor_82 rfl (lv_at hl 4 rfl) ?_
      refine lv_iload_n hx hb dX11_writtenFor_83 rfl (lv_at hl 5 rfl) ?_
      refine lv_iconst (v := nI 1) hx hb dX11_writtenFor_84 (by decide) ?_
      refine cV_i0 S0 hG hA h hl.1 kw_RX11_59 kdV_X11_its (c_X11_its (by omega) (by omega)) ⟨rfl, rfl, by decide, by decide, Nat.le_refl _, Nat.le_refl _⟩ rfl 11 0 rfl rfl rfl (Nat.le_of_ble_eq_true rfl) dX11_writtenFor_85 (fun _ => rfl) (fun r u H locs hq h => ?_)
      obtain rfl := hq
      refine lv_iconst (v := nI 1) hx hb dX11_writtenFor_88 (by decide) ?_
      refine n_add hx hb dX11_writtenFor_89 ?_
      refine lv_bipush (v := nI 12) hx hb dX11_writtenFor_90 (by decide) ?_
      refine n_rem hx hb (by omega) (by decide) (by decide) dX11_writtenFor_92 ?_
      exact hret _ () _ _ _ _ (nI_cong (by simp [writ, singW, sc, c24, e41])) h dX11_writtenFor_93
    ·
      refine n_swIn hx hb e41 (by decide) (off := 53) (tgt := 94) dX11_writtenFor_41 (by decide) (by decide) rfl (by decide) ?_
      refine lv_aload_n hx hb dX11_writtenFor_94 rfl (lv_at hl 4 rfl) ?_
      refine gM_s S0 hG h dX11_writtenFor_95 ?_
      refine lv_iconst (v := nI 0) hx hb dX11_writtenFor_98 (by decide) ?_
      refine rM_s S0 hG h (by omega) dX11_writtenFor_99 ?_
      refine lv_bipush (v := nI 8) hx hb dX11_writtenFor_100 (by decide) ?_
      refine n_rem hx hb (by omega) (by decide) (by decide) dX11_writtenFor_102 ?_
      refine lv_bipush (v := nI 7) hx hb dX11_writtenFor_103 (by decide) ?_
      refine n_cne hx hb (by omega) (by omega) (tgt := 112) dX11_writtenFor_105 (by decide) (fun c105 => ?_) (fun c105 => ?_)
      ·
        refine lv_iload hx hb dX11_writtenFor_112 (lv_at hl 0 rfl) ?_
        exact hret _ () _ _ _ _ (nI_cong (by simp [writ, singW, sc, c24, e41, c105])) h dX11_writtenFor_114
      ·
        refine lv_iconst (v := nI 5) hx hb dX11_writtenFor_108 (by decide) ?_
        refine lv_goto (tgt := 114) hx hb dX11_writtenFor_109 (by decide) ?_
        exact hret _ () _ _ _ _ (nI_cong (by simp [writ, singW, sc, c24, e41, c105])) h dX11_writtenFor_114
    ·
      refine n_swIn hx hb e41 (by decide) (off := 74) (tgt := 115) dX11_writtenFor_41 (by decide) (by decide) rfl (by decide) ?_
      refine lv_iload hx hb dX11_writtenFor_115 (lv_at hl 1 rfl) ?_
      refine n_zle hx hb (by omega) (tgt := 127) dX11_writtenFor_117 (by decide) (fun c117 => ?_) (fun c117 => ?_)
      ·
        refine lv_iconst (v := nI 0) hx hb dX11_writtenFor_127 (by decide) ?_
        exact hret _ () _ _ _ _ (nI_cong (by simp [writ, singW, sc, c24, e41, c117])) h dX11_writtenFor_128
      ·
        refine lv_iload hx hb dX11_writtenFor_120 (lv_at hl 1 rfl) ?_
        refine lv_iconst (v := nI 1) hx hb dX11_writtenFor_122 (by decide) ?_
        refine n_sub hx hb (by omega) dX11_writtenFor_123 ?_
        refine lv_goto (tgt := 128) hx hb dX11_writtenFor_124 (by decide) ?_
        exact hret _ () _ _ _ _ (nI_cong (by simp [writ, singW, sc, c24, e41, c117])) h dX11_writtenFor_128
    ·
      refine n_swOut hx hb (by omega) (tgt := 129) dX11_writtenFor_41 (by omega) (by decide) ?_
      refine lv_iload_n hx hb dX11_writtenFor_129 rfl (lv_at hl 2 rfl) ?_
      exact hret _ () _ _ _ _ (nI_cong (by simp [writ, singW, sc, c24, e41])) h dX11_writtenFor_130
  ·
    refine lv_bipush (v := nI 11) hx hb dX11_writtenFor_27 (by decide) ?_
    refine lv_goto (tgt := 33) hx hb dX11_writtenFor_29 (by decide) ?_
    refine lv_istore hx hb dX11_writtenFor_33 hl (by decide) rfl (fun ls hl => ?_)
    refine lv_aload_n hx hb dX11_writtenFor_35 rfl (lv_at hl 4 rfl) ?_
    refine lv_iload_n hx hb dX11_writtenFor_36 rfl (lv_at hl 5 rfl) ?_
    refine lv_iconst (v := nI 0) hx hb dX11_writtenFor_37 (by decide) ?_
    refine cV_i0 S0 hG hA h hl.1 kw_RX11_59 kdV_X11_its (c_X11_its (by omega) (by omega)) ⟨rfl, rfl, by decide, by decide, Nat.le_refl _, Nat.le_refl _⟩ rfl 11 0 rfl rfl rfl (Nat.le_of_ble_eq_true rfl) dX11_writtenFor_38 (fun _ => rfl) (fun r u H locs hq h => ?_)
    obtain rfl := hq
    rcases (show its f x 0 = 1 ∨ its f x 0 = 2 ∨ its f x 0 = 3 ∨ its f x 0 = 4 ∨ its f x 0 = 5 ∨ (its f x 0 ≠ 1 ∧ its f x 0 ≠ 2 ∧ its f x 0 ≠ 3 ∧ its f x 0 ≠ 4 ∧ its f x 0 ≠ 5) by omega) with e41 | e41 | e41 | e41 | e41 | e41
    ·
      refine n_swIn hx hb e41 (by decide) (off := 35) (tgt := 76) dX11_writtenFor_41 (by decide) (by decide) rfl (by decide) ?_
      refine lv_iload hx hb dX11_writtenFor_76 (lv_at hl 1 rfl) ?_
      exact hret _ () _ _ _ _ (nI_cong (by simp [writ, singW, sc, c24, e41])) h dX11_writtenFor_78
    ·
      refine n_swIn hx hb e41 (by decide) (off := 38) (tgt := 79) dX11_writtenFor_41 (by decide) (by decide) rfl (by decide) ?_
      refine lv_iload hx hb dX11_writtenFor_79 (lv_at hl 0 rfl) ?_
      exact hret _ () _ _ _ _ (nI_cong (by simp [writ, singW, sc, c24, e41])) h dX11_writtenFor_81
    ·
      refine n_swIn hx hb e41 (by decide) (off := 41) (tgt := 82) dX11_writtenFor_41 (by decide) (by decide) rfl (by decide) ?_
      refine lv_aload_n hx hb dX11_writtenFor_82 rfl (lv_at hl 4 rfl) ?_
      refine lv_iload_n hx hb dX11_writtenFor_83 rfl (lv_at hl 5 rfl) ?_
      refine lv_iconst (v := nI 1) hx hb dX11_writtenFor_84 (by decide) ?_
      refine cV_i0 S0 hG hA h hl.1 kw_RX11_59 kdV_X11_its (c_X11_its (by omega) (by omega)) ⟨rfl, rfl, by decide, by decide, Nat.le_refl _, Nat.le_refl _⟩ rfl 11 0 rfl rfl rfl (Nat.le_of_ble_eq_true rfl) dX11_writtenFor_85 (fun _ => rfl) (fun r u H locs hq h => ?_)
      obtain rfl := hq
      refine lv_iconst (v := nI 1) hx hb dX11_writtenFor_88 (by decide) ?_
      refine n_add hx hb dX11_writtenFor_89 ?_
      refine lv_bipush (v := nI 12) hx hb dX11_writtenFor_90 (by decide) ?_
      refine n_rem hx hb (by omega) (by decide) (by decide) dX11_writtenFor_92 ?_
      exact hret _ () _ _ _ _ (nI_cong (by simp [writ, singW, sc, c24, e41])) h dX11_writtenFor_93
    ·
      refine n_swIn hx hb e41 (by decide) (off := 53) (tgt := 94) dX11_writtenFor_41 (by decide) (by decide) rfl (by decide) ?_
      refine lv_aload_n hx hb dX11_writtenFor_94 rfl (lv_at hl 4 rfl) ?_
      refine gM_s S0 hG h dX11_writtenFor_95 ?_
      refine lv_iconst (v := nI 0) hx hb dX11_writtenFor_98 (by decide) ?_
      refine rM_s S0 hG h (by omega) dX11_writtenFor_99 ?_
      refine lv_bipush (v := nI 8) hx hb dX11_writtenFor_100 (by decide) ?_
      refine n_rem hx hb (by omega) (by decide) (by decide) dX11_writtenFor_102 ?_
      refine lv_bipush (v := nI 7) hx hb dX11_writtenFor_103 (by decide) ?_
      refine n_cne hx hb (by omega) (by omega) (tgt := 112) dX11_writtenFor_105 (by decide) (fun c105 => ?_) (fun c105 => ?_)
      ·
        refine lv_iload hx hb dX11_writtenFor_112 (lv_at hl 0 rfl) ?_
        exact hret _ () _ _ _ _ (nI_cong (by simp [writ, singW, sc, c24, e41, c105])) h dX11_writtenFor_114
      ·
        refine lv_iconst (v := nI 5) hx hb dX11_writtenFor_108 (by decide) ?_
        refine lv_goto (tgt := 114) hx hb dX11_writtenFor_109 (by decide) ?_
        exact hret _ () _ _ _ _ (nI_cong (by simp [writ, singW, sc, c24, e41, c105])) h dX11_writtenFor_114
    ·
      refine n_swIn hx hb e41 (by decide) (off := 74) (tgt := 115) dX11_writtenFor_41 (by decide) (by decide) rfl (by decide) ?_
      refine lv_iload hx hb dX11_writtenFor_115 (lv_at hl 1 rfl) ?_
      refine n_zle hx hb (by omega) (tgt := 127) dX11_writtenFor_117 (by decide) (fun c117 => ?_) (fun c117 => ?_)
      ·
        refine lv_iconst (v := nI 0) hx hb dX11_writtenFor_127 (by decide) ?_
        exact hret _ () _ _ _ _ (nI_cong (by simp [writ, singW, sc, c24, e41, c117])) h dX11_writtenFor_128
      ·
        refine lv_iload hx hb dX11_writtenFor_120 (lv_at hl 1 rfl) ?_
        refine lv_iconst (v := nI 1) hx hb dX11_writtenFor_122 (by decide) ?_
        refine n_sub hx hb (by omega) dX11_writtenFor_123 ?_
        refine lv_goto (tgt := 128) hx hb dX11_writtenFor_124 (by decide) ?_
        exact hret _ () _ _ _ _ (nI_cong (by simp [writ, singW, sc, c24, e41, c117])) h dX11_writtenFor_128
    ·
      refine n_swOut hx hb (by omega) (tgt := 129) dX11_writtenFor_41 (by omega) (by decide) ?_
      refine lv_iload_n hx hb dX11_writtenFor_129 rfl (lv_at hl 2 rfl) ?_
      exact hret _ () _ _ _ _ (nI_cong (by simp [writ, singW, sc, c24, e41])) h dX11_writtenFor_130
theorem kw_RX11_104 : GoodIn wsL_law (wsV RX11 104 RX11 yX11_isHearing (WS yX11_isHearing cX11_isHearing 4 (some .boolean))) := gV (rin12 _ (List.mem_of_getElem? (i := 21) rfl)) (rin12 _ (List.mem_of_getElem? (i := 22) rfl)) (rin12 _ (List.mem_of_getElem? (i := 23) rfl)) (rin1 _ (List.mem_of_getElem? (i := 5) rfl)) (rin13 _ (List.mem_of_getElem? (i := 0) rfl))
theorem kw_RX11_107 : GoodIn wsL_law (wsV RX11 107 RX11 yX11_writtenFor (WS yX11_writtenFor cX11_writtenFor 6 (some .int))) := gV (rin13 _ (List.mem_of_getElem? (i := 1) rfl)) (rin13 _ (List.mem_of_getElem? (i := 2) rfl)) (rin13 _ (List.mem_of_getElem? (i := 3) rfl)) (rin1 _ (List.mem_of_getElem? (i := 5) rfl)) (rin13 _ (List.mem_of_getElem? (i := 4) rfl))
theorem kdV_X11_isHearing : yX11_isHearing.cls = RX11 ∧ yX11_isHearing.cls ≠ "java/lang/invoke/MethodHandle" ∧ yX11_isHearing.cls ≠ "java/lang/invoke/VarHandle" ∧ (parseMethodDescriptor yX11_isHearing.desc).map (fun d => d.parameters.length) = some 1 := ⟨rfl, by decide +kernel, by decide +kernel, by decide +kernel⟩
theorem kdV_X11_writtenFor : yX11_writtenFor.cls = RX11 ∧ yX11_writtenFor.cls ≠ "java/lang/invoke/MethodHandle" ∧ yX11_writtenFor.cls ≠ "java/lang/invoke/VarHandle" ∧ (parseMethodDescriptor yX11_writtenFor.desc).map (fun d => d.parameters.length) = some 1 := ⟨rfl, by decide +kernel, by decide +kernel, by decide +kernel⟩
set_option maxHeartbeats 4000000 in
set_option maxRecDepth 100000 in
theorem c_X11_dueOf {x : Nat} (hI : Inv f) (hx1 : x < 8) : Ki G l yX11_dueOf cX11_dueOf 2 (some .int) (RM 4 68) [.ref (a 0), .int (nI x)] (wM G a f g o d st du tb bi si nu mo kp it tn fr to vl wr) (fun u : Unit => wM G a f g o d st du tb bi si nu mo kp it tn fr to vl wr) (fun r _ => r = nI (due f x)) := by
  refine Ki.of (by decide) (Nat.le_of_ble_eq_true rfl) ?_
  intro p e s m args below meth c A Q ls hx hb S0 hG hA h hret hl
  have S0 : CF p m c cX11_dueOf 2 s args RX11 := S0
  have hl : lv_has ls 2 [(0, .ref (a 0)), (1, .int (nI x))] := hl
  refine lv_aload_n hx hb dX11_dueOf_0 rfl (lv_at hl 0 rfl) ?_
  refine lv_iload_n hx hb dX11_dueOf_1 rfl (lv_at hl 1 rfl) ?_
  refine cV_i0 S0 hG hA h hl.1 kw_RX11_104 kdV_X11_isHearing (c_X11_isHearing hI (by omega)) ⟨rfl, rfl, by decide, by decide, Nat.le_refl _, Nat.le_refl _⟩ rfl 11 0 rfl rfl rfl (Nat.le_of_ble_eq_true rfl) dX11_dueOf_2 (fun _ => rfl) (fun r u H locs hq h => ?_)
  rcases hq with ⟨rfl, b2⟩ | ⟨rfl, b2⟩
  ·
    refine n_zeq hx hb (by decide) (tgt := 12) dX11_dueOf_5 (by decide) (fun q => absurd q (by decide)) (fun _ => ?_)
    refine lv_iconst (v := nI 0) hx hb dX11_dueOf_8 (by decide) ?_
    refine lv_goto (tgt := 17) hx hb dX11_dueOf_9 (by decide) ?_
    exact hret _ () _ _ _ _ (nI_cong (by simp [due, b2])) h dX11_dueOf_17
  ·
    refine n_zeq hx hb (by decide) (tgt := 12) dX11_dueOf_5 (by decide) (fun _ => ?_) (fun q => absurd q (by decide))
    refine lv_aload_n hx hb dX11_dueOf_12 rfl (lv_at hl 0 rfl) ?_
    refine lv_iload_n hx hb dX11_dueOf_13 rfl (lv_at hl 1 rfl) ?_
    refine cV_i0 S0 hG hA h hl.1 kw_RX11_107 kdV_X11_writtenFor (c_X11_writtenFor hI (by omega)) ⟨rfl, rfl, by decide, by decide, Nat.le_refl _, Nat.le_refl _⟩ rfl 11 0 rfl rfl rfl (Nat.le_of_ble_eq_true rfl) dX11_dueOf_14 (fun _ => rfl) (fun r u H locs hq h => ?_)
    obtain rfl := hq
    exact hret _ () _ _ _ _ (nI_cong (by simp [due, b2])) h dX11_dueOf_17
set_option maxHeartbeats 4000000 in
set_option maxRecDepth 100000 in
theorem c_X11_signOf {x : Int32} : Ki G l yX11_signOf cX11_signOf 1 (some .int) (RM 1 0) [.int x] ([]) (fun u : Unit => []) (fun r _ => r = sgnI x) := by
  refine Ki.of (by decide) (Nat.le_of_ble_eq_true rfl) ?_
  intro p e s m args below meth c A Q ls hx hb S0 hG hA h hret hl
  have S0 : CF p m c cX11_signOf 1 s args RX11 := S0
  have hl : lv_has ls 1 [(0, .int x)] := hl
  refine lv_iload_n hx hb dX11_signOf_0 rfl (lv_at hl 0 rfl) ?_
  refine lv_if_le hx hb (tgt := 8) dX11_signOf_1 (by decide) (fun c1 => ?_) (fun c1 => ?_)
  ·
    refine lv_iload_n hx hb dX11_signOf_8 rfl (lv_at hl 0 rfl) ?_
    refine lv_if_ge hx hb (tgt := 16) dX11_signOf_9 (by decide) (fun c9 => ?_) (fun c9 => ?_)
    ·
      refine lv_iconst (v := nI 0) hx hb dX11_signOf_16 (by decide) ?_
      exact hret _ () _ _ _ _ (by simp only [sgnI]; rw [if_neg (Int32.not_lt.mpr c1), if_neg (Int32.not_lt.mpr c9)]; rfl) h dX11_signOf_17
    ·
      refine lv_iconst (v := -1) hx hb dX11_signOf_12 (by decide) ?_
      refine lv_goto (tgt := 17) hx hb dX11_signOf_13 (by decide) ?_
      exact hret _ () _ _ _ _ (by simp only [sgnI]; rw [if_neg (Int32.not_lt.mpr c1), if_pos (Int32.not_le.mp c9)]) h dX11_signOf_17
  ·
    refine lv_iconst (v := nI 1) hx hb dX11_signOf_4 (by decide) ?_
    refine lv_goto (tgt := 17) hx hb dX11_signOf_5 (by decide) ?_
    exact hret _ () _ _ _ _ (by simp only [sgnI]; rw [if_pos (Int32.not_le.mp c1)]; rfl) h dX11_signOf_17
theorem kw_RX11_84 : GoodIn wsL_law (wsV RX11 84 RX11 yX11_dueOf (WS yX11_dueOf cX11_dueOf 2 (some .int))) := gV (rin12 _ (List.mem_of_getElem? (i := 17) rfl)) (rin12 _ (List.mem_of_getElem? (i := 18) rfl)) (rin12 _ (List.mem_of_getElem? (i := 19) rfl)) (rin1 _ (List.mem_of_getElem? (i := 5) rfl)) (rin12 _ (List.mem_of_getElem? (i := 20) rfl))
theorem kdV_X11_dueOf : yX11_dueOf.cls = RX11 ∧ yX11_dueOf.cls ≠ "java/lang/invoke/MethodHandle" ∧ yX11_dueOf.cls ≠ "java/lang/invoke/VarHandle" ∧ (parseMethodDescriptor yX11_dueOf.desc).map (fun d => d.parameters.length) = some 1 := ⟨rfl, by decide +kernel, by decide +kernel, by decide +kernel⟩
set_option maxHeartbeats 4000000 in
set_option maxRecDepth 100000 in
theorem c_X11_dueOnes (hI : Inv f) : Ki G l yX11_dueOnes cX11_dueOnes 3 (some .int) (RM 5 89) [.ref (a 0)] (wM G a f g o d st du tb bi si nu mo kp it tn fr to vl wr) (fun u : Unit => wM G a f g o d st du tb bi si nu mo kp it tn fr to vl wr) (fun r _ => r = nI (dueOnes f)) := by
  refine Ki.of (by decide) (Nat.le_of_ble_eq_true rfl) ?_
  intro p e s m args below meth c A Q ls hx hb S0 hG hA h hret hl
  have S0 : CF p m c cX11_dueOnes 3 s args RX11 := S0
  have hl : lv_has ls 3 [(0, .ref (a 0))] := hl
  have h1 := hI.2.1
  have lp4 : ∀ (kf : Nat) (i : Nat) (H : Heap) (locs : List Loc) (ls : Array Slot) (hi : i ≤ f 1), f 1 - i < kf → WX G A s H locs (wM G a f g o d st du tb bi si nu mo kp it tn fr to vl wr) → lv_has ls 3 [(0, .ref (a 0)), (1, .int (nI (setN (fun p => decide (its f p 1 = due f p)) i))), (2, .int (nI i))] → W p l e (RM 5 89) s m args below meth c H locs 0 0 Q (F0 m 4 ls []) := by
    intro kf
    induction kf with
    | zero => intro i H locs ls hi hm; exact absurd hm (Nat.not_lt_zero _)
    | succ kf ih4 =>
      intro i H locs ls hi hm h hl
      refine lv_iload_n hx hb dX11_dueOnes_4 rfl (lv_at hl 2 rfl) ?_
      refine lv_aload_n hx hb dX11_dueOnes_5 rfl (lv_at hl 0 rfl) ?_
      refine gM_s S0 hG h dX11_dueOnes_6 ?_
      refine lv_iconst (v := nI 1) hx hb dX11_dueOnes_9 (by decide) ?_
      refine rM_s S0 hG h (by omega) dX11_dueOnes_10 ?_
      refine n_cge hx hb (by omega) (by omega) (tgt := 44) dX11_dueOnes_11 (by decide) (fun c11 => ?_) (fun c11 => ?_)
      ·
        have e9 : i = f 1 := by omega
        subst e9
        refine lv_iload_n hx hb dX11_dueOnes_44 rfl (lv_at hl 1 rfl) ?_
        exact hret _ () _ _ _ _ rfl h dX11_dueOnes_45
      ·
        refine lv_iload_n hx hb dX11_dueOnes_14 rfl (lv_at hl 1 rfl) ?_
        refine lv_aload_n hx hb dX11_dueOnes_15 rfl (lv_at hl 0 rfl) ?_
        refine lv_iload_n hx hb dX11_dueOnes_16 rfl (lv_at hl 2 rfl) ?_
        refine lv_iconst (v := nI 1) hx hb dX11_dueOnes_17 (by decide) ?_
        refine cV_i0 S0 hG hA h hl.1 kw_RX11_59 kdV_X11_its (c_X11_its (by omega) (by omega)) ⟨rfl, rfl, by decide, by decide, Nat.le_refl _, Nat.le_refl _⟩ rfl 11 0 rfl rfl rfl (Nat.le_of_ble_eq_true rfl) dX11_dueOnes_18 (fun _ => rfl) (fun r u H locs hq h => ?_)
        obtain rfl := hq
        refine lv_aload_n hx hb dX11_dueOnes_21 rfl (lv_at hl 0 rfl) ?_
        refine lv_iload_n hx hb dX11_dueOnes_22 rfl (lv_at hl 2 rfl) ?_
        refine cV_i0 S0 hG hA h hl.1 kw_RX11_84 kdV_X11_dueOf (c_X11_dueOf hI (by omega)) ⟨rfl, rfl, by decide, by decide, Nat.le_refl _, Nat.le_refl _⟩ rfl 11 0 rfl rfl rfl (Nat.le_of_ble_eq_true rfl) dX11_dueOnes_23 (fun _ => rfl) (fun r u H locs hq h => ?_)
        obtain rfl := hq
        have h5 := hI.2.2.2.2 i (by omega)
        have h6 := due_le hI i
        refine n_cne hx hb (by omega) (by omega) (tgt := 35) dX11_dueOnes_26 (by decide) (fun c26 => ?_) (fun c26 => ?_)
        ·
          refine lv_iconst (v := nI 0) hx hb dX11_dueOnes_35 (by decide) ?_
          refine lv_ior hx hb dX11_dueOnes_36 ?_
          refine tN (t := setN (fun p => decide (its f p 1 = due f p)) (i + 1)) (by rw [or_nI]; exact nI_cong (by simp [setN, c26])) ?_
          refine lv_istore_n hx hb dX11_dueOnes_37 rfl hl (by decide) rfl (fun ls hl => ?_)
          refine lv_iinc hx hb dX11_dueOnes_38 hl (k := 2) rfl (inc_1 _) (by decide) rfl (fun ls hl => ?_)
          refine lv_goto (tgt := 4) hx hb dX11_dueOnes_41 (by decide) ?_
          exact ih4 (i + 1) _ _ _ (by omega) (by omega) h (lv_sub hl [2, 1, 0] rfl)
        ·
          refine lv_iconst (v := nI 1) hx hb dX11_dueOnes_29 (by decide) ?_
          refine lv_iload_n hx hb dX11_dueOnes_30 rfl (lv_at hl 2 rfl) ?_
          refine lv_ishl hx hb dX11_dueOnes_31 ?_
          refine tN (sh1 _ (by omega)) ?_
          refine lv_goto (tgt := 36) hx hb dX11_dueOnes_32 (by decide) ?_
          refine lv_ior hx hb dX11_dueOnes_36 ?_
          refine tN (t := setN (fun p => decide (its f p 1 = due f p)) (i + 1)) (by rw [or_nI]; exact nI_cong (by simp [setN, c26])) ?_
          refine lv_istore_n hx hb dX11_dueOnes_37 rfl hl (by decide) rfl (fun ls hl => ?_)
          refine lv_iinc hx hb dX11_dueOnes_38 hl (k := 2) rfl (inc_1 _) (by decide) rfl (fun ls hl => ?_)
          refine lv_goto (tgt := 4) hx hb dX11_dueOnes_41 (by decide) ?_
          exact ih4 (i + 1) _ _ _ (by omega) (by omega) h (lv_sub hl [2, 1, 0] rfl)
  refine lv_iconst (v := nI 0) hx hb dX11_dueOnes_0 (by decide) ?_
  refine lv_istore_n hx hb dX11_dueOnes_1 rfl hl (by decide) rfl (fun ls hl => ?_)
  refine lv_iconst (v := nI 0) hx hb dX11_dueOnes_2 (by decide) ?_
  refine lv_istore_n hx hb dX11_dueOnes_3 rfl hl (by decide) rfl (fun ls hl => ?_)
  exact lp4 _ 0 _ _ _ (Nat.zero_le _) (Nat.lt_succ_self _) h (lv_sub hl [2, 1, 0] rfl)
set_option maxHeartbeats 4000000 in
set_option maxRecDepth 100000 in
theorem c_X11_whoAt {y : Nat} (hI : Inv f) (hy : y < 2147483648) : Ki G l yX11_whoAt cX11_whoAt 4 (some .int) (RM 3 43) [.ref (a 0), .int (nI y)] (wM G a f g o d st du tb bi si nu mo kp it tn fr to vl wr) (fun u : Unit => wM G a f g o d st du tb bi si nu mo kp it tn fr to vl wr) (fun r _ => r = nI (whoAt f y)) := by
  refine Ki.of (by decide) (Nat.le_of_ble_eq_true rfl) ?_
  intro p e s m args below meth c A Q ls hx hb S0 hG hA h hret hl
  have S0 : CF p m c cX11_whoAt 4 s args RX11 := S0
  have hl : lv_has ls 4 [(0, .ref (a 0)), (1, .int (nI y))] := hl
  have h1 := hI.2.1
  have lp4 : ∀ (kf : Nat) (i : Nat) (H : Heap) (locs : List Loc) (ls : Array Slot) (hi : i ≤ f 1), f 1 - i < kf → WX G A s H locs (wM G a f g o d st du tb bi si nu mo kp it tn fr to vl wr) → lv_has ls 4 [(0, .ref (a 0)), (1, .int (nI y)), (2, .int (nI (setN (fun p => decide (its f p 1 = y)) i))), (3, .int (nI i))] → W p l e (RM 3 43) s m args below meth c H locs 0 0 Q (F0 m 4 ls []) := by
    intro kf
    induction kf with
    | zero => intro i H locs ls hi hm; exact absurd hm (Nat.not_lt_zero _)
    | succ kf ih4 =>
      intro i H locs ls hi hm h hl
      refine lv_iload_n hx hb dX11_whoAt_4 rfl (lv_at hl 3 rfl) ?_
      refine lv_aload_n hx hb dX11_whoAt_5 rfl (lv_at hl 0 rfl) ?_
      refine gM_s S0 hG h dX11_whoAt_6 ?_
      refine lv_iconst (v := nI 1) hx hb dX11_whoAt_9 (by decide) ?_
      refine rM_s S0 hG h (by omega) dX11_whoAt_10 ?_
      refine n_cge hx hb (by omega) (by omega) (tgt := 40) dX11_whoAt_11 (by decide) (fun c11 => ?_) (fun c11 => ?_)
      ·
        have e9 : i = f 1 := by omega
        subst e9
        refine lv_iload_n hx hb dX11_whoAt_40 rfl (lv_at hl 2 rfl) ?_
        exact hret _ () _ _ _ _ rfl h dX11_whoAt_41
      ·
        refine lv_iload_n hx hb dX11_whoAt_14 rfl (lv_at hl 2 rfl) ?_
        refine lv_aload_n hx hb dX11_whoAt_15 rfl (lv_at hl 0 rfl) ?_
        refine lv_iload_n hx hb dX11_whoAt_16 rfl (lv_at hl 3 rfl) ?_
        refine lv_iconst (v := nI 1) hx hb dX11_whoAt_17 (by decide) ?_
        refine cV_i0 S0 hG hA h hl.1 kw_RX11_59 kdV_X11_its (c_X11_its (by omega) (by omega)) ⟨rfl, rfl, by decide, by decide, Nat.le_refl _, Nat.le_refl _⟩ rfl 11 0 rfl rfl rfl (Nat.le_of_ble_eq_true rfl) dX11_whoAt_18 (fun _ => rfl) (fun r u H locs hq h => ?_)
        obtain rfl := hq
        refine lv_iload_n hx hb dX11_whoAt_21 rfl (lv_at hl 1 rfl) ?_
        have h5 := hI.2.2.2.2 i (by omega)
        refine n_cne hx hb (by omega) (by omega) (tgt := 31) dX11_whoAt_22 (by decide) (fun c22 => ?_) (fun c22 => ?_)
        ·
          refine lv_iconst (v := nI 0) hx hb dX11_whoAt_31 (by decide) ?_
          refine lv_ior hx hb dX11_whoAt_32 ?_
          refine tN (t := setN (fun p => decide (its f p 1 = y)) (i + 1)) (by rw [or_nI]; exact nI_cong (by simp [setN, c22])) ?_
          refine lv_istore_n hx hb dX11_whoAt_33 rfl hl (by decide) rfl (fun ls hl => ?_)
          refine lv_iinc hx hb dX11_whoAt_34 hl (k := 3) rfl (inc_1 _) (by decide) rfl (fun ls hl => ?_)
          refine lv_goto (tgt := 4) hx hb dX11_whoAt_37 (by decide) ?_
          exact ih4 (i + 1) _ _ _ (by omega) (by omega) h (lv_sub hl [2, 3, 1, 0] rfl)
        ·
          refine lv_iconst (v := nI 1) hx hb dX11_whoAt_25 (by decide) ?_
          refine lv_iload_n hx hb dX11_whoAt_26 rfl (lv_at hl 3 rfl) ?_
          refine lv_ishl hx hb dX11_whoAt_27 ?_
          refine tN (sh1 _ (by omega)) ?_
          refine lv_goto (tgt := 32) hx hb dX11_whoAt_28 (by decide) ?_
          refine lv_ior hx hb dX11_whoAt_32 ?_
          refine tN (t := setN (fun p => decide (its f p 1 = y)) (i + 1)) (by rw [or_nI]; exact nI_cong (by simp [setN, c22])) ?_
          refine lv_istore_n hx hb dX11_whoAt_33 rfl hl (by decide) rfl (fun ls hl => ?_)
          refine lv_iinc hx hb dX11_whoAt_34 hl (k := 3) rfl (inc_1 _) (by decide) rfl (fun ls hl => ?_)
          refine lv_goto (tgt := 4) hx hb dX11_whoAt_37 (by decide) ?_
          exact ih4 (i + 1) _ _ _ (by omega) (by omega) h (lv_sub hl [2, 3, 1, 0] rfl)
  refine lv_iconst (v := nI 0) hx hb dX11_whoAt_0 (by decide) ?_
  refine lv_istore_n hx hb dX11_whoAt_1 rfl hl (by decide) rfl (fun ls hl => ?_)
  refine lv_iconst (v := nI 0) hx hb dX11_whoAt_2 (by decide) ?_
  refine lv_istore_n hx hb dX11_whoAt_3 rfl hl (by decide) rfl (fun ls hl => ?_)
  exact lp4 _ 0 _ _ _ (Nat.zero_le _) (Nat.lt_succ_self _) h (lv_sub hl [2, 3, 1, 0] rfl)
