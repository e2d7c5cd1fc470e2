/-! the foyer -/
theorem setN_ne0 (c : Nat → Bool) : ∀ n, setN c n ≠ 0 ↔ ∃ o, o < n ∧ c o = true
  | 0 => ⟨fun h => absurd rfl h, fun ⟨o, h, _⟩ => absurd h (Nat.not_lt_zero _)⟩
  | n + 1 => by
    have ih := setN_ne0 c n
    show (if c n = true then setN c n ||| 2 ^ n else setN c n) ≠ 0 ↔ _
    by_cases h : c n = true
    · rw [if_pos h]
      refine ⟨fun _ => ⟨n, Nat.lt_succ_self n, h⟩, fun _ e => ?_⟩
      have h1 : 2 ^ n ≤ setN c n ||| 2 ^ n := Nat.right_le_or
      have h2 : 0 < 2 ^ n := Nat.two_pow_pos n
      omega
    · rw [if_neg h, ih]
      exact ⟨fun ⟨o, h1, h2⟩ => ⟨o, by omega, h2⟩, fun ⟨o, h1, h2⟩ => ⟨o, by rcases Nat.lt_or_ge o n with q | q; exact q; exact absurd (by rw [show n = o by omega]; exact h2) h, h2⟩⟩
def nxC (f : Nat → Nat) (x d : Nat) : Nat := if its f x 1 < d then its f x 1 + 1 else its f x 1 - 1
theorem bar_iff {f : Nat → Nat} {x : Nat} (hne : its f x 1 ≠ due f x) : bar f x = true ↔ ∃ o, o < f 1 ∧ o ≠ x ∧ its f o 1 = nxC f x (due f x) := by
  have e : nxt f x = nxC f x (due f x) := by unfold nxt nxC; repeat' split
                                             all_goals omega
  have e2 : nxC f x (due f x) ≠ its f x 1 := by unfold nxC; split <;> omega
  unfold bar whoAt
  rw [Bool.and_eq_true, decide_eq_true_iff, decide_eq_true_iff, setN_ne0, e]
  constructor
  · rintro ⟨-, o, h1, h2⟩
    have h3 := of_decide_eq_true h2
    exact ⟨o, h1, fun q => e2 (by rw [← h3, q]), h3⟩
  · rintro ⟨o, h1, h2, h3⟩
    exact ⟨hne, o, h1, decide_eq_true h3⟩
theorem bar_no {f : Nat → Nat} {x : Nat} (h : its f x 1 = due f x) : bar f x = false := by unfold bar; simp [h]
theorem qtr_c {f g : Nat → Nat} (h : g 0 = f 0) : qtr g = qtr f := by unfold qtr; rw [h]
theorem walkN_qtr (f : Nat → Nat) (n : Nat) : qtr (walkN f n) = qtr f := qtr_c (walkN_lo f (by omega) n)
theorem walkN_sc (f : Nat → Nat) (n : Nat) : sc (walkN f n) (qtr (walkN f n)) = sc f (qtr f) := by
  rw [walkN_qtr]; unfold sc; exact walkN_lo f (by have := qtr_lt f; omega) n
theorem ringN_c {f g : Nat → Nat} (h : ∀ k, k < 11 → g k = f k) : ∀ n, n ≤ 3 → ringN g n = ringN f n
  | 0, _ => rfl
  | n + 1, hn => by
    show (if g 0 % 48 = be g n then nI n else ringN g n) = (if f 0 % 48 = be f n then nI n else ringN f n)
    rw [ringN_c h n (by omega), h 0 (by omega)]
    unfold be
    rw [h (8 + n) (by omega)]
theorem walkN_ring (f : Nat → Nat) (n : Nat) : ring (walkN f n) = ring f := ringN_c (fun k hk => walkN_lo f hk n) 3 (Nat.le_refl _)
theorem markN_cong {f d d2 : Nat → Nat} : ∀ {n : Nat}, (∀ p, p < n → d p = d2 p) → markN f d n = markN f d2 n
  | 0, _ => rfl
  | n + 1, h => by
    show mark1 (markN f d n) d n = mark1 (markN f d2 n) d2 n
    rw [markN_cong (fun p hp => h p (by omega))]
    unfold mark1
    rw [h n (by omega)]
theorem setN_cong {c c2 : Nat → Bool} : ∀ {n : Nat}, (∀ p, p < n → c p = c2 p) → setN c n = setN c2 n
  | 0, _ => rfl
  | n + 1, h => by
    show (if c n = true then setN c n ||| 2 ^ n else setN c n) = (if c2 n = true then setN c2 n ||| 2 ^ n else setN c2 n)
    rw [setN_cong (fun p hp => h p (by omega)), h n (by omega)]
theorem min_nI {v : Nat} (hv : v < 2147483648) : (if nI v < nI 9999 then nI v else nI 9999) = nI (min 9999 v) := by
  by_cases h : v < 9999
  · rw [if_pos ((nI_ltI hv (by omega)).mpr h)]; exact nI_cong (by omega)
  · rw [if_neg (fun q => h ((nI_ltI hv (by omega)).mp q))]; exact nI_cong (by omega)
set_option maxRecDepth 100000 in
theorem go_nI : ∀ x, x < 12 → ∀ y, y < 12 → ∀ z, z < 9 → ((nI y - nI x) ≤ 0 → nI x + -(if (if 0 ≤ (nI y - nI x) then (nI y - nI x) else 0 - (nI y - nI x)) < nI z then (if 0 ≤ (nI y - nI x) then (nI y - nI x) else 0 - (nI y - nI x)) else nI z) = nI (if x < y then x + min z (y - x) else x - min z (x - y))) ∧ (¬ (nI y - nI x) ≤ 0 → nI x + (if (if 0 ≤ (nI y - nI x) then (nI y - nI x) else 0 - (nI y - nI x)) < nI z then (if 0 ≤ (nI y - nI x) then (nI y - nI x) else 0 - (nI y - nI x)) else nI z) = nI (if x < y then x + min z (y - x) else x - min z (x - y))) := by decide +kernel
theorem adm_c (f : Nat → Nat) (k w q : Nat) : va_up (va_up (va_up (va_up (va_up (va_up f (11 + 5 * f 1 + 0) k) (11 + 5 * f 1 + 1) w) (11 + 5 * f 1 + 2) q) (11 + 5 * f 1 + 3) 0) (11 + 5 * f 1 + 4) 0) 1 (f 1 + 1) = adm f k w q := funext fun i => by
  unfold adm va_up
  by_cases h : i = 1
  · subst h
    simp
    repeat' split
    all_goals omega
  · simp [h]
theorem ring_cases (f : Nat → Nat) : ring f = -1 ∨ ∃ z : Nat, z < 3 ∧ ring f = nI z := by
  unfold ring
  show (if f 0 % 48 = be f 2 then nI 2 else if f 0 % 48 = be f 1 then nI 1 else if f 0 % 48 = be f 0 then nI 0 else -1) = -1 ∨ ∃ z : Nat, z < 3 ∧ (if f 0 % 48 = be f 2 then nI 2 else if f 0 % 48 = be f 1 then nI 1 else if f 0 % 48 = be f 0 then nI 0 else -1) = nI z
  repeat' split
  · exact Or.inr ⟨2, by decide, rfl⟩
  · exact Or.inr ⟨1, by decide, rfl⟩
  · exact Or.inr ⟨0, by decide, rfl⟩
  · exact Or.inl rfl
theorem ring_lt {f : Nat → Nat} : ring f < 0 ↔ ring f = -1 := by
  rcases ring_cases f with h | ⟨z, h1, h⟩
  · rw [h]; decide
  · rw [h]; exact ⟨fun q => absurd q (nI_pos (by omega)), fun q => absurd q (nI_nem1 (by omega))⟩
variable {G : GT} {l : Launch} {a : Nat → Nat} {f : Nat → Nat} {q sp : Nat} {rg : Int32} {wd : Nat → Nat} {it : Nat}
set_option maxHeartbeats 4000000 in
set_option maxRecDepth 100000 in
theorem c_X0_numbered {k : Nat} (hk : k ≤ 5) : Kr G l yX0_numbered cX0_numbered 2 (some (.object "ComposedInterval$Guest")) (RM 1 0) [.ref (a 9), .int (nI k)] (wF G a f q sp rg wd it) (fun u : Unit => wF G a f q sp rg wd it) (fun _ => a (10 + k)) (fun _ => True) := by
  refine Kr.of (by decide) (Nat.le_of_ble_eq_true rfl) ?_
  intro p e s m args below meth c A Q ls hx hb S0 hG hA h hret hl
  have S0 : CF p m c cX0_numbered 2 s args RX0 := S0
  have hl : lv_has ls 2 [(0, .ref (a 9)), (1, .int (nI k))] := hl
  refine lv_iload_n hx hb dX0_numbered_0 rfl (lv_at hl 1 rfl) ?_
  rcases (show k = 1 ∨ k = 2 ∨ k = 3 ∨ k = 4 ∨ k = 5 ∨ (k ≠ 1 ∧ k ≠ 2 ∧ k ≠ 3 ∧ k ≠ 4 ∧ k ≠ 5) by omega) with e1 | e1 | e1 | e1 | e1 | e1
  ·
    refine n_swIn hx hb e1 (by decide) (off := 35) (tgt := 36) dX0_numbered_1 (by decide) (by decide) rfl (by decide) ?_
    refine lv_aload_n hx hb dX0_numbered_36 rfl (lv_at hl 0 rfl) ?_
    refine gF_RX0_enemy S0 hG h dX0_numbered_37 ?_
    subst e1
    exact hret () _ _ _ _ trivial h dX0_numbered_40
  ·
    refine n_swIn hx hb e1 (by decide) (off := 40) (tgt := 41) dX0_numbered_1 (by decide) (by decide) rfl (by decide) ?_
    refine lv_aload_n hx hb dX0_numbered_41 rfl (lv_at hl 0 rfl) ?_
    refine gF_RX0_singer S0 hG h dX0_numbered_42 ?_
    subst e1
    exact hret () _ _ _ _ trivial h dX0_numbered_45
  ·
    refine n_swIn hx hb e1 (by decide) (off := 45) (tgt := 46) dX0_numbered_1 (by decide) (by decide) rfl (by decide) ?_
    refine lv_aload_n hx hb dX0_numbered_46 rfl (lv_at hl 0 rfl) ?_
    refine gF_RX0_late S0 hG h dX0_numbered_47 ?_
    subst e1
    exact hret () _ _ _ _ trivial h dX0_numbered_50
  ·
    refine n_swIn hx hb e1 (by decide) (off := 50) (tgt := 51) dX0_numbered_1 (by decide) (by decide) rfl (by decide) ?_
    refine lv_aload_n hx hb dX0_numbered_51 rfl (lv_at hl 0 rfl) ?_
    refine gF_RX0_diva S0 hG h dX0_numbered_52 ?_
    subst e1
    exact hret () _ _ _ _ trivial h dX0_numbered_55
  ·
    refine n_swIn hx hb e1 (by decide) (off := 55) (tgt := 56) dX0_numbered_1 (by decide) (by decide) rfl (by decide) ?_
    refine lv_aload_n hx hb dX0_numbered_56 rfl (lv_at hl 0 rfl) ?_
    refine gF_RX0_rival S0 hG h dX0_numbered_57 ?_
    subst e1
    exact hret () _ _ _ _ trivial h dX0_numbered_60
  ·
    refine n_swOut hx hb (by omega) (tgt := 61) dX0_numbered_1 (by omega) (by decide) ?_
    refine lv_aload_n hx hb dX0_numbered_61 rfl (lv_at hl 0 rfl) ?_
    refine gF_RX0_guest S0 hG h dX0_numbered_62 ?_
    have e9 : k = 0 := by omega
    subst e9
    exact hret () _ _ _ _ trivial h dX0_numbered_65
theorem kdS_X0_numbered : yX0_numbered.cls ≠ "java/lang/invoke/MethodHandle" ∧ yX0_numbered.cls ≠ "java/lang/invoke/VarHandle" ∧ (parseMethodDescriptor yX0_numbered.desc).map (fun d => d.parameters.length) = some 1 := ⟨by decide +kernel, by decide +kernel, by decide +kernel⟩
set_option maxHeartbeats 4000000 in
set_option maxRecDepth 100000 in
theorem c_X3_guest {x : Nat} (hx1 : x < 8) (hI : Inv f) : Kr G l yX3_guest cX3_guest 2 (some (.object "ComposedInterval$Guest")) (RM 2 21) [.ref (a 0), .int (nI x)] (wF G a f q sp rg wd it) (fun u : Unit => wF G a f q sp rg wd it) (fun _ => a (10 + its f x 0)) (fun _ => True) := by
  refine Kr.of (by decide) (Nat.le_of_ble_eq_true rfl) ?_
  intro p e s m args below meth c A Q ls hx hb S0 hG hA h hret hl
  have S0 : CF p m c cX3_guest 2 s args RX3 := S0
  have hl : lv_has ls 2 [(0, .ref (a 0)), (1, .int (nI x))] := hl
  have h5 := hI.2.2.2.2 x hx1
  refine lv_aload_n hx hb dX3_guest_0 rfl (lv_at hl 0 rfl) ?_
  refine gF_RX3_cast S0 hG h dX3_guest_1 ?_
  refine lv_aload_n hx hb dX3_guest_4 rfl (lv_at hl 0 rfl) ?_
  refine gF_RX3_kind S0 hG h dX3_guest_5 ?_
  refine lv_iload_n hx hb dX3_guest_8 rfl (lv_at hl 1 rfl) ?_
  refine rF_kind S0 hG h (by omega) dX3_guest_9 ?_
  refine cN_r0 S0 hG hA h hl.1 (ws_ok (rin9 _ (List.mem_of_getElem? (i := 3) rfl))) (rin2 _ (List.mem_of_getElem? (i := 0) rfl)) (rin9 _ (List.mem_of_getElem? (i := 1) rfl)) (rin9 _ (List.mem_of_getElem? (i := 2) rfl)) (host := "ComposedInterval") (List.mem_of_getElem? (i := 46) rfl) kdS_X0_numbered (c_X0_numbered (by omega)) ⟨rfl, rfl, by decide, by decide, Nat.le_refl _, Nat.le_refl _⟩ rfl 0 9 rfl rfl rfl (Nat.le_of_ble_eq_true rfl) dX3_guest_10 (fun _ => rfl) (fun u H locs hq h => ?_)
  exact hret () _ _ _ _ trivial h dX3_guest_13
set_option maxHeartbeats 4000000 in
set_option maxRecDepth 100000 in
theorem c_X3_look (hI : Inv f) : Kv G l yX3_look cX3_look 3 none (RM 1 0) [.ref (a 0)] (wF G a f q sp rg wd it) (fun u : Unit => wF G a f (qtr f) (sc f (qtr f)) (ring f) wd it) (fun _ => True) := by
  refine Kv.of (by decide) (Nat.le_of_ble_eq_true rfl) ?_
  intro p e s m args below meth c A Q ls hx hb S0 hG hA h hret hl
  have S0 : CF p m c cX3_look 3 s args RX3 := S0
  have hl : lv_has ls 3 [(0, .ref (a 0))] := hl
  have h0 := hI.1
  have hB := hI.2.2.2.1
  have hq6 := qtr_lt f
  have lp42 : ∀ (kf : Nat) (i : Nat) (H : Heap) (locs : List Loc) (ls : Array Slot) (hi : i ≤ 3), 3 - i < kf → WX G A s H locs (wF G a f (qtr f) (sc f (qtr f)) (ringN f i) wd it) → lv_has ls 3 [(0, .ref (a 0)), (1, .int (nI (f 0 % 48))), (2, .int (nI i))] → W p l e (RM 1 0) s m args below meth c H locs 0 0 Q (F0 m 42 ls []) := by
    intro kf
    induction kf with
    | zero => intro i H locs ls hi hm; exact absurd hm (Nat.not_lt_zero _)
    | succ kf ih42 =>
      intro i H locs ls hi hm h hl
      refine lv_iload_n hx hb dX3_look_42 rfl (lv_at hl 2 rfl) ?_
      refine lv_iconst (v := nI 3) hx hb dX3_look_43 (by decide) ?_
      refine n_cge hx hb (by omega) (by omega) (tgt := 68) dX3_look_44 (by decide) (fun c44 => ?_) (fun c44 => ?_)
      ·
        have e9 : i = 3 := by omega
        subst e9
        exact hret () _ _ _ _ trivial h dX3_look_68
      ·
        refine lv_aload_n hx hb dX3_look_47 rfl (lv_at hl 0 rfl) ?_
        refine gF_RX3_bells S0 hG h dX3_look_48 ?_
        refine lv_iload_n hx hb dX3_look_51 rfl (lv_at hl 2 rfl) ?_
        refine rF_bells S0 hG h (by omega) dX3_look_52 ?_
        refine lv_iload_n hx hb dX3_look_53 rfl (lv_at hl 1 rfl) ?_
        have hb2 := hB i (by omega)
        have hm2 := Nat.mod_lt (f 0) (show 0 < 48 by omega)
        refine n_cne hx hb (by omega) (by omega) (tgt := 62) dX3_look_54 (by decide) (fun c54 => ?_) (fun c54 => ?_)
        ·
          have r9 : ringN f i = ringN f (i + 1) := by show _ = (if f 0 % 48 = be f i then nI i else ringN f i); rw [if_neg (fun z => c54 z.symm)]
          refine lv_iinc hx hb dX3_look_62 hl (k := 2) rfl (inc_1 _) (by decide) rfl (fun ls hl => ?_)
          refine lv_goto (tgt := 42) hx hb dX3_look_65 (by decide) ?_
          exact ih42 (i + 1) _ _ _ (by omega) (by omega) (h.eq (by rw [r9])) (lv_sub hl [1, 2, 0] rfl)
        ·
          have r9 : nI i = ringN f (i + 1) := by show _ = (if f 0 % 48 = be f i then nI i else ringN f i); rw [if_pos c54.symm]
          refine lv_aload_n hx hb dX3_look_57 rfl (lv_at hl 0 rfl) ?_
          refine lv_iload_n hx hb dX3_look_58 rfl (lv_at hl 2 rfl) ?_
          refine pF_RX3_ringing S0 hG h dX3_look_59 (fun H locs h => ?_)
          refine lv_iinc hx hb dX3_look_62 hl (k := 2) rfl (inc_1 _) (by decide) rfl (fun ls hl => ?_)
          refine lv_goto (tgt := 42) hx hb dX3_look_65 (by decide) ?_
          exact ih42 (i + 1) _ _ _ (by omega) (by omega) (h.eq (by rw [r9])) (lv_sub hl [1, 2, 0] rfl)
  refine lv_aload_n hx hb dX3_look_0 rfl (lv_at hl 0 rfl) ?_
  refine lv_aload_n hx hb dX3_look_1 rfl (lv_at hl 0 rfl) ?_
  refine gF_RX3_minute S0 hG h dX3_look_2 ?_
  refine lv_bipush (v := nI 8) hx hb dX3_look_5 (by decide) ?_
  refine n_div hx hb (by omega) (by decide) (by decide) dX3_look_7 ?_
  refine lv_bipush (v := nI 6) hx hb dX3_look_8 (by decide) ?_
  refine n_rem hx hb (by omega) (by decide) (by decide) dX3_look_10 ?_
  refine pF_RX3_quarter S0 hG h dX3_look_11 (fun H locs h => ?_)
  refine lv_aload_n hx hb dX3_look_14 rfl (lv_at hl 0 rfl) ?_
  refine lv_aload_n hx hb dX3_look_15 rfl (lv_at hl 0 rfl) ?_
  refine gF_RX3_score S0 hG h dX3_look_16 ?_
  refine lv_aload_n hx hb dX3_look_19 rfl (lv_at hl 0 rfl) ?_
  refine gF_RX3_quarter S0 hG h dX3_look_20 ?_
  refine rF_score S0 hG h hq6 dX3_look_23 ?_
  refine pF_RX3_spot S0 hG h dX3_look_24 (fun H locs h => ?_)
  refine lv_aload_n hx hb dX3_look_27 rfl (lv_at hl 0 rfl) ?_
  refine lv_iconst (v := -1) hx hb dX3_look_28 (by decide) ?_
  refine pF_RX3_ringing S0 hG h dX3_look_29 (fun H locs h => ?_)
  refine lv_aload_n hx hb dX3_look_32 rfl (lv_at hl 0 rfl) ?_
  refine gF_RX3_minute S0 hG h dX3_look_33 ?_
  refine lv_bipush (v := nI 48) hx hb dX3_look_36 (by decide) ?_
  refine n_rem hx hb (by omega) (by decide) (by decide) dX3_look_38 ?_
  refine lv_istore_n hx hb dX3_look_39 rfl hl (by decide) rfl (fun ls hl => ?_)
  refine lv_iconst (v := nI 0) hx hb dX3_look_40 (by decide) ?_
  refine lv_istore_n hx hb dX3_look_41 rfl hl (by decide) rfl (fun ls hl => ?_)
  exact lp42 _ 0 _ _ _ (by omega) (Nat.lt_succ_self _) h (lv_sub hl [2, 1, 0] rfl)
set_option maxHeartbeats 4000000 in
set_option maxRecDepth 100000 in
theorem c_X3_isBarred {x : Nat} (hx1 : x < 8) {y : Nat} (hI : Inv f) (hy : y = due f x) : Ki G l yX3_isBarred cX3_isBarred 5 (some .boolean) (RM 1 0) [.ref (a 0), .int (nI x), .int (nI y)] (wF G a f q sp rg wd it) (fun u : Unit => wF G a f q sp rg wd it) (fun r _ => (r = nI 1 ∧ bar f x = true) ∨ (r = nI 0 ∧ bar f x = false)) := by
  refine Ki.ofz (by decide) (Nat.le_of_ble_eq_true rfl) ?_
  intro p e s m args below meth c A Q ls hx hb S0 hG hA h hret hl
  have S0 : CF p m c cX3_isBarred 5 s args RX3 := S0
  have hl : lv_has ls 5 [(0, .ref (a 0)), (1, .int (nI x)), (2, .int (nI y))] := hl
  have h1 := hI.2.1
  have h5 := hI.2.2.2.2 x hx1
  have h6 := due_le hI x
  subst hy
  refine lv_aload_n hx hb dX3_isBarred_0 rfl (lv_at hl 0 rfl) ?_
  refine gF_RX3_at S0 hG h dX3_isBarred_1 ?_
  refine lv_iload_n hx hb dX3_isBarred_4 rfl (lv_at hl 1 rfl) ?_
  refine rF_at S0 hG h (by omega) dX3_isBarred_5 ?_
  refine lv_iload_n hx hb dX3_isBarred_6 rfl (lv_at hl 2 rfl) ?_
  refine n_cne hx hb (by omega) (by omega) (tgt := 12) dX3_isBarred_7 (by decide) (fun c7 => ?_) (fun c7 => ?_)
  ·
    refine lv_aload_n hx hb dX3_isBarred_12 rfl (lv_at hl 0 rfl) ?_
    refine gF_RX3_at S0 hG h dX3_isBarred_13 ?_
    refine lv_iload_n hx hb dX3_isBarred_16 rfl (lv_at hl 1 rfl) ?_
    refine rF_at S0 hG h (by omega) dX3_isBarred_17 ?_
    refine lv_iload_n hx hb dX3_isBarred_18 rfl (lv_at hl 2 rfl) ?_
    refine n_cge hx hb (by omega) (by omega) (tgt := 33) dX3_isBarred_19 (by decide) (fun c19 => ?_) (fun c19 => ?_)
    ·
      refine lv_aload_n hx hb dX3_isBarred_33 rfl (lv_at hl 0 rfl) ?_
      refine gF_RX3_at S0 hG h dX3_isBarred_34 ?_
      refine lv_iload_n hx hb dX3_isBarred_37 rfl (lv_at hl 1 rfl) ?_
      refine rF_at S0 hG h (by omega) dX3_isBarred_38 ?_
      refine lv_iconst (v := nI 1) hx hb dX3_isBarred_39 (by decide) ?_
      refine n_sub hx hb (by omega) dX3_isBarred_40 ?_
      refine tN (t := nxC f x (due f x)) (nI_cong (by unfold nxC; rw [if_neg (by omega)])) ?_
      refine lv_istore_n hx hb dX3_isBarred_41 rfl hl (by decide) rfl (fun ls hl => ?_)
      refine lv_iconst (v := nI 0) hx hb dX3_isBarred_42 (by decide) ?_
      refine lv_istore hx hb dX3_isBarred_43 hl (by decide) rfl (fun ls hl => ?_)
      have lp45 : ∀ (kf : Nat) (i : Nat) (H : Heap) (locs : List Loc) (ls : Array Slot) (hi : i ≤ f 1) (hn : ∀ o, o < i → ¬ (o ≠ x ∧ its f o 1 = nxC f x (due f x))), f 1 - i < kf → WX G A s H locs (wF G a f q sp rg wd it) → lv_has ls 5 [(0, .ref (a 0)), (1, .int (nI x)), (2, .int (nI (due f x))), (3, .int (nI (nxC f x (due f x)))), (4, .int (nI i))] → W p l e (RM 1 0) s m args below meth c H locs 0 0 Q (F0 m 45 ls []) := by
        intro kf
        induction kf with
        | zero => intro i H locs ls hi hn hm; exact absurd hm (Nat.not_lt_zero _)
        | succ kf ih45 =>
          intro i H locs ls hi hn hm h hl
          refine lv_iload hx hb dX3_isBarred_45 (lv_at hl 4 rfl) ?_
          refine lv_aload_n hx hb dX3_isBarred_47 rfl (lv_at hl 0 rfl) ?_
          refine gF_RX3_people S0 hG h dX3_isBarred_48 ?_
          refine n_cge hx hb (by omega) (by omega) (tgt := 79) dX3_isBarred_51 (by decide) (fun c51 => ?_) (fun c51 => ?_)
          ·
            refine lv_iconst (v := nI 0) hx hb dX3_isBarred_79 (by decide) ?_
            exact hret _ () _ _ _ _ (by decide) (Or.inr ⟨rfl, Bool.eq_false_iff.mpr (fun z => by obtain ⟨o, z1, z2⟩ := (bar_iff c7).mp z; exact hn o (by omega) z2)⟩) h dX3_isBarred_80
          ·
            refine lv_iload hx hb dX3_isBarred_54 (lv_at hl 4 rfl) ?_
            refine lv_iload_n hx hb dX3_isBarred_56 rfl (lv_at hl 1 rfl) ?_
            refine n_ceq hx hb (by omega) (by omega) (tgt := 73) dX3_isBarred_57 (by decide) (fun c57 => ?_) (fun c57 => ?_)
            ·
              refine lv_iinc hx hb dX3_isBarred_73 hl (k := 4) rfl (inc_1 _) (by decide) rfl (fun ls hl => ?_)
              refine lv_goto (tgt := 45) hx hb dX3_isBarred_76 (by decide) ?_
              exact ih45 (i + 1) _ _ _ (by omega) (lt_s hn (fun z => z.1 c57)) (by omega) h (lv_sub hl [1, 2, 3, 4, 0] rfl)
            ·
              refine lv_aload_n hx hb dX3_isBarred_60 rfl (lv_at hl 0 rfl) ?_
              refine gF_RX3_at S0 hG h dX3_isBarred_61 ?_
              refine lv_iload hx hb dX3_isBarred_64 (lv_at hl 4 rfl) ?_
              refine rF_at S0 hG h (by omega) dX3_isBarred_66 ?_
              refine lv_iload_n hx hb dX3_isBarred_67 rfl (lv_at hl 3 rfl) ?_
              have h7 := hI.2.2.2.2 i (by omega)
              have h8 : nxC f x (due f x) ≤ 12 := by unfold nxC; split <;> omega
              refine n_cne hx hb (by omega) (by omega) (tgt := 73) dX3_isBarred_68 (by decide) (fun c68 => ?_) (fun c68 => ?_)
              ·
                refine lv_iinc hx hb dX3_isBarred_73 hl (k := 4) rfl (inc_1 _) (by decide) rfl (fun ls hl => ?_)
                refine lv_goto (tgt := 45) hx hb dX3_isBarred_76 (by decide) ?_
                exact ih45 (i + 1) _ _ _ (by omega) (lt_s hn (fun z => c68 z.2)) (by omega) h (lv_sub hl [1, 2, 3, 4, 0] rfl)
              ·
                refine lv_iconst (v := nI 1) hx hb dX3_isBarred_71 (by decide) ?_
                exact hret _ () _ _ _ _ (by decide) (Or.inl ⟨rfl, (bar_iff c7).mpr ⟨i, by omega, c57, c68⟩⟩) h dX3_isBarred_72
      exact lp45 _ 0 _ _ _ (Nat.zero_le _) (fun o z => absurd z (Nat.not_lt_zero _)) (Nat.lt_succ_self _) h (lv_sub hl [2, 3, 4, 1, 0] rfl)
    ·
      refine lv_aload_n hx hb dX3_isBarred_22 rfl (lv_at hl 0 rfl) ?_
      refine gF_RX3_at S0 hG h dX3_isBarred_23 ?_
      refine lv_iload_n hx hb dX3_isBarred_26 rfl (lv_at hl 1 rfl) ?_
      refine rF_at S0 hG h (by omega) dX3_isBarred_27 ?_
      refine lv_iconst (v := nI 1) hx hb dX3_isBarred_28 (by decide) ?_
      refine n_add hx hb dX3_isBarred_29 ?_
      refine tN (t := nxC f x (due f x)) (nI_cong (by unfold nxC; rw [if_pos c19])) ?_
      refine lv_goto (tgt := 41) hx hb dX3_isBarred_30 (by decide) ?_
      refine lv_istore_n hx hb dX3_isBarred_41 rfl hl (by decide) rfl (fun ls hl => ?_)
      refine lv_iconst (v := nI 0) hx hb dX3_isBarred_42 (by decide) ?_
      refine lv_istore hx hb dX3_isBarred_43 hl (by decide) rfl (fun ls hl => ?_)
      have lp45 : ∀ (kf : Nat) (i : Nat) (H : Heap) (locs : List Loc) (ls : Array Slot) (hi : i ≤ f 1) (hn : ∀ o, o < i → ¬ (o ≠ x ∧ its f o 1 = nxC f x (due f x))), f 1 - i < kf → WX G A s H locs (wF G a f q sp rg wd it) → lv_has ls 5 [(0, .ref (a 0)), (1, .int (nI x)), (2, .int (nI (due f x))), (3, .int (nI (nxC f x (due f x)))), (4, .int (nI i))] → W p l e (RM 1 0) s m args below meth c H locs 0 0 Q (F0 m 45 ls []) := by
        intro kf
        induction kf with
        | zero => intro i H locs ls hi hn hm; exact absurd hm (Nat.not_lt_zero _)
        | succ kf ih45 =>
          intro i H locs ls hi hn hm h hl
          refine lv_iload hx hb dX3_isBarred_45 (lv_at hl 4 rfl) ?_
          refine lv_aload_n hx hb dX3_isBarred_47 rfl (lv_at hl 0 rfl) ?_
          refine gF_RX3_people S0 hG h dX3_isBarred_48 ?_
          refine n_cge hx hb (by omega) (by omega) (tgt := 79) dX3_isBarred_51 (by decide) (fun c51 => ?_) (fun c51 => ?_)
          ·
            refine lv_iconst (v := nI 0) hx hb dX3_isBarred_79 (by decide) ?_
            exact hret _ () _ _ _ _ (by decide) (Or.inr ⟨rfl, Bool.eq_false_iff.mpr (fun z => by obtain ⟨o, z1, z2⟩ := (bar_iff c7).mp z; exact hn o (by omega) z2)⟩) h dX3_isBarred_80
          ·
            refine lv_iload hx hb dX3_isBarred_54 (lv_at hl 4 rfl) ?_
            refine lv_iload_n hx hb dX3_isBarred_56 rfl (lv_at hl 1 rfl) ?_
            refine n_ceq hx hb (by omega) (by omega) (tgt := 73) dX3_isBarred_57 (by decide) (fun c57 => ?_) (fun c57 => ?_)
            ·
              refine lv_iinc hx hb dX3_isBarred_73 hl (k := 4) rfl (inc_1 _) (by decide) rfl (fun ls hl => ?_)
              refine lv_goto (tgt := 45) hx hb dX3_isBarred_76 (by decide) ?_
              exact ih45 (i + 1) _ _ _ (by omega) (lt_s hn (fun z => z.1 c57)) (by omega) h (lv_sub hl [1, 2, 3, 4, 0] rfl)
            ·
              refine lv_aload_n hx hb dX3_isBarred_60 rfl (lv_at hl 0 rfl) ?_
              refine gF_RX3_at S0 hG h dX3_isBarred_61 ?_
              refine lv_iload hx hb dX3_isBarred_64 (lv_at hl 4 rfl) ?_
              refine rF_at S0 hG h (by omega) dX3_isBarred_66 ?_
              refine lv_iload_n hx hb dX3_isBarred_67 rfl (lv_at hl 3 rfl) ?_
              have h7 := hI.2.2.2.2 i (by omega)
              have h8 : nxC f x (due f x) ≤ 12 := by unfold nxC; split <;> omega
              refine n_cne hx hb (by omega) (by omega) (tgt := 73) dX3_isBarred_68 (by decide) (fun c68 => ?_) (fun c68 => ?_)
              ·
                refine lv_iinc hx hb dX3_isBarred_73 hl (k := 4) rfl (inc_1 _) (by decide) rfl (fun ls hl => ?_)
                refine lv_goto (tgt := 45) hx hb dX3_isBarred_76 (by decide) ?_
                exact ih45 (i + 1) _ _ _ (by omega) (lt_s hn (fun z => c68 z.2)) (by omega) h (lv_sub hl [1, 2, 3, 4, 0] rfl)
              ·
                refine lv_iconst (v := nI 1) hx hb dX3_isBarred_71 (by decide) ?_
                exact hret _ () _ _ _ _ (by decide) (Or.inl ⟨rfl, (bar_iff c7).mpr ⟨i, by omega, c57, c68⟩⟩) h dX3_isBarred_72
      exact lp45 _ 0 _ _ _ (Nat.zero_le _) (fun o z => absurd z (Nat.not_lt_zero _)) (Nat.lt_succ_self _) h (lv_sub hl [2, 3, 4, 1, 0] rfl)
  ·
    refine lv_iconst (v := nI 0) hx hb dX3_isBarred_10 (by decide) ?_
    exact hret _ () _ _ _ _ (by decide) (Or.inr ⟨rfl, bar_no c7⟩) h dX3_isBarred_11
theorem kw_RX2_19 : GoodIn wsL_law (va_wsSU RX2 19 yX4_walks (WS yX4_walks cX4_walks 4 (some .int))) := gSU (rin16 _ (List.mem_of_getElem? (i := 7) rfl)) (rin15 _ (List.mem_of_getElem? (i := 15) rfl)) (rin16 _ (List.mem_of_getElem? (i := 8) rfl)) (rin16 _ (List.mem_of_getElem? (i := 9) rfl)) (rin2 _ (List.mem_of_getElem? (i := 23) rfl)) (rin16 _ (List.mem_of_getElem? (i := 0) rfl))
theorem kdS_X3_isBarred : yX3_isBarred.cls ≠ "java/lang/invoke/MethodHandle" ∧ yX3_isBarred.cls ≠ "java/lang/invoke/VarHandle" ∧ (parseMethodDescriptor yX3_isBarred.desc).map (fun d => d.parameters.length) = some 2 := ⟨by decide +kernel, by decide +kernel, by decide +kernel⟩
set_option maxHeartbeats 4000000 in
set_option maxRecDepth 100000 in
theorem c_X2_walks {b q0 ci : Nat} {C0 : String} {T0 : u_T} {N0 : Nat} {fs0 : List Value} (hc0 : vwCl[ci]? = some (C0, T0, N0)) (he0 : (wF G a f q sp rg wd it)[q0]? = some (b, .inr (ci, fs0))) {x : Nat} (hx1 : x < 8) {y : Nat} (hI : Inv f) (hy : y = due f x) : Ki G l yX2_walks cX2_walks 4 (some .int) (RM 2 24) [.ref b, .ref (a 0), .int (nI x), .int (nI y)] (wF G a f q sp rg wd it) (fun u : Unit => wF G a f q sp rg wd it) (fun r _ => r = nI (if bar f x = true then 0 else its f x 2)) := by
  refine Ki.of (by decide) (Nat.le_of_ble_eq_true rfl) ?_
  intro p e s m args below meth c A Q ls hx hb S0 hG hA h hret hl
  have S0 : CF p m c cX2_walks 4 s args RX2 := S0
  have hl : lv_has ls 4 [(0, .ref b), (1, .ref (a 0)), (2, .int (nI x)), (3, .int (nI y))] := hl
  refine lv_aload_n hx hb dX2_walks_0 rfl (lv_at hl 1 rfl) ?_
  refine lv_iload_n hx hb dX2_walks_1 rfl (lv_at hl 2 rfl) ?_
  refine lv_iload_n hx hb dX2_walks_2 rfl (lv_at hl 3 rfl) ?_
  refine cN_i0 S0 hG hA h hl.1 (ws_ok (rin16 _ (List.mem_of_getElem? (i := 6) rfl))) (rin2 _ (List.mem_of_getElem? (i := 3) rfl)) (rin16 _ (List.mem_of_getElem? (i := 4) rfl)) (rin16 _ (List.mem_of_getElem? (i := 5) rfl)) (host := "ComposedInterval") (List.mem_of_getElem? (i := 53) rfl) kdS_X3_isBarred (c_X3_isBarred hx1 hI hy) ⟨rfl, rfl, by decide, by decide, Nat.le_refl _, Nat.le_refl _⟩ rfl 3 0 rfl rfl rfl (Nat.le_of_ble_eq_true rfl) dX2_walks_3 (fun _ => rfl) (fun r u H locs hq h => ?_)
  rcases hq with ⟨rfl, b3⟩ | ⟨rfl, b3⟩
  ·
    refine n_zeq hx hb (by decide) (tgt := 13) dX2_walks_6 (by decide) (fun q => absurd q (by decide)) (fun _ => ?_)
    refine lv_iconst (v := nI 0) hx hb dX2_walks_9 (by decide) ?_
    refine lv_goto (tgt := 20) hx hb dX2_walks_10 (by decide) ?_
    exact hret _ () _ _ _ _ (nI_cong (by rw [if_pos b3])) h dX2_walks_20
  ·
    refine n_zeq hx hb (by decide) (tgt := 13) dX2_walks_6 (by decide) (fun _ => ?_) (fun q => absurd q (by decide))
    refine lv_aload_n hx hb dX2_walks_13 rfl (lv_at hl 0 rfl) ?_
    refine lv_aload_n hx hb dX2_walks_14 rfl (lv_at hl 1 rfl) ?_
    refine lv_iload_n hx hb dX2_walks_15 rfl (lv_at hl 2 rfl) ?_
    refine lv_iload_n hx hb dX2_walks_16 rfl (lv_at hl 3 rfl) ?_
    refine cSU_i0 S0 hG hA h hl.1 kw_RX2_19 kdU_X4_walks (c_X4_walks (by omega)) ⟨rfl, rfl, by decide, by decide, Nat.le_refl _, Nat.le_refl _⟩ rfl ci q0 hc0 he0 rfl (Nat.le_of_ble_eq_true rfl) dX2_walks_17 (fun _ => rfl) (fun r u H locs hq h => ?_)
    obtain rfl := hq
    exact hret _ () _ _ _ _ (nI_cong (by rw [b3]; rfl)) h dX2_walks_20
