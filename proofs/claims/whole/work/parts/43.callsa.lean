theorem fd_backC {x : Int32} {yn j : Nat} {tb : Row} {tn : Nat} (h1 : 1 ≤ j) (h2 : j ≤ yn) : va_up (fedN x yn tb tn (yn - j)) (tn + (yn - j)) (bV x (j - 1)) = fedN x yn tb tn (yn - (j - 1)) ∧ tn + (yn - j) + 1 = tn + (yn - (j - 1)) := by
  have e8 : yn - (j - 1) = (yn - j) + 1 := by omega
  have e7 : yn - 1 - (yn - j) = j - 1 := by omega
  rw [e8, ← e7]
  exact ⟨rfl, rfl⟩
theorem m1_lt : ∀ i, i < 121 → (-1 : Int32) - nI i < 0 := by decide +kernel
theorem sumT_lo (st : Row) {j : Nat} : ∀ n, n ≤ j → sumT st (j : Int) n = 0
  | 0, _ => rfl
  | n + 1, h => by
    show sumT st (j : Int) n + (if (j : Int) < 0 ∨ (n : Int) = (j : Int) then st n else 0) = 0
    rw [sumT_lo st n (by omega), if_neg (by omega)]
theorem sumT_hi (st : Row) {j : Nat} : ∀ n, j < n → sumT st (j : Int) n = st j
  | 0, h => absurd h (by omega)
  | n + 1, h => by
    show sumT st (j : Int) n + (if (j : Int) < 0 ∨ (n : Int) = (j : Int) then st n else 0) = st j
    by_cases e : n = j
    · rw [sumT_lo st n (by omega), if_pos (by omega), e]; omega
    · rw [sumT_hi st n (by omega), if_neg (by omega)]; rfl
theorem sumT_neg (st : Row) {v : Int} (h : v < 0) (i : Nat) : sumT st v i + st i = sumT st v (i + 1) := by
  show _ = sumT st v i + (if v < 0 ∨ (i : Int) = v then st i else 0)
  rw [if_pos (Or.inl h)]
variable {G : GT} {l : Launch} {o : Nat → Nat} {f st tb : Row} {tn : Nat} {nu : Nat → Int64} {bi si : Row} {kp : Nat} {g : Row} {D : DT}
theorem kdS_X9_append : yX9_append.cls ≠ "java/lang/invoke/MethodHandle" ∧ yX9_append.cls ≠ "java/lang/invoke/VarHandle" ∧ (parseMethodDescriptor yX9_append.desc).map (fun d => d.parameters.length) = some 1 := ⟨by decide +kernel, by decide +kernel, by decide +kernel⟩
set_option maxHeartbeats 4000000 in
set_option maxRecDepth 100000 in
theorem c_X10_feed {x y : Int32} (htn : tn ≤ 120) : Ki G l yX10_feed cX10_feed 4 (some .int) (RM 2 22) [.ref (o 0), .int x, .int y] (wC G o f st tb tn nu bi si kp g D) (fun u : Row × Nat × Row => wC G o f u.2.2 u.1 u.2.1 nu bi si kp g D) (fun r u => P_feed tb tn st x y r u.1 u.2.1 u.2.2) := by
  refine Ki.of (by decide) (Nat.le_of_ble_eq_true rfl) ?_
  intro p e s m args below meth c A Q ls hx hb S0 hG hA h hret hl
  have S0 : CF p m c cX10_feed 4 s args RX10 := S0
  have hl : lv_has ls 4 [(0, .ref (o 0)), (1, .int x), (2, .int y)] := hl
  refine lv_iload_n hx hb dX10_feed_0 rfl (lv_at hl 2 rfl) ?_
  refine lv_iconst (v := nI 1) hx hb dX10_feed_1 (by decide) ?_
  refine lv_iconst (v := nI 4) hx hb dX10_feed_2 (by decide) ?_
  refine cS_iE S0 hG hA h hl.1 kw_RX10_49 kdS_X10_isOutside (c_X10_isOutside) ⟨rfl, rfl, by decide, by decide, Nat.le_refl _, Nat.le_refl _⟩ rfl rfl (Nat.le_of_ble_eq_true rfl) dX10_feed_3 (fun r u H locs hq h => ?_)
  have hq : (r = nI 1 ∧ ¬ inR y 1 4) ∨ (r = nI 0 ∧ inR y 1 4) := hq
  rcases hq with ⟨rfl, b3⟩ | ⟨rfl, b3⟩
  ·
    refine n_zeq hx hb (by decide) (tgt := 16) dX10_feed_6 (by decide) (fun q => absurd q (by decide)) (fun _ => ?_)
    refine lv_aload_n hx hb dX10_feed_9 rfl (lv_at hl 0 rfl) ?_
    refine lv_ldc (v := -1000000001) hx hb S0.2.2.2.1 (S0.2.2.2.2 _ (rin6 _ (List.mem_of_getElem? (i := 6) rfl))) dX10_feed_10 ?_
    refine cV_i0 S0 hG hA h hl.1 kw_RX10_58 kdV_X10_tell (c_X10_tell (k := 0) (by decide) (by decide)) ⟨rfl, rfl, by decide, by decide, Nat.le_refl _, Nat.le_refl _⟩ rfl 10 0 rfl rfl rfl (Nat.le_of_ble_eq_true rfl) dX10_feed_12 (fun _ => rfl) (fun r u H locs hq h => ?_)
    obtain rfl := hq
    exact hret _ (tb, tn, bump st 0) _ _ _ _ (Or.inr ⟨b3, rfl, rfl, rfl, rfl⟩) h dX10_feed_15
  ·
    obtain ⟨jy, rfl, jy1, jy2⟩ := inR_nat ⟨by have := b3.1; omega, b3.2⟩
    have jy0 := (inR_n (by omega)).mp b3
    refine n_zeq hx hb (by decide) (tgt := 16) dX10_feed_6 (by decide) (fun _ => ?_) (fun q => absurd q (by decide))
    refine lv_aload_n hx hb dX10_feed_16 rfl (lv_at hl 0 rfl) ?_
    refine gC_tape S0 hG h dX10_feed_17 ?_
    refine gC_length S0 hG h dX10_feed_20 ?_
    refine lv_iload_n hx hb dX10_feed_23 rfl (lv_at hl 2 rfl) ?_
    refine n_add hx hb dX10_feed_24 ?_
    refine lv_bipush (v := nI 120) hx hb dX10_feed_25 (by decide) ?_
    refine n_cle hx hb (by omega) (by omega) (tgt := 37) dX10_feed_27 (by decide) (fun c27 => ?_) (fun c27 => ?_)
    ·
      refine lv_iload_n hx hb dX10_feed_37 rfl (lv_at hl 2 rfl) ?_
      refine lv_iconst (v := nI 1) hx hb dX10_feed_38 (by decide) ?_
      refine lv_isub hx hb dX10_feed_39 ?_
      refine lv_istore_n hx hb dX10_feed_40 rfl hl (by decide) rfl (fun ls hl => ?_)
      have lp41 : ∀ (kf : Nat) (j : Nat) (H : Heap) (locs : List Loc) (ls : Array Slot) (hj : j ≤ jy), j < kf → WX G A s H locs (wC G o f st (fedN x jy tb tn (jy - j)) (tn + (jy - j)) nu bi si kp g D) → lv_has ls 4 [(0, .ref (o 0)), (1, .int x), (2, .int (nI jy)), (3, .int (nI j - nI 1))] → W p l e (RM 2 22) s m args below meth c H locs 0 0 Q (F0 m 41 ls []) := by
        intro kf
        induction kf with
        | zero => intro j H locs ls hj hm; exact absurd hm (Nat.not_lt_zero _)
        | succ kf ih41 =>
          intro j H locs ls hj hm h hl
          refine lv_iload_n hx hb dX10_feed_41 rfl (lv_at hl 3 rfl) ?_
          refine lv_if_lt hx hb (tgt := 68) dX10_feed_42 (by decide) (fun c42 => ?_) (fun c42 => ?_)
          ·
            have j0 : j = 0 := (sub_lt0 (by omega)).mp c42
            subst j0
            refine lv_aload_n hx hb dX10_feed_68 rfl (lv_at hl 0 rfl) ?_
            refine gC_tape S0 hG h dX10_feed_69 ?_
            refine gC_length S0 hG h dX10_feed_72 ?_
            exact hret _ (fedN x jy tb tn jy, tn + jy, st) _ _ _ _ (Or.inl ⟨b3, Or.inr ⟨by rw [nt_nI jy2]; exact c27, by rw [nt_nI jy2]; rfl, by rw [nt_nI jy2], by rw [nt_nI jy2], rfl⟩⟩) h dX10_feed_75
          ·
            have j1 : 1 ≤ j := Nat.pos_of_ne_zero (fun z => c42 ((sub_lt0 (by omega)).mpr z))
            refine lv_aload_n hx hb dX10_feed_45 rfl (lv_at hl 0 rfl) ?_
            refine gC_tape S0 hG h dX10_feed_46 ?_
            refine lv_iload_n hx hb dX10_feed_49 rfl (lv_at hl 1 rfl) ?_
            refine lv_bipush (v := nI 8) hx hb dX10_feed_50 (by decide) ?_
            refine lv_iload_n hx hb dX10_feed_52 rfl (lv_at hl 3 rfl) ?_
            refine tN (pk_sub (show 1 ≤ j by omega)) ?_
            refine n_mul hx hb dX10_feed_53 ?_
            refine lv_ishr hx hb dX10_feed_54 ?_
            refine lv_sipush (v := nI 255) hx hb dX10_feed_55 (by decide) ?_
            refine lv_iand hx hb dX10_feed_58 ?_
            refine tN (bV_eq x (j - 1)) ?_
            refine cN_vC (w2 := fun u => wC G o f st (va_up (fedN x jy tb tn (jy - j)) (tn + (jy - j)) (bV x (j - 1))) ((tn + (jy - j)) + 1) nu bi si kp g D) S0 hG hA h hl.1 (ws_ok (rin28 _ (List.mem_of_getElem? (i := 5) rfl))) (rin1 _ (List.mem_of_getElem? (i := 15) rfl)) (rin28 _ (List.mem_of_getElem? (i := 3) rfl)) (rin28 _ (List.mem_of_getElem? (i := 4) rfl)) (host := "ComposedInterval") (List.mem_of_getElem? (i := 57) rfl) kdS_X9_append (c_X9_append (t := aTp o) (a := aT o) (tb := (fedN x jy tb tn (jy - j))) (tn := (tn + (jy - j))) (tk := D.2.2.2.1) (ts := D.2.2.2.2.1) (tx := D.2.2.2.2.2.1) (tv := D.2.2.2.2.2.2) (f := D.2.1.1) (q := D.2.1.2.1) (sp := D.2.1.2.2.1) (rg := D.2.1.2.2.2.1) (wd := D.2.1.2.2.2.2.1) (it := D.2.1.2.2.2.2.2) (by omega)) ⟨rfl, rfl, by decide, by decide, Nat.le_refl _, Nat.le_refl _⟩ rfl 9 35 rfl rfl [35, 36, 17, 18, 19, 20, 21, 22, 23, 24, 25, 10, 11, 12, 13, 14, 15, 16] (by decide) rfl rfl rfl (Nat.le_of_ble_eq_true rfl) dX10_feed_59 (fun _ H1 hk hP1 => WX.back h [35, 36, 17, 18, 19, 20, 21, 22, 23, 24, 25, 10, 11, 12, 13, 14, 15, 16] rfl hk hP1 (fit_Tp (f2 := D.2.1.1) (k2 := D.2.2.2.1) (s2 := D.2.2.2.2.1) (x2 := D.2.2.2.2.2.1) (v2 := D.2.2.2.2.2.2))) (fun _ => rfl) (fun u H locs hq h => ?_)
            refine lv_iinc hx hb dX10_feed_62 hl (k := 3) rfl (dec_1 (by omega)) (by decide) rfl (fun ls hl => ?_)
            refine lv_goto (tgt := 41) hx hb dX10_feed_65 (by decide) ?_
            exact ih41 (j - 1) _ _ _ (by omega) (by omega) (h.eq (by rw [(fd_backC (x := x) (tb := tb) (tn := tn) j1 hj).1, (fd_backC (x := x) (tb := tb) (tn := tn) j1 hj).2])) (lv_sub hl [1, 2, 3, 0] rfl)
      exact lp41 _ jy _ _ _ (Nat.le_refl _) (Nat.lt_succ_self _) (h.eq (by rw [Nat.sub_self]; rfl)) (lv_sub hl [1, 2, 3, 0] rfl)
    ·
      refine lv_aload_n hx hb dX10_feed_30 rfl (lv_at hl 0 rfl) ?_
      refine lv_ldc (v := -1000000002) hx hb S0.2.2.2.1 (S0.2.2.2.2 _ (rin14 _ (List.mem_of_getElem? (i := 8) rfl))) dX10_feed_31 ?_
      refine cV_i0 S0 hG hA h hl.1 kw_RX10_58 kdV_X10_tell (c_X10_tell (k := 1) (by decide) (by decide)) ⟨rfl, rfl, by decide, by decide, Nat.le_refl _, Nat.le_refl _⟩ rfl 10 0 rfl rfl rfl (Nat.le_of_ble_eq_true rfl) dX10_feed_33 (fun _ => rfl) (fun r u H locs hq h => ?_)
      obtain rfl := hq
      exact hret _ (tb, tn, bump st 1) _ _ _ _ (Or.inl ⟨b3, Or.inl ⟨by rw [nt_nI jy2]; exact c27, rfl, rfl, rfl, rfl⟩⟩) h dX10_feed_36
