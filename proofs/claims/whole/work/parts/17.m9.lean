/-! the reference: tape, images, counts -/
variable {G : GT} {l : Launch} {a : Nat → Nat} {f g o d st du tb bi si : Nat → Nat} {nu mo : Nat → Int64} {kp it tn fr to vl wr : Nat}
theorem fd_back {x : Int32} {yn j : Nat} (h1 : 1 ≤ j) (h2 : j ≤ yn) : wM G a f g o d st du (va_up (fedN x yn tb tn (yn - j)) (tn + (yn - j)) (bV x (j - 1))) bi si nu mo kp it (tn + (yn - j) + 1) fr to vl wr = wM G a f g o d st du (fedN x yn tb tn (yn - (j - 1))) bi si nu mo kp it (tn + (yn - (j - 1))) fr to vl wr := by
  have e8 : yn - (j - 1) = (yn - j) + 1 := by omega
  have e7 : yn - 1 - (yn - j) = j - 1 := by omega
  rw [e8, ← e7]
  rfl
set_option maxHeartbeats 4000000 in
set_option maxRecDepth 100000 in
theorem c_X11_feed {x y : Int32} (ht : tn ≤ 120) : Ki G l yX11_feed cX11_feed 4 (some .int) (RM 2 25) [.ref (a 0), .int x, .int y] (wM G a f g o d st du tb bi si nu mo kp it tn fr to vl wr) (fun u : (Nat → Nat) × Nat × (Nat → Nat) => wM G a f g o d u.2.2 du u.1 bi si nu mo kp it u.2.1 fr to vl wr) (fun r u => P_feed tb tn st x y r u.1 u.2.1 u.2.2) := by
  refine Ki.of (by decide) (Nat.le_of_ble_eq_true rfl) ?_
  intro p e s m args below meth c A Q ls hx hb S0 hG hA h hret hl
  have S0 : CF p m c cX11_feed 4 s args RX11 := S0
  have hl : lv_has ls 4 [(0, .ref (a 0)), (1, .int x), (2, .int y)] := hl
  refine lv_iload_n hx hb dX11_feed_0 rfl (lv_at hl 2 rfl) ?_
  refine lv_i2l hx hb dX11_feed_1 rfl ?_
  refine lv_lconst (v := 1) hx hb dX11_feed_2 (by decide) ?_
  refine lv_ldc2 (v := 4) hx hb S0.2.2.2.1 (S0.2.2.2.2 _ (rin19 _ (List.mem_of_getElem? (i := 9) rfl))) dX11_feed_3 ?_
  refine cS_iE S0 hG hA h hl.1 kw_RX11_49 kdS_X11_in (c_X11_in) ⟨rfl, rfl, by decide, by decide, Nat.le_refl _, Nat.le_refl _⟩ rfl rfl (Nat.le_of_ble_eq_true rfl) dX11_feed_6 (fun r u H locs hq h => ?_)
  rcases hq with ⟨rfl, b6⟩ | ⟨rfl, b6⟩
  ·
    have b6 : inR y 1 4 := by simpa [inR, i2l_toInt] using b6
    obtain ⟨yn, rfl, yh, yq⟩ := inR_nat (x := y) ⟨Int.le_trans (by decide) b6.1, b6.2⟩
    have yr := (inR_n yq).mp b6
    refine n_zne hx hb (by decide) (tgt := 19) dX11_feed_9 (by decide) (fun _ => ?_) (fun q => absurd q (by decide))
    refine lv_aload_n hx hb dX11_feed_19 rfl (lv_at hl 0 rfl) ?_
    refine gM_taped S0 hG h dX11_feed_20 ?_
    refine lv_iload_n hx hb dX11_feed_23 rfl (lv_at hl 2 rfl) ?_
    refine n_add hx hb dX11_feed_24 ?_
    refine lv_bipush (v := nI 120) hx hb dX11_feed_25 (by decide) ?_
    refine n_cle hx hb (by omega) (by omega) (tgt := 37) dX11_feed_27 (by decide) (fun c27 => ?_) (fun c27 => ?_)
    ·
      refine lv_iload_n hx hb dX11_feed_37 rfl (lv_at hl 2 rfl) ?_
      refine lv_iconst (v := nI 1) hx hb dX11_feed_38 (by decide) ?_
      refine lv_isub hx hb dX11_feed_39 ?_
      refine lv_istore_n hx hb dX11_feed_40 rfl hl (by decide) rfl (fun ls hl => ?_)
      have lp41 : ∀ (kf : Nat) (j : Nat) (H : Heap) (locs : List Loc) (ls : Array Slot) (hj : j ≤ yn), j < kf → WX G A s H locs (wM G a f g o d st du (fedN x yn tb tn (yn - j)) bi si nu mo kp it (tn + (yn - j)) fr to vl wr) → lv_has ls 4 [(0, .ref (a 0)), (1, .int x), (2, .int (nI yn)), (3, .int (nI j - nI 1))] → W p l e (RM 2 25) s m args below meth c H locs 0 0 Q (F0 m 41 ls []) := by
        intro kf
        induction kf with
        | zero => intro j H locs ls hj hm; exact absurd hm (Nat.not_lt_zero _)
        | succ kf ih41 =>
          intro j H locs ls hj hm h hl
          refine lv_iload_n hx hb dX11_feed_41 rfl (lv_at hl 3 rfl) ?_
          refine lv_if_lt hx hb (tgt := 80) dX11_feed_42 (by decide) (fun c42 => ?_) (fun c42 => ?_)
          ·
            have j0 : j = 0 := (sub_lt0 (by omega)).mp c42
            subst j0
            refine lv_aload_n hx hb dX11_feed_80 rfl (lv_at hl 0 rfl) ?_
            refine gM_taped S0 hG h dX11_feed_81 ?_
            exact hret _ (fedN x yn tb tn yn, tn + yn, st) _ _ _ _ (Or.inl ⟨b6, Or.inr ⟨by rw [nt_nI yq]; exact c27, by rw [nt_nI yq]; rfl, by rw [nt_nI yq], by rw [nt_nI yq], rfl⟩⟩) h dX11_feed_84
          ·
            have j1 : 1 ≤ j := Nat.pos_of_ne_zero (fun z => c42 ((sub_lt0 (by omega)).mpr z))
            refine lv_aload_n hx hb dX11_feed_45 rfl (lv_at hl 0 rfl) ?_
            refine gM_tape S0 hG h dX11_feed_46 ?_
            refine lv_aload_n hx hb dX11_feed_49 rfl (lv_at hl 0 rfl) ?_
            refine gM_taped S0 hG h dX11_feed_50 ?_
            refine lv_iload_n hx hb dX11_feed_53 rfl (lv_at hl 1 rfl) ?_
            refine lv_bipush (v := nI 8) hx hb dX11_feed_54 (by decide) ?_
            refine lv_iload_n hx hb dX11_feed_56 rfl (lv_at hl 3 rfl) ?_
            refine tN (pk_sub (show 1 ≤ j by omega)) ?_
            refine n_mul hx hb dX11_feed_57 ?_
            refine lv_ishr hx hb dX11_feed_58 ?_
            refine lv_sipush (v := nI 255) hx hb dX11_feed_59 (by decide) ?_
            refine lv_iand hx hb dX11_feed_62 ?_
            refine tN (bV_eq x (j - 1)) ?_
            refine sM_tape S0 hG h (by omega) dX11_feed_63 (fun H locs h => ?_)
            refine lv_aload_n hx hb dX11_feed_64 rfl (lv_at hl 0 rfl) ?_
            refine lv_dup hx hb dX11_feed_65 rfl ?_
            refine gM_taped S0 hG h dX11_feed_66 ?_
            refine lv_iconst (v := nI 1) hx hb dX11_feed_69 (by decide) ?_
            refine n_add hx hb dX11_feed_70 ?_
            refine pM_taped S0 hG h dX11_feed_71 (fun H locs h => ?_)
            refine lv_iinc hx hb dX11_feed_74 hl (k := 3) rfl (dec_1 (by omega)) (by decide) rfl (fun ls hl => ?_)
            refine lv_goto (tgt := 41) hx hb dX11_feed_77 (by decide) ?_
            exact ih41 (j - 1) _ _ _ (by omega) (by omega) (h.eq (fd_back (by omega) (by omega))) (lv_sub hl [1, 2, 3, 0] rfl)
      exact lp41 _ yn _ _ _ (Nat.le_refl _) (Nat.lt_succ_self _) (h.eq (by rw [Nat.sub_self]; rfl)) (lv_sub hl [1, 2, 3, 0] rfl)
    ·
      refine lv_aload_n hx hb dX11_feed_30 rfl (lv_at hl 0 rfl) ?_
      refine lv_ldc (v := -1000000002) hx hb S0.2.2.2.1 (S0.2.2.2.2 _ (rin14 _ (List.mem_of_getElem? (i := 19) rfl))) dX11_feed_31 ?_
      refine cV_i0 S0 hG hA h hl.1 kw_RX11_76 kdV_X11_finds (c_X11_finds (k := 1) (by decide) (by decide)) ⟨rfl, rfl, by decide, by decide, Nat.le_refl _, Nat.le_refl _⟩ rfl 11 0 rfl rfl rfl (Nat.le_of_ble_eq_true rfl) dX11_feed_33 (fun _ => rfl) (fun r u H locs hq h => ?_)
      obtain rfl := hq
      exact hret _ (_, _, _) _ _ _ _ (Or.inl ⟨b6, Or.inl ⟨by rw [nt_nI yq]; exact c27, rfl, rfl, rfl, rfl⟩⟩) h dX11_feed_36
  ·
    have b6 : ¬ inR y 1 4 := by simpa [inR, i2l_toInt] using b6
    refine n_zne hx hb (by decide) (tgt := 19) dX11_feed_9 (by decide) (fun q => absurd q (by decide)) (fun _ => ?_)
    refine lv_aload_n hx hb dX11_feed_12 rfl (lv_at hl 0 rfl) ?_
    refine lv_ldc (v := -1000000001) hx hb S0.2.2.2.1 (S0.2.2.2.2 _ (rin6 _ (List.mem_of_getElem? (i := 21) rfl))) dX11_feed_13 ?_
    refine cV_i0 S0 hG hA h hl.1 kw_RX11_76 kdV_X11_finds (c_X11_finds (k := 0) (by decide) (by decide)) ⟨rfl, rfl, by decide, by decide, Nat.le_refl _, Nat.le_refl _⟩ rfl 11 0 rfl rfl rfl (Nat.le_of_ble_eq_true rfl) dX11_feed_15 (fun _ => rfl) (fun r u H locs hq h => ?_)
    obtain rfl := hq
    exact hret _ (_, _, _) _ _ _ _ (Or.inr ⟨b6, rfl, rfl, rfl, rfl⟩) h dX11_feed_18
set_option maxHeartbeats 4000000 in
set_option maxRecDepth 100000 in
theorem c_X11_wipe  : Ki G l yX11_wipe cX11_wipe 2 (some .int) (RM 1 0) [.ref (a 0)] (wM G a f g o d st du tb bi si nu mo kp it tn fr to vl wr) (fun u : Unit => wM G a f g o d st du tb bi si nu mo kp it 0 fr to vl wr) (fun r _ => r = nI tn) := by
  refine Ki.of (by decide) (Nat.le_of_ble_eq_true rfl) ?_
  intro p e s m args below meth c A Q ls hx hb S0 hG hA h hret hl
  have S0 : CF p m c cX11_wipe 2 s args RX11 := S0
  have hl : lv_has ls 2 [(0, .ref (a 0))] := hl
  refine lv_aload_n hx hb dX11_wipe_0 rfl (lv_at hl 0 rfl) ?_
  refine gM_taped S0 hG h dX11_wipe_1 ?_
  refine lv_istore_n hx hb dX11_wipe_4 rfl hl (by decide) rfl (fun ls hl => ?_)
  refine lv_aload_n hx hb dX11_wipe_5 rfl (lv_at hl 1 rfl) ?_
  refine lv_iconst (v := nI 0) hx hb dX11_wipe_6 (by decide) ?_
  refine pM_taped S0 hG h dX11_wipe_7 (fun H locs h => ?_)
  refine lv_iload_n hx hb dX11_wipe_10 rfl (lv_at hl 0 rfl) ?_
  exact hret _ () _ _ _ _ rfl h dX11_wipe_11
set_option maxHeartbeats 4000000 in
set_option maxRecDepth 100000 in
theorem c_X11_image  : Ki G l yX11_image cX11_image 2 (some .int) (RM 1 0) [.ref (a 0)] (wM G a f g o d st du tb bi si nu mo kp it tn fr to vl wr) (fun u : Unit => wM G a f f o d st du tb bi si nu mo 1 it tn fr to vl wr) (fun r _ => r = nI 1) := by
  refine Ki.of (by decide) (Nat.le_of_ble_eq_true rfl) ?_
  intro p e s m args below meth c A Q ls hx hb S0 hG hA h hret hl
  have S0 : CF p m c cX11_image 2 s args RX11 := S0
  have hl : lv_has ls 2 [(0, .ref (a 0))] := hl
  have lp2 : ∀ (kf : Nat) (i : Nat) (H : Heap) (locs : List Loc) (ls : Array Slot) (hi : i ≤ 51), 51 - i < kf → WX G A s H locs (wM G a f (cp f g i) o d st du tb bi si nu mo kp it tn fr to vl wr) → lv_has ls 2 [(0, .ref (a 0)), (1, .int (nI i))] → W p l e (RM 1 0) s m args below meth c H locs 0 0 Q (F0 m 2 ls []) := by
    intro kf
    induction kf with
    | zero => intro i H locs ls hi hm; exact absurd hm (Nat.not_lt_zero _)
    | succ kf ih2 =>
      intro i H locs ls hi hm h hl
      refine lv_iload_n hx hb dX11_image_2 rfl (lv_at hl 1 rfl) ?_
      refine lv_bipush (v := nI 51) hx hb dX11_image_3 (by decide) ?_
      refine n_cge hx hb (by omega) (by omega) (tgt := 26) dX11_image_5 (by decide) (fun c5 => ?_) (fun c5 => ?_)
      ·
        refine lv_aload_n hx hb dX11_image_26 rfl (lv_at hl 0 rfl) ?_
        refine lv_iconst (v := nI 1) hx hb dX11_image_27 (by decide) ?_
        refine pM_isKept S0 hG h (by decide) dX11_image_28 (fun H locs h => ?_)
        refine lv_iconst (v := nI 1) hx hb dX11_image_31 (by decide) ?_
        exact hret _ () _ _ _ _ rfl (h.ext_i 2 rfl (fun j hj => by show nI (cp f g i j) = nI (f j); rw [cp_in (by omega)]) : WX G A s _ _ (wM G a f f o d st du tb bi si nu mo 1 it tn fr to vl wr)) dX11_image_32
      ·
        refine lv_aload_n hx hb dX11_image_8 rfl (lv_at hl 0 rfl) ?_
        refine gM_keptS S0 hG h dX11_image_9 ?_
        refine lv_iload_n hx hb dX11_image_12 rfl (lv_at hl 1 rfl) ?_
        refine lv_aload_n hx hb dX11_image_13 rfl (lv_at hl 0 rfl) ?_
        refine gM_s S0 hG h dX11_image_14 ?_
        refine lv_iload_n hx hb dX11_image_17 rfl (lv_at hl 1 rfl) ?_
        refine rM_s S0 hG h (by omega) dX11_image_18 ?_
        refine sM_keptS S0 hG h (by omega) dX11_image_19 (fun H locs h => ?_)
        refine lv_iinc hx hb dX11_image_20 hl (k := 1) rfl (inc_1 _) (by decide) rfl (fun ls hl => ?_)
        refine lv_goto (tgt := 2) hx hb dX11_image_23 (by decide) ?_
        exact ih2 (i + 1) _ _ _ (by omega) (by omega) (h.eq (by rw [cp_succ])) (lv_sub hl [1, 0] rfl)
  refine lv_iconst (v := nI 0) hx hb dX11_image_0 (by decide) ?_
  refine lv_istore_n hx hb dX11_image_1 rfl hl (by decide) rfl (fun ls hl => ?_)
  exact lp2 _ 0 _ _ _ (by omega) (Nat.lt_succ_self _) (h.eq (by rw [cp_0])) (lv_sub hl [1, 0] rfl)
set_option maxHeartbeats 4000000 in
set_option maxRecDepth 100000 in
theorem c_X11_undo (hk : kp ≤ 1) : Ki G l yX11_undo cX11_undo 2 (some .int) (RM 2 21) [.ref (a 0)] (wM G a f g o d st du tb bi si nu mo kp it tn fr to vl wr) (fun u : (Nat → Nat) × (Nat → Nat) => wM G a u.1 g o d u.2 du tb bi si nu mo kp it tn fr to vl wr) (fun r u => P_undo f g kp st r u.1 u.2) := by
  refine Ki.of (by decide) (Nat.le_of_ble_eq_true rfl) ?_
  intro p e s m args below meth c A Q ls hx hb S0 hG hA h hret hl
  have S0 : CF p m c cX11_undo 2 s args RX11 := S0
  have hl : lv_has ls 2 [(0, .ref (a 0))] := hl
  have lp16 : ∀ (kf : Nat) (i : Nat) (H : Heap) (locs : List Loc) (ls : Array Slot) (hi : i ≤ 51) (c4 : 0 < kp), 51 - i < kf → WX G A s H locs (wM G a (cp g f i) g o d st du tb bi si nu mo kp it tn fr to vl wr) → lv_has ls 2 [(0, .ref (a 0)), (1, .int (nI i))] → W p l e (RM 2 21) s m args below meth c H locs 0 0 Q (F0 m 16 ls []) := by
    intro kf
    induction kf with
    | zero => intro i H locs ls hi c4 hm; exact absurd hm (Nat.not_lt_zero _)
    | succ kf ih16 =>
      intro i H locs ls hi c4 hm h hl
      refine lv_iload_n hx hb dX11_undo_16 rfl (lv_at hl 1 rfl) ?_
      refine lv_bipush (v := nI 51) hx hb dX11_undo_17 (by decide) ?_
      refine n_cge hx hb (by omega) (by omega) (tgt := 40) dX11_undo_19 (by decide) (fun c19 => ?_) (fun c19 => ?_)
      ·
        refine lv_aload_n hx hb dX11_undo_40 rfl (lv_at hl 0 rfl) ?_
        refine gM_s S0 hG h dX11_undo_41 ?_
        refine lv_iconst (v := nI 1) hx hb dX11_undo_44 (by decide) ?_
        refine rM_s S0 hG h (by omega) dX11_undo_45 ?_
        refine tN (nI_cong (cp_in (by omega))) ?_
        exact hret _ (g, _) _ _ _ _ (Or.inr ⟨by omega, rfl, rfl, rfl⟩) (h.ext_i 1 rfl (fun j hj => by show nI (cp g f i j) = nI (g j); rw [cp_in (by omega)]) : WX G A s _ _ (wM G a g g o d st du tb bi si nu mo kp it tn fr to vl wr)) dX11_undo_46
      ·
        refine lv_aload_n hx hb dX11_undo_22 rfl (lv_at hl 0 rfl) ?_
        refine gM_s S0 hG h dX11_undo_23 ?_
        refine lv_iload_n hx hb dX11_undo_26 rfl (lv_at hl 1 rfl) ?_
        refine lv_aload_n hx hb dX11_undo_27 rfl (lv_at hl 0 rfl) ?_
        refine gM_keptS S0 hG h dX11_undo_28 ?_
        refine lv_iload_n hx hb dX11_undo_31 rfl (lv_at hl 1 rfl) ?_
        refine rM_keptS S0 hG h (by omega) dX11_undo_32 ?_
        refine sM_s S0 hG h (by omega) dX11_undo_33 (fun H locs h => ?_)
        refine lv_iinc hx hb dX11_undo_34 hl (k := 1) rfl (inc_1 _) (by decide) rfl (fun ls hl => ?_)
        refine lv_goto (tgt := 16) hx hb dX11_undo_37 (by decide) ?_
        exact ih16 (i + 1) _ _ _ (by omega) c4 (by omega) (h.eq (by rw [cp_succ])) (lv_sub hl [1, 0] rfl)
  refine lv_aload_n hx hb dX11_undo_0 rfl (lv_at hl 0 rfl) ?_
  refine gM_isKept S0 hG h dX11_undo_1 ?_
  refine n_zne hx hb (by omega) (tgt := 14) dX11_undo_4 (by decide) (fun c4 => ?_) (fun c4 => ?_)
  ·
    refine lv_iconst (v := nI 0) hx hb dX11_undo_14 (by decide) ?_
    refine lv_istore_n hx hb dX11_undo_15 rfl hl (by decide) rfl (fun ls hl => ?_)
    exact lp16 _ 0 _ _ _ (by omega) c4 (Nat.lt_succ_self _) (h.eq (by rw [cp_0])) (lv_sub hl [1, 0] rfl)
  ·
    refine lv_aload_n hx hb dX11_undo_7 rfl (lv_at hl 0 rfl) ?_
    refine lv_ldc (v := -1000000004) hx hb S0.2.2.2.1 (S0.2.2.2.2 _ (rin24 _ (List.mem_of_getElem? (i := 16) rfl))) dX11_undo_8 ?_
    refine cV_i0 S0 hG hA h hl.1 kw_RX11_76 kdV_X11_finds (c_X11_finds (k := 3) (by decide) (by decide)) ⟨rfl, rfl, by decide, by decide, Nat.le_refl _, Nat.le_refl _⟩ rfl 11 0 rfl rfl rfl (Nat.le_of_ble_eq_true rfl) dX11_undo_10 (fun _ => rfl) (fun r u H locs hq h => ?_)
    obtain rfl := hq
    exact hret _ (_, _) _ _ _ _ (Or.inl ⟨c4, rfl, rfl, rfl⟩) h dX11_undo_13
set_option maxHeartbeats 4000000 in
set_option maxRecDepth 100000 in
theorem c_X11_tear (hk : kp ≤ 1) : Ki G l yX11_tear cX11_tear 2 (some .int) (RM 1 0) [.ref (a 0)] (wM G a f g o d st du tb bi si nu mo kp it tn fr to vl wr) (fun u : Unit => wM G a f g o d st du tb bi si nu mo 0 it tn fr to vl wr) (fun r _ => r = nI kp) := by
  refine Ki.of (by decide) (Nat.le_of_ble_eq_true rfl) ?_
  intro p e s m args below meth c A Q ls hx hb S0 hG hA h hret hl
  have S0 : CF p m c cX11_tear 2 s args RX11 := S0
  have hl : lv_has ls 2 [(0, .ref (a 0))] := hl
  refine lv_aload_n hx hb dX11_tear_0 rfl (lv_at hl 0 rfl) ?_
  refine gM_isKept S0 hG h dX11_tear_1 ?_
  refine n_zeq hx hb (by omega) (tgt := 11) dX11_tear_4 (by decide) (fun c4 => ?_) (fun c4 => ?_)
  ·
    refine lv_iconst (v := nI 0) hx hb dX11_tear_11 (by decide) ?_
    refine lv_istore_n hx hb dX11_tear_12 rfl hl (by decide) rfl (fun ls hl => ?_)
    refine lv_aload_n hx hb dX11_tear_13 rfl (lv_at hl 1 rfl) ?_
    refine lv_iconst (v := nI 0) hx hb dX11_tear_14 (by decide) ?_
    refine pM_isKept S0 hG h (by decide) dX11_tear_15 (fun H locs h => ?_)
    refine lv_iload_n hx hb dX11_tear_18 rfl (lv_at hl 0 rfl) ?_
    exact hret _ () _ _ _ _ (nI_cong (by omega)) h dX11_tear_19
  ·
    refine lv_iconst (v := nI 1) hx hb dX11_tear_7 (by decide) ?_
    refine lv_goto (tgt := 12) hx hb dX11_tear_8 (by decide) ?_
    refine lv_istore_n hx hb dX11_tear_12 rfl hl (by decide) rfl (fun ls hl => ?_)
    refine lv_aload_n hx hb dX11_tear_13 rfl (lv_at hl 1 rfl) ?_
    refine lv_iconst (v := nI 0) hx hb dX11_tear_14 (by decide) ?_
    refine pM_isKept S0 hG h (by decide) dX11_tear_15 (fun H locs h => ?_)
    refine lv_iload_n hx hb dX11_tear_18 rfl (lv_at hl 0 rfl) ?_
    exact hret _ () _ _ _ _ (nI_cong (by omega)) h dX11_tear_19
set_option maxHeartbeats 4000000 in
set_option maxRecDepth 100000 in
theorem c_X11_count {x : Int32} (hI : Inv f) : Ki G l yX11_count cX11_count 2 (some .int) (RM 4 66) [.ref (a 0), .int x] (wM G a f g o d st du tb bi si nu mo kp it tn fr to vl wr) (fun u : Nat → Nat => wM G a f g o d u du tb bi si nu mo kp it tn fr to vl wr) (fun r u => P_count f tn st x r u) := by
  refine Ki.of (by decide) (Nat.le_of_ble_eq_true rfl) ?_
  intro p e s m args below meth c A Q ls hx hb S0 hG hA h hret hl
  have S0 : CF p m c cX11_count 2 s args RX11 := S0
  have hl : lv_has ls 2 [(0, .ref (a 0)), (1, .int x)] := hl
  refine lv_iload_n hx hb dX11_count_0 rfl (lv_at hl 1 rfl) ?_
  rcases (show x.toInt = 0 ∨ x.toInt = 1 ∨ x.toInt = 2 ∨ x.toInt = 3 ∨ (x.toInt < 0 ∨ 3 < x.toInt) by omega) with e1 | e1 | e1 | e1 | e1
  ·
    refine i_swIn hx hb e1 (off := 31) (tgt := 32) dX11_count_1 (by decide) (by decide) rfl (by decide) ?_
    refine lv_aload_n hx hb dX11_count_32 rfl (lv_at hl 0 rfl) ?_
    refine gM_s S0 hG h dX11_count_33 ?_
    refine lv_iconst (v := nI 1) hx hb dX11_count_36 (by decide) ?_
    refine rM_s S0 hG h (by omega) dX11_count_37 ?_
    exact hret _ _ _ _ _ _ (Or.inl ⟨by unfold inR; omega, by rw [e1]; rfl, rfl⟩) h dX11_count_38
  ·
    refine i_swIn hx hb e1 (off := 38) (tgt := 39) dX11_count_1 (by decide) (by decide) rfl (by decide) ?_
    refine lv_aload_n hx hb dX11_count_39 rfl (lv_at hl 0 rfl) ?_
    refine gM_taped S0 hG h dX11_count_40 ?_
    exact hret _ _ _ _ _ _ (Or.inl ⟨by unfold inR; omega, by rw [e1]; rfl, rfl⟩) h dX11_count_43
  ·
    refine i_swIn hx hb e1 (off := 43) (tgt := 44) dX11_count_1 (by decide) (by decide) rfl (by decide) ?_
    refine lv_aload_n hx hb dX11_count_44 rfl (lv_at hl 0 rfl) ?_
    refine lv_iconst (v := nI 3) hx hb dX11_count_45 (by decide) ?_
    refine cV_i0 S0 hG hA h hl.1 kw_RX11_62 kdV_X11_together (c_X11_together hI (by decide)) ⟨rfl, rfl, by decide, by decide, Nat.le_refl _, Nat.le_refl _⟩ rfl 11 0 rfl rfl rfl (Nat.le_of_ble_eq_true rfl) dX11_count_46 (fun _ => rfl) (fun r u H locs hq h => ?_)
    obtain rfl := hq
    exact hret _ _ _ _ _ _ (Or.inl ⟨by unfold inR; omega, by rw [e1]; rfl, rfl⟩) h dX11_count_49
  ·
    refine i_swIn hx hb e1 (off := 49) (tgt := 50) dX11_count_1 (by decide) (by decide) rfl (by decide) ?_
    refine lv_aload_n hx hb dX11_count_50 rfl (lv_at hl 0 rfl) ?_
    refine lv_iconst (v := nI 4) hx hb dX11_count_51 (by decide) ?_
    refine cV_i0 S0 hG hA h hl.1 kw_RX11_62 kdV_X11_together (c_X11_together hI (by decide)) ⟨rfl, rfl, by decide, by decide, Nat.le_refl _, Nat.le_refl _⟩ rfl 11 0 rfl rfl rfl (Nat.le_of_ble_eq_true rfl) dX11_count_52 (fun _ => rfl) (fun r u H locs hq h => ?_)
    obtain rfl := hq
    exact hret _ _ _ _ _ _ (Or.inl ⟨by unfold inR; omega, by rw [e1]; rfl, rfl⟩) h dX11_count_55
  ·
    refine lv_tableOut hx hb (tgt := 56) dX11_count_1 (by omega) (by decide) ?_
    refine lv_aload_n hx hb dX11_count_56 rfl (lv_at hl 0 rfl) ?_
    refine lv_ldc (v := -1000000001) hx hb S0.2.2.2.1 (S0.2.2.2.2 _ (rin6 _ (List.mem_of_getElem? (i := 21) rfl))) dX11_count_57 ?_
    refine cV_i0 S0 hG hA h hl.1 kw_RX11_76 kdV_X11_finds (c_X11_finds (k := 0) (by decide) (by decide)) ⟨rfl, rfl, by decide, by decide, Nat.le_refl _, Nat.le_refl _⟩ rfl 11 0 rfl rfl rfl (Nat.le_of_ble_eq_true rfl) dX11_count_59 (fun _ => rfl) (fun r u H locs hq h => ?_)
    obtain rfl := hq
    exact hret _ _ _ _ _ _ (Or.inr ⟨fun q => by obtain ⟨q1, q2⟩ := q; omega, rfl, rfl⟩) h dX11_count_62
set_option maxHeartbeats 4000000 in
set_option maxRecDepth 100000 in
theorem c_X11_status {x : Int32} : Ki G l yX11_status cX11_status 4 (some .int) (RM 2 25) [.ref (a 0), .int x] (wM G a f g o d st du tb bi si nu mo kp it tn fr to vl wr) (fun u : Nat → Nat => wM G a f g o d u du tb bi si nu mo kp it tn fr to vl wr) (fun r u => P_status st x r u) := by
  refine Ki.of (by decide) (Nat.le_of_ble_eq_true rfl) ?_
  intro p e s m args below meth c A Q ls hx hb S0 hG hA h hret hl
  have S0 : CF p m c cX11_status 4 s args RX11 := S0
  have hl : lv_has ls 4 [(0, .ref (a 0)), (1, .int x)] := hl
  refine lv_iload_n hx hb dX11_status_0 rfl (lv_at hl 1 rfl) ?_
  refine lv_i2l hx hb dX11_status_1 rfl ?_
  refine lv_ldc2 (v := -1) hx hb S0.2.2.2.1 (S0.2.2.2.2 _ (rin41 _ (List.mem_of_getElem? (i := 10) rfl))) dX11_status_2 ?_
  refine lv_ldc2 (v := 6) hx hb S0.2.2.2.1 (S0.2.2.2.2 _ (rin41 _ (List.mem_of_getElem? (i := 11) rfl))) dX11_status_5 ?_
  refine cS_iE S0 hG hA h hl.1 kw_RX11_49 kdS_X11_in (c_X11_in) ⟨rfl, rfl, by decide, by decide, Nat.le_refl _, Nat.le_refl _⟩ rfl rfl (Nat.le_of_ble_eq_true rfl) dX11_status_8 (fun r u H locs hq h => ?_)
  rcases hq with ⟨rfl, b8⟩ | ⟨rfl, b8⟩
  ·
    have b8 : inR x (-1) 6 := by simpa [inR, i2l_toInt] using b8
    refine n_zne hx hb (by decide) (tgt := 21) dX11_status_11 (by decide) (fun _ => ?_) (fun q => absurd q (by decide))
    refine lv_iconst (v := nI 0) hx hb dX11_status_21 (by decide) ?_
    refine lv_istore_n hx hb dX11_status_22 rfl hl (by decide) rfl (fun ls hl => ?_)
    refine lv_iconst (v := nI 0) hx hb dX11_status_23 (by decide) ?_
    refine lv_istore_n hx hb dX11_status_24 rfl hl (by decide) rfl (fun ls hl => ?_)
    have lp25 : ∀ (kf : Nat) (i : Nat) (H : Heap) (locs : List Loc) (ls : Array Slot) (hi : i ≤ 7), 7 - i < kf → WX G A s H locs (wM G a f g o d st du tb bi si nu mo kp it tn fr to vl wr) → lv_has ls 4 [(0, .ref (a 0)), (1, .int x), (2, .int (nI (sumT st x.toInt i))), (3, .int (nI i))] → W p l e (RM 2 25) s m args below meth c H locs 0 0 Q (F0 m 25 ls []) := by
      intro kf
      induction kf with
      | zero => intro i H locs ls hi hm; exact absurd hm (Nat.not_lt_zero _)
      | succ kf ih25 =>
        intro i H locs ls hi hm h hl
        refine lv_iload_n hx hb dX11_status_25 rfl (lv_at hl 3 rfl) ?_
        refine lv_bipush (v := nI 7) hx hb dX11_status_26 (by decide) ?_
        refine n_cge hx hb (by omega) (by omega) (tgt := 59) dX11_status_28 (by decide) (fun c28 => ?_) (fun c28 => ?_)
        ·
          have e9 : i = 7 := by omega
          subst e9
          refine lv_iload_n hx hb dX11_status_59 rfl (lv_at hl 2 rfl) ?_
          exact hret _ _ _ _ _ _ (Or.inl ⟨b8, rfl, rfl⟩) h dX11_status_60
        ·
          refine lv_iload_n hx hb dX11_status_31 rfl (lv_at hl 2 rfl) ?_
          refine lv_iload_n hx hb dX11_status_32 rfl (lv_at hl 1 rfl) ?_
          refine lv_if_lt hx hb (tgt := 41) dX11_status_33 (by decide) (fun c33 => ?_) (fun c33 => ?_)
          ·
            refine lv_aload_n hx hb dX11_status_41 rfl (lv_at hl 0 rfl) ?_
            refine gM_statuses S0 hG h dX11_status_42 ?_
            refine lv_iload_n hx hb dX11_status_45 rfl (lv_at hl 3 rfl) ?_
            refine rM_statuses S0 hG h (by omega) dX11_status_46 ?_
            refine lv_goto (tgt := 51) hx hb dX11_status_47 (by decide) ?_
            refine n_add hx hb dX11_status_51 ?_
            refine tN (t := sumT st x.toInt (i + 1)) (nI_cong (by show _ = sumT st x.toInt i + _; first | rw [if_pos (Or.inl ((clz x).mp c33))] | rw [if_pos (Or.inr ((ceq x (by omega)).mp c38.symm).symm)] | (rw [if_neg (fun z => z.elim (fun z => c33 ((clz x).mpr z)) (fun z => c38 ((ceq x (by omega)).mpr z.symm).symm))]))) ?_
            refine lv_istore_n hx hb dX11_status_52 rfl hl (by decide) rfl (fun ls hl => ?_)
            refine lv_iinc hx hb dX11_status_53 hl (k := 3) rfl (inc_1 _) (by decide) rfl (fun ls hl => ?_)
            refine lv_goto (tgt := 25) hx hb dX11_status_56 (by decide) ?_
            exact ih25 (i + 1) _ _ _ (by omega) (by omega) h (lv_sub hl [2, 3, 1, 0] rfl)
          ·
            refine lv_iload_n hx hb dX11_status_36 rfl (lv_at hl 3 rfl) ?_
            refine lv_iload_n hx hb dX11_status_37 rfl (lv_at hl 1 rfl) ?_
            refine lv_icmp_ne hx hb (tgt := 50) dX11_status_38 (by decide) (fun c38 => ?_) (fun c38 => ?_)
            ·
              refine lv_iconst (v := nI 0) hx hb dX11_status_50 (by decide) ?_
              refine n_add hx hb dX11_status_51 ?_
              refine tN (t := sumT st x.toInt (i + 1)) (nI_cong (by show _ = sumT st x.toInt i + _; first | rw [if_pos (Or.inl ((clz x).mp c33))] | rw [if_pos (Or.inr ((ceq x (by omega)).mp c38.symm).symm)] | (rw [if_neg (fun z => z.elim (fun z => c33 ((clz x).mpr z)) (fun z => c38 ((ceq x (by omega)).mpr z.symm).symm))]))) ?_
              refine lv_istore_n hx hb dX11_status_52 rfl hl (by decide) rfl (fun ls hl => ?_)
              refine lv_iinc hx hb dX11_status_53 hl (k := 3) rfl (inc_1 _) (by decide) rfl (fun ls hl => ?_)
              refine lv_goto (tgt := 25) hx hb dX11_status_56 (by decide) ?_
              exact ih25 (i + 1) _ _ _ (by omega) (by omega) h (lv_sub hl [2, 3, 1, 0] rfl)
            ·
              refine lv_aload_n hx hb dX11_status_41 rfl (lv_at hl 0 rfl) ?_
              refine gM_statuses S0 hG h dX11_status_42 ?_
              refine lv_iload_n hx hb dX11_status_45 rfl (lv_at hl 3 rfl) ?_
              refine rM_statuses S0 hG h (by omega) dX11_status_46 ?_
              refine lv_goto (tgt := 51) hx hb dX11_status_47 (by decide) ?_
              refine n_add hx hb dX11_status_51 ?_
              refine tN (t := sumT st x.toInt (i + 1)) (nI_cong (by show _ = sumT st x.toInt i + _; first | rw [if_pos (Or.inl ((clz x).mp c33))] | rw [if_pos (Or.inr ((ceq x (by omega)).mp c38.symm).symm)] | (rw [if_neg (fun z => z.elim (fun z => c33 ((clz x).mpr z)) (fun z => c38 ((ceq x (by omega)).mpr z.symm).symm))]))) ?_
              refine lv_istore_n hx hb dX11_status_52 rfl hl (by decide) rfl (fun ls hl => ?_)
              refine lv_iinc hx hb dX11_status_53 hl (k := 3) rfl (inc_1 _) (by decide) rfl (fun ls hl => ?_)
              refine lv_goto (tgt := 25) hx hb dX11_status_56 (by decide) ?_
              exact ih25 (i + 1) _ _ _ (by omega) (by omega) h (lv_sub hl [2, 3, 1, 0] rfl)
    exact lp25 _ 0 _ _ _ (by omega) (Nat.lt_succ_self _) h (lv_sub hl [2, 3, 1, 0] rfl)
  ·
    have b8 : ¬ inR x (-1) 6 := by simpa [inR, i2l_toInt] using b8
    refine n_zne hx hb (by decide) (tgt := 21) dX11_status_11 (by decide) (fun q => absurd q (by decide)) (fun _ => ?_)
    refine lv_aload_n hx hb dX11_status_14 rfl (lv_at hl 0 rfl) ?_
    refine lv_ldc (v := -1000000001) hx hb S0.2.2.2.1 (S0.2.2.2.2 _ (rin6 _ (List.mem_of_getElem? (i := 21) rfl))) dX11_status_15 ?_
    refine cV_i0 S0 hG hA h hl.1 kw_RX11_76 kdV_X11_finds (c_X11_finds (k := 0) (by decide) (by decide)) ⟨rfl, rfl, by decide, by decide, Nat.le_refl _, Nat.le_refl _⟩ rfl 11 0 rfl rfl rfl (Nat.le_of_ble_eq_true rfl) dX11_status_17 (fun _ => rfl) (fun r u H locs hq h => ?_)
    obtain rfl := hq
    exact hret _ _ _ _ _ _ (Or.inr ⟨b8, rfl, rfl⟩) h dX11_status_20
set_option maxHeartbeats 4000000 in
set_option maxRecDepth 100000 in
theorem c_X11_narrowed {y : Nat} {v : Int64} (hy : y < 2147483648) : Kl G l yX11_narrowed cX11_narrowed 3 (some .long) (RM 1 0) [.int (nI y), .long v] ([]) (fun u : Unit => []) (fun r _ => r = nar y v) := by
  refine Kl.of (by decide) (Nat.le_of_ble_eq_true rfl) ?_
  intro p e s m args below meth c A Q ls hx hb S0 hG hA h hret hl
  have S0 : CF p m c cX11_narrowed 3 s args RX11 := S0
  have hl : lv_has ls 3 [(0, .int (nI y)), (1, .long v)] := hl
  refine lv_iload_n hx hb dX11_narrowed_0 rfl (lv_at hl 0 rfl) ?_
  refine lv_bipush (v := nI 8) hx hb dX11_narrowed_1 (by decide) ?_
  refine n_cne hx hb (by omega) (by omega) (tgt := 13) dX11_narrowed_3 (by decide) (fun c3 => ?_) (fun c3 => ?_)
  ·
    refine lv_iload_n hx hb dX11_narrowed_13 rfl (lv_at hl 0 rfl) ?_
    refine lv_bipush (v := nI 16) hx hb dX11_narrowed_14 (by decide) ?_
    refine n_cne hx hb (by omega) (by omega) (tgt := 26) dX11_narrowed_16 (by decide) (fun c16 => ?_) (fun c16 => ?_)
    ·
      refine lv_lload_n hx hb dX11_narrowed_26 rfl (lv_at hl 1 rfl) ?_
      exact hret _ () _ _ _ _ (by unfold nar; rw [if_neg c3, if_neg c16]) h dX11_narrowed_27
    ·
      refine lv_lload_n hx hb dX11_narrowed_19 rfl (lv_at hl 1 rfl) ?_
      refine lv_l2i hx hb dX11_narrowed_20 rfl ?_
      refine lv_i2s hx hb dX11_narrowed_21 rfl ?_
      refine lv_i2l hx hb dX11_narrowed_22 rfl ?_
      refine lv_goto (tgt := 27) hx hb dX11_narrowed_23 (by decide) ?_
      exact hret _ () _ _ _ _ (by unfold nar; rw [if_neg c3, if_pos c16]) h dX11_narrowed_27
  ·
    refine lv_lload_n hx hb dX11_narrowed_6 rfl (lv_at hl 1 rfl) ?_
    refine lv_l2i hx hb dX11_narrowed_7 rfl ?_
    refine lv_i2b hx hb dX11_narrowed_8 rfl ?_
    refine lv_i2l hx hb dX11_narrowed_9 rfl ?_
    refine lv_goto (tgt := 27) hx hb dX11_narrowed_10 (by decide) ?_
    exact hret _ () _ _ _ _ (by unfold nar; rw [if_pos c3]) h dX11_narrowed_27
theorem kw_RX11_282 : GoodIn wsL_law (va_wsS RX11 282 yX11_isOne (WS yX11_isOne cX11_isOne 1 (some .boolean))) := gS (rin36 _ (List.mem_of_getElem? (i := 13) rfl)) (rin36 _ (List.mem_of_getElem? (i := 14) rfl)) (rin1 _ (List.mem_of_getElem? (i := 5) rfl)) (rin36 _ (List.mem_of_getElem? (i := 15) rfl))
theorem kdS_X11_isOne : yX11_isOne.cls ≠ "java/lang/invoke/MethodHandle" ∧ yX11_isOne.cls ≠ "java/lang/invoke/VarHandle" ∧ (parseMethodDescriptor yX11_isOne.desc).map (fun d => d.parameters.length) = some 1 := ⟨by decide +kernel, by decide +kernel, by decide +kernel⟩
set_option maxHeartbeats 4000000 in
set_option maxRecDepth 100000 in
theorem c_X11_wrongSheet {x : Int32} (hSh : ShI bi si) : Ki G l yX11_wrongSheet cX11_wrongSheet 2 (some .int) (RM 3 45) [.ref (a 0), .int x] (wM G a f g o d st du tb bi si nu mo kp it tn fr to vl wr) (fun u : Unit => wM G a f g o d st du tb bi si nu mo kp it tn fr to vl wr) (fun r _ => (r = -1000000001 ∧ ¬ inR x 0 3) ∨ (r = -1000000006 ∧ inR x 0 3 ∧ bi (nt x) = 0) ∨ (r = nI 0 ∧ inR x 0 3 ∧ bi (nt x) ≠ 0)) := by
  refine Ki.of (by decide) (Nat.le_of_ble_eq_true rfl) ?_
  intro p e s m args below meth c A Q ls hx hb S0 hG hA h hret hl
  have S0 : CF p m c cX11_wrongSheet 2 s args RX11 := S0
  have hl : lv_has ls 2 [(0, .ref (a 0)), (1, .int x)] := hl
  refine lv_iload_n hx hb dX11_wrongSheet_0 rfl (lv_at hl 1 rfl) ?_
  refine cS_iE S0 hG hA h hl.1 kw_RX11_282 kdS_X11_isOne (c_X11_isOne) ⟨rfl, rfl, by decide, by decide, Nat.le_refl _, Nat.le_refl _⟩ rfl rfl (Nat.le_of_ble_eq_true rfl) dX11_wrongSheet_1 (fun r u H locs hq h => ?_)
  rcases hq with ⟨rfl, b1⟩ | ⟨rfl, b1⟩
  ·
    obtain ⟨xn, rfl, xh, xq⟩ := inR_nat (x := x) ⟨Int.le_trans (by decide) b1.1, b1.2⟩
    have xr := (inR_n xq).mp b1
    have s9 := hSh xn (by omega)
    refine n_zne hx hb (by decide) (tgt := 12) dX11_wrongSheet_4 (by decide) (fun _ => ?_) (fun q => absurd q (by decide))
    refine lv_aload_n hx hb dX11_wrongSheet_12 rfl (lv_at hl 0 rfl) ?_
    refine gM_bitsOf S0 hG h dX11_wrongSheet_13 ?_
    refine lv_iload_n hx hb dX11_wrongSheet_16 rfl (lv_at hl 1 rfl) ?_
    refine rM_bitsOf S0 hG h (by omega) dX11_wrongSheet_17 ?_
    refine n_zne hx hb (by omega) (tgt := 27) dX11_wrongSheet_18 (by decide) (fun c18 => ?_) (fun c18 => ?_)
    ·
      refine lv_iconst (v := nI 0) hx hb dX11_wrongSheet_27 (by decide) ?_
      exact hret _ () _ _ _ _ (Or.inr (Or.inr ⟨rfl, b1, by rw [nt_nI xq]; omega⟩)) h dX11_wrongSheet_28
    ·
      refine lv_ldcw (v := -1000000006) hx hb S0.2.2.2.1 (S0.2.2.2.2 _ (rin37 _ (List.mem_of_getElem? (i := 16) rfl))) dX11_wrongSheet_21 ?_
      refine lv_goto (tgt := 28) hx hb dX11_wrongSheet_24 (by decide) ?_
      exact hret _ () _ _ _ _ (Or.inr (Or.inl ⟨rfl, b1, by rw [nt_nI xq]; exact c18⟩)) h dX11_wrongSheet_28
  ·
    refine n_zne hx hb (by decide) (tgt := 12) dX11_wrongSheet_4 (by decide) (fun q => absurd q (by decide)) (fun _ => ?_)
    refine lv_ldc (v := -1000000001) hx hb S0.2.2.2.1 (S0.2.2.2.2 _ (rin6 _ (List.mem_of_getElem? (i := 21) rfl))) dX11_wrongSheet_7 ?_
    refine lv_goto (tgt := 28) hx hb dX11_wrongSheet_9 (by decide) ?_
    exact hret _ () _ _ _ _ (Or.inl ⟨rfl, b1⟩) h dX11_wrongSheet_28
