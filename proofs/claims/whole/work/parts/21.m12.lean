/-! the reference: the text -/
variable {G : GT} {l : Launch} {a : Nat → Nat} {f g o d st du tb bi si : Nat → Nat} {nu mo : Nat → Int64} {kp it tn fr to vl wr : Nat}
set_option maxHeartbeats 4000000 in
set_option maxRecDepth 100000 in
theorem c_X11_byteAt {k : Nat} (hT : ∀ i, tb i < 256) (htn : tn ≤ 120) (hk : k ≤ 120) : Ki G l yX11_byteAt cX11_byteAt 2 (some .int) (RM 1 0) [.ref (a 0), .int (nI k)] (wM G a f g o d st du tb bi si nu mo kp it tn fr to vl wr) (fun u : Unit => wM G a f g o d st du tb bi si nu mo kp it tn fr to vl wr) (fun r _ => r = byI tb tn k) := by
  refine Ki.of (by decide) (Nat.le_of_ble_eq_true rfl) ?_
  intro p e s m args below meth c A Q ls hx hb S0 hG hA h hret hl
  have S0 : CF p m c cX11_byteAt 2 s args RX11 := S0
  have hl : lv_has ls 2 [(0, .ref (a 0)), (1, .int (nI k))] := hl
  refine lv_iload_n hx hb dX11_byteAt_0 rfl (lv_at hl 1 rfl) ?_
  refine lv_aload_n hx hb dX11_byteAt_1 rfl (lv_at hl 0 rfl) ?_
  refine gM_taped S0 hG h dX11_byteAt_2 ?_
  refine n_cge hx hb (by omega) (by omega) (tgt := 17) dX11_byteAt_5 (by decide) (fun c5 => ?_) (fun c5 => ?_)
  ·
    refine lv_iconst (v := -1) hx hb dX11_byteAt_17 (by decide) ?_
    exact hret _ () _ _ _ _ (byI_out c5).symm h dX11_byteAt_18
  ·
    refine lv_aload_n hx hb dX11_byteAt_8 rfl (lv_at hl 0 rfl) ?_
    refine gM_tape S0 hG h dX11_byteAt_9 ?_
    refine lv_iload_n hx hb dX11_byteAt_12 rfl (lv_at hl 1 rfl) ?_
    refine rM_tape S0 hG h (by omega) dX11_byteAt_13 ?_
    refine lv_goto (tgt := 18) hx hb dX11_byteAt_14 (by decide) ?_
    exact hret _ () _ _ _ _ (byI_in c5).symm h dX11_byteAt_18
theorem kw_RX11_208 : GoodIn wsL_law (wsV RX11 208 RX11 yX11_byteAt (WS yX11_byteAt cX11_byteAt 2 (some .int))) := gV (rin33 _ (List.mem_of_getElem? (i := 7) rfl)) (rin33 _ (List.mem_of_getElem? (i := 8) rfl)) (rin33 _ (List.mem_of_getElem? (i := 9) rfl)) (rin1 _ (List.mem_of_getElem? (i := 5) rfl)) (rin33 _ (List.mem_of_getElem? (i := 10) rfl))
theorem kw_RX11_211 : GoodIn wsL_law (va_wsS RX11 211 yX11_isLetter (WS yX11_isLetter cX11_isLetter 1 (some .boolean))) := gS (rin33 _ (List.mem_of_getElem? (i := 11) rfl)) (rin33 _ (List.mem_of_getElem? (i := 12) rfl)) (rin1 _ (List.mem_of_getElem? (i := 5) rfl)) (rin33 _ (List.mem_of_getElem? (i := 13) rfl))
theorem kw_RX11_214 : GoodIn wsL_law (va_wsS RX11 214 yX11_isDigit (WS yX11_isDigit cX11_isDigit 1 (some .boolean))) := gS (rin33 _ (List.mem_of_getElem? (i := 16) rfl)) (rin33 _ (List.mem_of_getElem? (i := 17) rfl)) (rin1 _ (List.mem_of_getElem? (i := 5) rfl)) (rin33 _ (List.mem_of_getElem? (i := 18) rfl))
theorem kdV_X11_byteAt : yX11_byteAt.cls = RX11 ∧ yX11_byteAt.cls ≠ "java/lang/invoke/MethodHandle" ∧ yX11_byteAt.cls ≠ "java/lang/invoke/VarHandle" ∧ (parseMethodDescriptor yX11_byteAt.desc).map (fun d => d.parameters.length) = some 1 := ⟨rfl, by decide +kernel, by decide +kernel, by decide +kernel⟩
theorem kdS_X11_isLetter : yX11_isLetter.cls ≠ "java/lang/invoke/MethodHandle" ∧ yX11_isLetter.cls ≠ "java/lang/invoke/VarHandle" ∧ (parseMethodDescriptor yX11_isLetter.desc).map (fun d => d.parameters.length) = some 1 := ⟨by decide +kernel, by decide +kernel, by decide +kernel⟩
theorem kdS_X11_isDigit : yX11_isDigit.cls ≠ "java/lang/invoke/MethodHandle" ∧ yX11_isDigit.cls ≠ "java/lang/invoke/VarHandle" ∧ (parseMethodDescriptor yX11_isDigit.desc).map (fun d => d.parameters.length) = some 1 := ⟨by decide +kernel, by decide +kernel, by decide +kernel⟩
set_option maxHeartbeats 4000000 in
set_option maxRecDepth 100000 in
theorem c_X11_token (hT : ∀ i, tb i < 256) (htn : tn ≤ 120) (hto : to ≤ tn) : Kv G l yX11_token cX11_token 3 none (RM 3 45) [.ref (a 0)] (wM G a f g o d st du tb bi si nu mo kp it tn fr to vl wr) (fun u : Unit => wM G a f g o d st du tb bi si nu mo kp it tn (tkS tb tn to) (tkE tb tn (tkS tb tn to)) vl wr) (fun _ => True) := by
  refine Kv.of (by decide) (Nat.le_of_ble_eq_true rfl) ?_
  intro p e s m args below meth c A Q ls hx hb S0 hG hA h hret hl
  have S0 : CF p m c cX11_token 3 s args RX11 := S0
  have hl : lv_has ls 3 [(0, .ref (a 0))] := hl
  have lp8 : ∀ (kf : Nat) (i : Nat) (H : Heap) (locs : List Loc) (ls : Array Slot) (hi : i ≤ tn) (hs : tkS tb tn i = tkS tb tn to), tn - i < kf → WX G A s H locs (wM G a f g o d st du tb bi si nu mo kp it tn i to vl wr) → lv_has ls 3 [(0, .ref (a 0))] → W p l e (RM 3 45) s m args below meth c H locs 0 0 Q (F0 m 8 ls []) := by
    intro kf
    induction kf with
    | zero => intro i H locs ls hi hs hm; exact absurd hm (Nat.not_lt_zero _)
    | succ kf ih8 =>
      intro i H locs ls hi hs hm h hl
      refine lv_aload_n hx hb dX11_token_8 rfl (lv_at hl 0 rfl) ?_
      refine lv_aload_n hx hb dX11_token_9 rfl (lv_at hl 0 rfl) ?_
      refine gM_from S0 hG h dX11_token_10 ?_
      refine cV_i0 S0 hG hA h hl.1 kw_RX11_208 kdV_X11_byteAt (c_X11_byteAt hT htn (by omega)) ⟨rfl, rfl, by decide, by decide, Nat.le_refl _, Nat.le_refl _⟩ rfl 11 0 rfl rfl rfl (Nat.le_of_ble_eq_true rfl) dX11_token_13 (fun _ => rfl) (fun r u H locs hq h => ?_)
      obtain rfl := hq
      refine lv_bipush (v := nI 32) hx hb dX11_token_16 (by decide) ?_
      refine lv_icmp_ne hx hb (tgt := 34) dX11_token_18 (by decide) (fun c18 => ?_) (fun c18 => ?_)
      ·
        have c18 := fun z9 => c18 ((byI_B hT (by decide)).mpr z9)
        have s9 : tkS tb tn i = i := scan_f (fun z9 => c18 (cB_iff.mp z9))
        refine lv_aload_n hx hb dX11_token_34 rfl (lv_at hl 0 rfl) ?_
        refine lv_aload_n hx hb dX11_token_35 rfl (lv_at hl 0 rfl) ?_
        refine gM_from S0 hG h dX11_token_36 ?_
        refine cV_i0 S0 hG hA h hl.1 kw_RX11_208 kdV_X11_byteAt (c_X11_byteAt hT htn (by omega)) ⟨rfl, rfl, by decide, by decide, Nat.le_refl _, Nat.le_refl _⟩ rfl 11 0 rfl rfl rfl (Nat.le_of_ble_eq_true rfl) dX11_token_39 (fun _ => rfl) (fun r u H locs hq h => ?_)
        obtain rfl := hq
        refine cS_iE S0 hG hA h hl.1 kw_RX11_211 kdS_X11_isLetter (c_X11_isLetter) ⟨rfl, rfl, by decide, by decide, Nat.le_refl _, Nat.le_refl _⟩ rfl rfl (Nat.le_of_ble_eq_true rfl) dX11_token_42 (fun r u H locs hq h => ?_)
        rcases hq with ⟨rfl, b42⟩ | ⟨rfl, b42⟩
        ·
          have b42 := cL_iff.mpr ((byI_R hT).mp b42)
          refine lv_istore_n hx hb dX11_token_45 rfl hl (by decide) rfl (fun ls hl => ?_)
          refine lv_aload_n hx hb dX11_token_46 rfl (lv_at hl 1 rfl) ?_
          refine lv_aload_n hx hb dX11_token_47 rfl (lv_at hl 1 rfl) ?_
          refine gM_from S0 hG h dX11_token_48 ?_
          refine cV_i0 S0 hG hA h hl.1 kw_RX11_208 kdV_X11_byteAt (c_X11_byteAt hT htn (by omega)) ⟨rfl, rfl, by decide, by decide, Nat.le_refl _, Nat.le_refl _⟩ rfl 11 0 rfl rfl rfl (Nat.le_of_ble_eq_true rfl) dX11_token_51 (fun _ => rfl) (fun r u H locs hq h => ?_)
          obtain rfl := hq
          refine cS_iE S0 hG hA h hl.1 kw_RX11_214 kdS_X11_isDigit (c_X11_isDigit) ⟨rfl, rfl, by decide, by decide, Nat.le_refl _, Nat.le_refl _⟩ rfl rfl (Nat.le_of_ble_eq_true rfl) dX11_token_54 (fun r u H locs hq h => ?_)
          rcases hq with ⟨rfl, b54⟩ | ⟨rfl, b54⟩
          ·
            have b54 := cD_iff.mpr ((byI_R hT).mp b54)
            refine lv_istore_n hx hb dX11_token_57 rfl hl (by decide) rfl (fun ls hl => ?_)
            refine lv_aload_n hx hb dX11_token_58 rfl (lv_at hl 2 rfl) ?_
            refine lv_aload_n hx hb dX11_token_59 rfl (lv_at hl 2 rfl) ?_
            refine gM_from S0 hG h dX11_token_60 ?_
            refine lv_aload_n hx hb dX11_token_63 rfl (lv_at hl 2 rfl) ?_
            refine gM_taped S0 hG h dX11_token_64 ?_
            refine n_cge hx hb (by omega) (by omega) (tgt := 79) dX11_token_67 (by decide) (fun c67 => ?_) (fun c67 => ?_)
            ·
              refine lv_aload_n hx hb dX11_token_79 rfl (lv_at hl 2 rfl) ?_
              refine gM_from S0 hG h dX11_token_80 ?_
              exact absurd (cL_iff.mp b42).1 (by omega)
            ·
              refine lv_aload_n hx hb dX11_token_70 rfl (lv_at hl 2 rfl) ?_
              refine gM_from S0 hG h dX11_token_71 ?_
              refine lv_iconst (v := nI 1) hx hb dX11_token_74 (by decide) ?_
              refine n_add hx hb dX11_token_75 ?_
              refine lv_goto (tgt := 83) hx hb dX11_token_76 (by decide) ?_
              exact absurd b54 (cL_nD b42)
          ·
            have b54 := fun z9 => b54 ((byI_R hT).mpr (cD_iff.mp z9))
            refine lv_istore_n hx hb dX11_token_57 rfl hl (by decide) rfl (fun ls hl => ?_)
            refine lv_aload_n hx hb dX11_token_58 rfl (lv_at hl 2 rfl) ?_
            refine lv_aload_n hx hb dX11_token_59 rfl (lv_at hl 2 rfl) ?_
            refine gM_from S0 hG h dX11_token_60 ?_
            refine lv_aload_n hx hb dX11_token_63 rfl (lv_at hl 2 rfl) ?_
            refine gM_taped S0 hG h dX11_token_64 ?_
            refine n_cge hx hb (by omega) (by omega) (tgt := 79) dX11_token_67 (by decide) (fun c67 => ?_) (fun c67 => ?_)
            ·
              refine lv_aload_n hx hb dX11_token_79 rfl (lv_at hl 2 rfl) ?_
              refine gM_from S0 hG h dX11_token_80 ?_
              exact absurd (cL_iff.mp b42).1 (by omega)
            ·
              refine lv_aload_n hx hb dX11_token_70 rfl (lv_at hl 2 rfl) ?_
              refine gM_from S0 hG h dX11_token_71 ?_
              refine lv_iconst (v := nI 1) hx hb dX11_token_74 (by decide) ?_
              refine n_add hx hb dX11_token_75 ?_
              refine lv_goto (tgt := 83) hx hb dX11_token_76 (by decide) ?_
              refine pM_to S0 hG h dX11_token_83 (fun H locs h => ?_)
              have lp86 : ∀ (kf : Nat) (j : Nat) (H : Heap) (locs : List Loc) (ls : Array Slot) (hj : j ≤ tn) (hE : scan tn (cL tb tn) j = tkE tb tn i), tn - j < kf → WX G A s H locs (wM G a f g o d st du tb bi si nu mo kp it tn i j vl wr) → lv_has ls 3 [(0, .ref (a 0)), (1, .int (nI 1)), (2, .int (nI 0))] → W p l e (RM 3 45) s m args below meth c H locs 0 0 Q (F0 m 86 ls []) := by
                intro kf
                induction kf with
                | zero => intro j H locs ls hj hE hm; exact absurd hm (Nat.not_lt_zero _)
                | succ kf ih86 =>
                  intro j H locs ls hj hE hm h hl
                  refine lv_iload_n hx hb dX11_token_86 rfl (lv_at hl 1 rfl) ?_
                  refine n_zeq hx hb (by decide) (tgt := 104) dX11_token_87 (by decide) (fun q => absurd q (by decide)) (fun _ => ?_)
                  refine lv_aload_n hx hb dX11_token_90 rfl (lv_at hl 0 rfl) ?_
                  refine lv_aload_n hx hb dX11_token_91 rfl (lv_at hl 0 rfl) ?_
                  refine gM_to S0 hG h dX11_token_92 ?_
                  refine cV_i0 S0 hG hA h hl.1 kw_RX11_208 kdV_X11_byteAt (c_X11_byteAt hT htn (by omega)) ⟨rfl, rfl, by decide, by decide, Nat.le_refl _, Nat.le_refl _⟩ rfl 11 0 rfl rfl rfl (Nat.le_of_ble_eq_true rfl) dX11_token_95 (fun _ => rfl) (fun r u H locs hq h => ?_)
                  obtain rfl := hq
                  refine cS_iE S0 hG hA h hl.1 kw_RX11_211 kdS_X11_isLetter (c_X11_isLetter) ⟨rfl, rfl, by decide, by decide, Nat.le_refl _, Nat.le_refl _⟩ rfl rfl (Nat.le_of_ble_eq_true rfl) dX11_token_98 (fun r u H locs hq h => ?_)
                  rcases hq with ⟨rfl, b98⟩ | ⟨rfl, b98⟩
                  ·
                    have b98 := cL_iff.mpr ((byI_R hT).mp b98)
                    refine n_zne hx hb (by decide) (tgt := 122) dX11_token_101 (by decide) (fun _ => ?_) (fun q => absurd q (by decide))
                    refine lv_aload_n hx hb dX11_token_122 rfl (lv_at hl 0 rfl) ?_
                    refine lv_dup hx hb dX11_token_123 rfl ?_
                    refine gM_to S0 hG h dX11_token_124 ?_
                    refine lv_iconst (v := nI 1) hx hb dX11_token_127 (by decide) ?_
                    refine n_add hx hb dX11_token_128 ?_
                    refine pM_to S0 hG h dX11_token_129 (fun H locs h => ?_)
                    refine lv_goto (tgt := 86) hx hb dX11_token_132 (by decide) ?_
                    exact ih86 (j + 1) _ _ _ (cL_iff.mp b98).1 (by rw [← hE]; exact (scan_t b98 (cL_iff.mp b98).1).symm) (by have := (cL_iff.mp b98).1; omega) h (lv_sub hl [0, 1, 2] rfl)
                  ·
                    have b98 := fun z9 => b98 ((byI_R hT).mpr (cL_iff.mp z9))
                    refine n_zne hx hb (by decide) (tgt := 122) dX11_token_101 (by decide) (fun q => absurd q (by decide)) (fun _ => ?_)
                    refine lv_iload_n hx hb dX11_token_104 rfl (lv_at hl 2 rfl) ?_
                    refine n_zeq hx hb (by decide) (tgt := 135) dX11_token_105 (by decide) (fun _ => ?_) (fun q => absurd q (by decide))
                    have e9 : j = tkE tb tn i := by rw [← hE]; exact (scan_f b98).symm
                    subst e9
                    exact hret () _ _ _ _ trivial (h.eq (by rw [← hs, s9])) dX11_token_135
              exact lp86 _ _ _ _ _ (by omega) (tkE_L b42).symm (Nat.lt_succ_self _) h (lv_sub hl [2, 1, 0] rfl)
        ·
          have b42 := fun z9 => b42 ((byI_R hT).mpr (cL_iff.mp z9))
          refine lv_istore_n hx hb dX11_token_45 rfl hl (by decide) rfl (fun ls hl => ?_)
          refine lv_aload_n hx hb dX11_token_46 rfl (lv_at hl 1 rfl) ?_
          refine lv_aload_n hx hb dX11_token_47 rfl (lv_at hl 1 rfl) ?_
          refine gM_from S0 hG h dX11_token_48 ?_
          refine cV_i0 S0 hG hA h hl.1 kw_RX11_208 kdV_X11_byteAt (c_X11_byteAt hT htn (by omega)) ⟨rfl, rfl, by decide, by decide, Nat.le_refl _, Nat.le_refl _⟩ rfl 11 0 rfl rfl rfl (Nat.le_of_ble_eq_true rfl) dX11_token_51 (fun _ => rfl) (fun r u H locs hq h => ?_)
          obtain rfl := hq
          refine cS_iE S0 hG hA h hl.1 kw_RX11_214 kdS_X11_isDigit (c_X11_isDigit) ⟨rfl, rfl, by decide, by decide, Nat.le_refl _, Nat.le_refl _⟩ rfl rfl (Nat.le_of_ble_eq_true rfl) dX11_token_54 (fun r u H locs hq h => ?_)
          rcases hq with ⟨rfl, b54⟩ | ⟨rfl, b54⟩
          ·
            have b54 := cD_iff.mpr ((byI_R hT).mp b54)
            refine lv_istore_n hx hb dX11_token_57 rfl hl (by decide) rfl (fun ls hl => ?_)
            refine lv_aload_n hx hb dX11_token_58 rfl (lv_at hl 2 rfl) ?_
            refine lv_aload_n hx hb dX11_token_59 rfl (lv_at hl 2 rfl) ?_
            refine gM_from S0 hG h dX11_token_60 ?_
            refine lv_aload_n hx hb dX11_token_63 rfl (lv_at hl 2 rfl) ?_
            refine gM_taped S0 hG h dX11_token_64 ?_
            refine n_cge hx hb (by omega) (by omega) (tgt := 79) dX11_token_67 (by decide) (fun c67 => ?_) (fun c67 => ?_)
            ·
              refine lv_aload_n hx hb dX11_token_79 rfl (lv_at hl 2 rfl) ?_
              refine gM_from S0 hG h dX11_token_80 ?_
              exact absurd (cD_iff.mp b54).1 (by omega)
            ·
              refine lv_aload_n hx hb dX11_token_70 rfl (lv_at hl 2 rfl) ?_
              refine gM_from S0 hG h dX11_token_71 ?_
              refine lv_iconst (v := nI 1) hx hb dX11_token_74 (by decide) ?_
              refine n_add hx hb dX11_token_75 ?_
              refine lv_goto (tgt := 83) hx hb dX11_token_76 (by decide) ?_
              refine pM_to S0 hG h dX11_token_83 (fun H locs h => ?_)
              have lp86 : ∀ (kf : Nat) (j : Nat) (H : Heap) (locs : List Loc) (ls : Array Slot) (hj : j ≤ tn) (hE : scan tn (cD tb tn) j = tkE tb tn i), tn - j < kf → WX G A s H locs (wM G a f g o d st du tb bi si nu mo kp it tn i j vl wr) → lv_has ls 3 [(0, .ref (a 0)), (1, .int (nI 0)), (2, .int (nI 1))] → W p l e (RM 3 45) s m args below meth c H locs 0 0 Q (F0 m 86 ls []) := by
                intro kf
                induction kf with
                | zero => intro j H locs ls hj hE hm; exact absurd hm (Nat.not_lt_zero _)
                | succ kf ih86 =>
                  intro j H locs ls hj hE hm h hl
                  refine lv_iload_n hx hb dX11_token_86 rfl (lv_at hl 1 rfl) ?_
                  refine n_zeq hx hb (by decide) (tgt := 104) dX11_token_87 (by decide) (fun _ => ?_) (fun q => absurd q (by decide))
                  refine lv_iload_n hx hb dX11_token_104 rfl (lv_at hl 2 rfl) ?_
                  refine n_zeq hx hb (by decide) (tgt := 135) dX11_token_105 (by decide) (fun q => absurd q (by decide)) (fun _ => ?_)
                  refine lv_aload_n hx hb dX11_token_108 rfl (lv_at hl 0 rfl) ?_
                  refine lv_aload_n hx hb dX11_token_109 rfl (lv_at hl 0 rfl) ?_
                  refine gM_to S0 hG h dX11_token_110 ?_
                  refine cV_i0 S0 hG hA h hl.1 kw_RX11_208 kdV_X11_byteAt (c_X11_byteAt hT htn (by omega)) ⟨rfl, rfl, by decide, by decide, Nat.le_refl _, Nat.le_refl _⟩ rfl 11 0 rfl rfl rfl (Nat.le_of_ble_eq_true rfl) dX11_token_113 (fun _ => rfl) (fun r u H locs hq h => ?_)
                  obtain rfl := hq
                  refine cS_iE S0 hG hA h hl.1 kw_RX11_214 kdS_X11_isDigit (c_X11_isDigit) ⟨rfl, rfl, by decide, by decide, Nat.le_refl _, Nat.le_refl _⟩ rfl rfl (Nat.le_of_ble_eq_true rfl) dX11_token_116 (fun r u H locs hq h => ?_)
                  rcases hq with ⟨rfl, b116⟩ | ⟨rfl, b116⟩
                  ·
                    have b116 := cD_iff.mpr ((byI_R hT).mp b116)
                    refine n_zeq hx hb (by decide) (tgt := 135) dX11_token_119 (by decide) (fun q => absurd q (by decide)) (fun _ => ?_)
                    refine lv_aload_n hx hb dX11_token_122 rfl (lv_at hl 0 rfl) ?_
                    refine lv_dup hx hb dX11_token_123 rfl ?_
                    refine gM_to S0 hG h dX11_token_124 ?_
                    refine lv_iconst (v := nI 1) hx hb dX11_token_127 (by decide) ?_
                    refine n_add hx hb dX11_token_128 ?_
                    refine pM_to S0 hG h dX11_token_129 (fun H locs h => ?_)
                    refine lv_goto (tgt := 86) hx hb dX11_token_132 (by decide) ?_
                    exact ih86 (j + 1) _ _ _ (cD_iff.mp b116).1 (by rw [← hE]; exact (scan_t b116 (cD_iff.mp b116).1).symm) (by have := (cD_iff.mp b116).1; omega) h (lv_sub hl [0, 1, 2] rfl)
                  ·
                    have b116 := fun z9 => b116 ((byI_R hT).mpr (cD_iff.mp z9))
                    refine n_zeq hx hb (by decide) (tgt := 135) dX11_token_119 (by decide) (fun _ => ?_) (fun q => absurd q (by decide))
                    have e9 : j = tkE tb tn i := by rw [← hE]; exact (scan_f b116).symm
                    subst e9
                    exact hret () _ _ _ _ trivial (h.eq (by rw [← hs, s9])) dX11_token_135
              exact lp86 _ _ _ _ _ (by omega) (tkE_D b54).symm (Nat.lt_succ_self _) h (lv_sub hl [2, 1, 0] rfl)
          ·
            have b54 := fun z9 => b54 ((byI_R hT).mpr (cD_iff.mp z9))
            refine lv_istore_n hx hb dX11_token_57 rfl hl (by decide) rfl (fun ls hl => ?_)
            refine lv_aload_n hx hb dX11_token_58 rfl (lv_at hl 2 rfl) ?_
            refine lv_aload_n hx hb dX11_token_59 rfl (lv_at hl 2 rfl) ?_
            refine gM_from S0 hG h dX11_token_60 ?_
            refine lv_aload_n hx hb dX11_token_63 rfl (lv_at hl 2 rfl) ?_
            refine gM_taped S0 hG h dX11_token_64 ?_
            refine n_cge hx hb (by omega) (by omega) (tgt := 79) dX11_token_67 (by decide) (fun c67 => ?_) (fun c67 => ?_)
            ·
              refine lv_aload_n hx hb dX11_token_79 rfl (lv_at hl 2 rfl) ?_
              refine gM_from S0 hG h dX11_token_80 ?_
              refine pM_to S0 hG h dX11_token_83 (fun H locs h => ?_)
              have lp86 : ∀ (kf : Nat) (j : Nat) (H : Heap) (locs : List Loc) (ls : Array Slot) (hj : j ≤ tn) (hE : j = tkE tb tn i), tn - j < kf → WX G A s H locs (wM G a f g o d st du tb bi si nu mo kp it tn i j vl wr) → lv_has ls 3 [(0, .ref (a 0)), (1, .int (nI 0)), (2, .int (nI 0))] → W p l e (RM 3 45) s m args below meth c H locs 0 0 Q (F0 m 86 ls []) := by
                intro kf
                induction kf with
                | zero => intro j H locs ls hj hE hm; exact absurd hm (Nat.not_lt_zero _)
                | succ kf ih86 =>
                  intro j H locs ls hj hE hm h hl
                  refine lv_iload_n hx hb dX11_token_86 rfl (lv_at hl 1 rfl) ?_
                  refine n_zeq hx hb (by decide) (tgt := 104) dX11_token_87 (by decide) (fun _ => ?_) (fun q => absurd q (by decide))
                  refine lv_iload_n hx hb dX11_token_104 rfl (lv_at hl 2 rfl) ?_
                  refine n_zeq hx hb (by decide) (tgt := 135) dX11_token_105 (by decide) (fun _ => ?_) (fun q => absurd q (by decide))
                  have e9 : j = tkE tb tn i := by exact hE
                  subst e9
                  exact hret () _ _ _ _ trivial (h.eq (by rw [← hs, s9])) dX11_token_135
              exact lp86 _ _ _ _ _ (by omega) (tkE_0 c67).symm (Nat.lt_succ_self _) h (lv_sub hl [2, 1, 0] rfl)
            ·
              refine lv_aload_n hx hb dX11_token_70 rfl (lv_at hl 2 rfl) ?_
              refine gM_from S0 hG h dX11_token_71 ?_
              refine lv_iconst (v := nI 1) hx hb dX11_token_74 (by decide) ?_
              refine n_add hx hb dX11_token_75 ?_
              refine lv_goto (tgt := 83) hx hb dX11_token_76 (by decide) ?_
              refine pM_to S0 hG h dX11_token_83 (fun H locs h => ?_)
              have lp86 : ∀ (kf : Nat) (j : Nat) (H : Heap) (locs : List Loc) (ls : Array Slot) (hj : j ≤ tn) (hE : j = tkE tb tn i), tn - j < kf → WX G A s H locs (wM G a f g o d st du tb bi si nu mo kp it tn i j vl wr) → lv_has ls 3 [(0, .ref (a 0)), (1, .int (nI 0)), (2, .int (nI 0))] → W p l e (RM 3 45) s m args below meth c H locs 0 0 Q (F0 m 86 ls []) := by
                intro kf
                induction kf with
                | zero => intro j H locs ls hj hE hm; exact absurd hm (Nat.not_lt_zero _)
                | succ kf ih86 =>
                  intro j H locs ls hj hE hm h hl
                  refine lv_iload_n hx hb dX11_token_86 rfl (lv_at hl 1 rfl) ?_
                  refine n_zeq hx hb (by decide) (tgt := 104) dX11_token_87 (by decide) (fun _ => ?_) (fun q => absurd q (by decide))
                  refine lv_iload_n hx hb dX11_token_104 rfl (lv_at hl 2 rfl) ?_
                  refine n_zeq hx hb (by decide) (tgt := 135) dX11_token_105 (by decide) (fun _ => ?_) (fun q => absurd q (by decide))
                  have e9 : j = tkE tb tn i := by exact hE
                  subst e9
                  exact hret () _ _ _ _ trivial (h.eq (by rw [← hs, s9])) dX11_token_135
              exact lp86 _ _ _ _ _ (by omega) (tkE_1 c67 b42 b54).symm (Nat.lt_succ_self _) h (lv_sub hl [2, 1, 0] rfl)
      ·
        have c18 := (byI_B hT (by decide)).mp c18
        refine lv_aload_n hx hb dX11_token_21 rfl (lv_at hl 0 rfl) ?_
        refine lv_dup hx hb dX11_token_22 rfl ?_
        refine gM_from S0 hG h dX11_token_23 ?_
        refine lv_iconst (v := nI 1) hx hb dX11_token_26 (by decide) ?_
        refine n_add hx hb dX11_token_27 ?_
        refine pM_from S0 hG h dX11_token_28 (fun H locs h => ?_)
        refine lv_goto (tgt := 8) hx hb dX11_token_31 (by decide) ?_
        exact ih8 (i + 1) _ _ _ (by omega) (by rw [← hs]; exact (scan_t (cB_iff.mpr c18) c18.1).symm) (by omega) h (lv_sub hl [0] rfl)
  refine lv_aload_n hx hb dX11_token_0 rfl (lv_at hl 0 rfl) ?_
  refine lv_aload_n hx hb dX11_token_1 rfl (lv_at hl 0 rfl) ?_
  refine gM_to S0 hG h dX11_token_2 ?_
  refine pM_from S0 hG h dX11_token_5 (fun H locs h => ?_)
  exact lp8 _ to _ _ _ hto rfl (Nat.lt_succ_self _) h (lv_sub hl [0] rfl)

theorem kw_RX11_221 : GoodIn wsL_law (wsV RX11 221 RX11 yX11_token (WS yX11_token cX11_token 3 none)) := gV (rin33 _ (List.mem_of_getElem? (i := 3) rfl)) (rin33 _ (List.mem_of_getElem? (i := 4) rfl)) (rin33 _ (List.mem_of_getElem? (i := 5) rfl)) (rin1 _ (List.mem_of_getElem? (i := 5) rfl)) (rin33 _ (List.mem_of_getElem? (i := 6) rfl))
theorem kdV_X11_token : yX11_token.cls = RX11 ∧ yX11_token.cls ≠ "java/lang/invoke/MethodHandle" ∧ yX11_token.cls ≠ "java/lang/invoke/VarHandle" ∧ (parseMethodDescriptor yX11_token.desc).map (fun d => d.parameters.length) = some 0 := ⟨rfl, by decide +kernel, by decide +kernel, by decide +kernel⟩
set_option maxHeartbeats 4000000 in
set_option maxRecDepth 100000 in
theorem c_X11_mustT (hT : ∀ i, tb i < 256) (htn : tn ≤ 120) (hfr : fr ≤ tn) (hw : wr = 0) (hto : to = tkE tb tn fr) : Kv G l yX11_must cX11_must 2 none (RM 4 67) [.ref (a 0), .int (nI 1)] (wM G a f g o d st du tb bi si nu mo kp it tn fr to vl wr) (fun u : Unit => wM G a f g o d st du tb bi si nu mo kp it tn (nx tb tn fr) (tkE tb tn (nx tb tn fr)) vl 0) (fun _ => True) := by
  refine Kv.of (by decide) (Nat.le_of_ble_eq_true rfl) ?_
  intro p e s m args below meth c A Q ls hx hb S0 hG hA h hret hl
  have S0 : CF p m c cX11_must 2 s args RX11 := S0
  have hl : lv_has ls 2 [(0, .ref (a 0)), (1, .int (nI 1))] := hl
  subst hw
  subst hto
  have t9 := tkE_le (tb := tb) hfr
  refine lv_aload_n hx hb dX11_must_0 rfl (lv_at hl 0 rfl) ?_
  refine lv_aload_n hx hb dX11_must_1 rfl (lv_at hl 0 rfl) ?_
  refine gM_isWrong S0 hG h dX11_must_2 ?_
  refine n_zne hx hb (by decide) (tgt := 12) dX11_must_5 (by decide) (fun c5 => absurd c5 (by decide)) (fun c5 => ?_)
  refine lv_iload_n hx hb dX11_must_8 rfl (lv_at hl 1 rfl) ?_
  refine n_zne hx hb (by decide) (tgt := 16) dX11_must_9 (by decide) (fun _ => ?_) (fun q => absurd q (by decide))
  refine lv_iconst (v := nI 0) hx hb dX11_must_16 (by decide) ?_
  refine pM_isWrong S0 hG h (by decide) dX11_must_17 (fun H locs h => ?_)
  refine lv_aload_n hx hb dX11_must_20 rfl (lv_at hl 0 rfl) ?_
  refine gM_isWrong S0 hG h dX11_must_21 ?_
  refine n_zne hx hb (by decide) (tgt := 31) dX11_must_24 (by decide) (fun c24 => absurd c24 (by decide)) (fun c24 => ?_)
  refine lv_aload_n hx hb dX11_must_27 rfl (lv_at hl 0 rfl) ?_
  refine cV_v0 S0 hG hA h hl.1 kw_RX11_221 kdV_X11_token (c_X11_token hT htn (by omega)) ⟨rfl, rfl, by decide, by decide, Nat.le_refl _, Nat.le_refl _⟩ rfl 11 0 rfl rfl rfl (Nat.le_of_ble_eq_true rfl) dX11_must_28 (fun _ => rfl) (fun u H locs hq h => ?_)
  exact hret () _ _ _ _ trivial h dX11_must_31
set_option maxHeartbeats 4000000 in
set_option maxRecDepth 100000 in
theorem c_X11_mustF {b : Nat} (hb1 : b ≤ 1) (hw1 : wr ≤ 1) (hw : 0 < wr ∨ b = 0) : Kv G l yX11_must cX11_must 2 none (RM 4 67) [.ref (a 0), .int (nI b)] (wM G a f g o d st du tb bi si nu mo kp it tn fr to vl wr) (fun u : Unit => wM G a f g o d st du tb bi si nu mo kp it tn fr to vl 1) (fun _ => True) := by
  refine Kv.of (by decide) (Nat.le_of_ble_eq_true rfl) ?_
  intro p e s m args below meth c A Q ls hx hb S0 hG hA h hret hl
  have S0 : CF p m c cX11_must 2 s args RX11 := S0
  have hl : lv_has ls 2 [(0, .ref (a 0)), (1, .int (nI b))] := hl
  refine lv_aload_n hx hb dX11_must_0 rfl (lv_at hl 0 rfl) ?_
  refine lv_aload_n hx hb dX11_must_1 rfl (lv_at hl 0 rfl) ?_
  refine gM_isWrong S0 hG h dX11_must_2 ?_
  refine n_zne hx hb (by omega) (tgt := 12) dX11_must_5 (by decide) (fun c5 => ?_) (fun c5 => ?_)
  ·
    refine lv_iconst (v := nI 1) hx hb dX11_must_12 (by decide) ?_
    refine lv_goto (tgt := 17) hx hb dX11_must_13 (by decide) ?_
    refine pM_isWrong S0 hG h (by decide) dX11_must_17 (fun H locs h => ?_)
    refine lv_aload_n hx hb dX11_must_20 rfl (lv_at hl 0 rfl) ?_
    refine gM_isWrong S0 hG h dX11_must_21 ?_
    refine n_zne hx hb (by omega) (tgt := 31) dX11_must_24 (by decide) (fun c24 => ?_) (fun c24 => absurd c24 (by decide))
    exact hret () _ _ _ _ trivial h dX11_must_31
  ·
    refine lv_iload_n hx hb dX11_must_8 rfl (lv_at hl 1 rfl) ?_
    refine n_zne hx hb (by omega) (tgt := 16) dX11_must_9 (by decide) (fun c9 => absurd c9 (by omega)) (fun c9 => ?_)
    refine lv_iconst (v := nI 1) hx hb dX11_must_12 (by decide) ?_
    refine lv_goto (tgt := 17) hx hb dX11_must_13 (by decide) ?_
    refine pM_isWrong S0 hG h (by decide) dX11_must_17 (fun H locs h => ?_)
    refine lv_aload_n hx hb dX11_must_20 rfl (lv_at hl 0 rfl) ?_
    refine gM_isWrong S0 hG h dX11_must_21 ?_
    refine n_zne hx hb (by omega) (tgt := 31) dX11_must_24 (by decide) (fun c24 => ?_) (fun c24 => absurd c24 (by decide))
    exact hret () _ _ _ _ trivial h dX11_must_31
def hI (tb : Row) (s : Nat) : Nat → Int64
  | 0 => 0
  | n + 1 => if hI tb s n ≤ 36028797018963967 then 32 * hI tb s n + (nI (tb (s + n)) - nI 96).toInt64 else hI tb s n
theorem hI_N (tb : Row) (s : Nat) : ∀ n, (∀ i, i < n → 97 ≤ tb (s + i) ∧ tb (s + i) ≤ 122) → hI tb s n = lN (hN tb s n)
  | 0, _ => rfl
  | n + 1, h => by
    have h1 := h n (by omega)
    have h2 := hN_lt tb s n (fun i hi => h i (by omega))
    have ih := hI_N tb s n (fun i hi => h i (by omega))
    show (if hI tb s n ≤ 36028797018963967 then 32 * hI tb s n + (nI (tb (s + n)) - nI 96).toInt64 else hI tb s n) = lN (if 36028797018963967 < hN tb s n then hN tb s n else 32 * hN tb s n + (tb (s + n) - 96))
    rw [ih, pk_sub (by omega), nI_l (by omega)]
    have e1 : (36028797018963967 : Int64) = lN 36028797018963967 := rfl
    have e2 : (32 : Int64) = lN 32 := rfl
    have i1 := pk_lLE (a := hN tb s n) (b := 36028797018963967) (by omega) (by omega)
    rw [e1, e2]
    by_cases q : hN tb s n ≤ 36028797018963967
    · rw [if_pos (i1.mpr q), if_neg (by omega), lN_mul, lN_add]
    · rw [if_neg (fun z => q (i1.mp z)), if_pos (by omega)]
/-- the word at s as a number; 0: none -/
def wV (tb : Row) (tn s : Nat) : Int64 := if cL tb tn s = true then hI tb s (tkE tb tn s - s) else 0
theorem wV_iff {tb : Row} {tn s : Nat} (w : List Nat) (hw : ∀ x ∈ w, 97 ≤ x ∧ x ≤ 122) (h0 : 0 < hW w) (h1 : hW w ≤ 36028797018963967) {c : Int64} (hc : c = lN (hW w)) : wV tb tn s = c ↔ isW tb tn w s := by
  subst hc
  unfold wV isW
  by_cases q : cL tb tn s = true
  · rw [if_pos q]
    have hl : ∀ i, i < tkE tb tn s - s → 97 ≤ tb (s + i) ∧ tb (s + i) ≤ 122 := fun i hi => tk_letters q (by omega) (by omega)
    rw [hI_N tb s _ hl, pk_lEQ (Nat.lt_trans (hN_lt tb s _ hl) (by decide)) (by omega), hN_iff tb s w _ hl hw h1]
    exact ⟨fun z => ⟨q, z⟩, fun z => z.2⟩
  · rw [if_neg q]
    exact ⟨fun z => absurd ((pk_lEQ (a := 0) (by omega) (by omega)).mp z) (by omega), fun z => absurd z.1 q⟩
set_option maxHeartbeats 4000000 in
set_option maxRecDepth 100000 in
theorem c_X11_word (hT : ∀ i, tb i < 256) (htn : tn ≤ 120) (hfr : fr ≤ tn) (hw : wr = 0) (hto : to = tkE tb tn fr) : Kl G l yX11_word cX11_word 4 (some .long) (RM 3 45) [.ref (a 0)] (wM G a f g o d st du tb bi si nu mo kp it tn fr to vl wr) (fun u : Unit => wM G a f g o d st du tb bi si nu mo kp it tn fr to vl wr) (fun r _ => r = wV tb tn fr) := by
  refine Kl.of (by decide) (Nat.le_of_ble_eq_true rfl) ?_
  intro p e s m args below meth c A Q ls hx hb S0 hG hA h hret hl
  have S0 : CF p m c cX11_word 4 s args RX11 := S0
  have hl : lv_has ls 4 [(0, .ref (a 0))] := hl
  subst hto
  have t9 := tkE_le (tb := tb) hfr
  have lp7 : ∀ (kf : Nat) (k : Nat) (H : Heap) (locs : List Loc) (ls : Array Slot) (hk : fr ≤ k) (hk2 : k ≤ tkE tb tn fr), tkE tb tn fr - k < kf → WX G A s H locs (wM G a f g o d st du tb bi si nu mo kp it tn fr (tkE tb tn fr) vl wr) → lv_has ls 4 [(0, .ref (a 0)), (1, .long (hI tb fr (k - fr))), (3, .int (nI k))] → W p l e (RM 3 45) s m args below meth c H locs 0 0 Q (F0 m 7 ls []) := by
    intro kf
    induction kf with
    | zero => intro k H locs ls hk hk2 hm; exact absurd hm (Nat.not_lt_zero _)
    | succ kf ih7 =>
      intro k H locs ls hk hk2 hm h hl
      refine lv_iload_n hx hb dX11_word_7 rfl (lv_at hl 2 rfl) ?_
      refine lv_aload_n hx hb dX11_word_8 rfl (lv_at hl 0 rfl) ?_
      refine gM_to S0 hG h dX11_word_9 ?_
      refine n_cge hx hb (by omega) (by omega) (tgt := 50) dX11_word_12 (by decide) (fun c12 => ?_) (fun c12 => ?_)
      ·
        refine lv_aload_n hx hb dX11_word_50 rfl (lv_at hl 0 rfl) ?_
        refine gM_isWrong S0 hG h dX11_word_51 ?_
        refine n_zne hx hb (by omega) (tgt := 71) dX11_word_54 (by decide) (fun c54 => absurd c54 (by omega)) (fun c54 => ?_)
        refine lv_aload_n hx hb dX11_word_57 rfl (lv_at hl 0 rfl) ?_
        refine lv_aload_n hx hb dX11_word_58 rfl (lv_at hl 0 rfl) ?_
        refine gM_from S0 hG h dX11_word_59 ?_
        refine cV_i0 S0 hG hA h hl.1 kw_RX11_208 kdV_X11_byteAt (c_X11_byteAt hT htn (by omega)) ⟨rfl, rfl, by decide, by decide, Nat.le_refl _, Nat.le_refl _⟩ rfl 11 0 rfl rfl rfl (Nat.le_of_ble_eq_true rfl) dX11_word_62 (fun _ => rfl) (fun r u H locs hq h => ?_)
        obtain rfl := hq
        refine cS_iE S0 hG hA h hl.1 kw_RX11_211 kdS_X11_isLetter (c_X11_isLetter) ⟨rfl, rfl, by decide, by decide, Nat.le_refl _, Nat.le_refl _⟩ rfl rfl (Nat.le_of_ble_eq_true rfl) dX11_word_65 (fun r u H locs hq h => ?_)
        rcases hq with ⟨rfl, b65⟩ | ⟨rfl, b65⟩
        ·
          have b65 := cL_iff.mpr ((byI_R hT).mp b65)
          refine n_zne hx hb (by decide) (tgt := 75) dX11_word_68 (by decide) (fun _ => ?_) (fun q => absurd q (by decide))
          refine lv_lload_n hx hb dX11_word_75 rfl (lv_at hl 1 rfl) ?_
          have e9 : k = tkE tb tn fr := by omega
          subst e9
          exact hret _ () _ _ _ _ (by unfold wV; rw [if_pos b65]) h dX11_word_76
        ·
          have b65 := fun z9 => b65 ((byI_R hT).mpr (cL_iff.mp z9))
          refine n_zne hx hb (by decide) (tgt := 75) dX11_word_68 (by decide) (fun q => absurd q (by decide)) (fun _ => ?_)
          refine lv_lconst (v := 0) hx hb dX11_word_71 (by decide) ?_
          refine lv_goto (tgt := 76) hx hb dX11_word_72 (by decide) ?_
          have e9 : k = tkE tb tn fr := by omega
          subst e9
          exact hret _ () _ _ _ _ (by unfold wV; rw [if_neg b65]) h dX11_word_76
      ·
        refine lv_lload_n hx hb dX11_word_15 rfl (lv_at hl 1 rfl) ?_
        refine lv_ldc2 (v := 36028797018963967) hx hb S0.2.2.2.1 (S0.2.2.2.2 _ (rin34 _ (List.mem_of_getElem? (i := 17) rfl))) dX11_word_16 ?_
        refine W.lcmp hx hb dX11_word_19 ?_
        refine lv_if_le hx hb (tgt := 27) dX11_word_20 (by decide) (fun c20 => ?_) (fun c20 => ?_)
        ·
          refine lv_ldc2 (v := 32) hx hb S0.2.2.2.1 (S0.2.2.2.2 _ (rin34 _ (List.mem_of_getElem? (i := 18) rfl))) dX11_word_27 ?_
          refine lv_lload_n hx hb dX11_word_30 rfl (lv_at hl 1 rfl) ?_
          refine lv_lmul hx hb dX11_word_31 ?_
          refine lv_aload_n hx hb dX11_word_32 rfl (lv_at hl 0 rfl) ?_
          refine gM_tape S0 hG h dX11_word_33 ?_
          refine lv_iload_n hx hb dX11_word_36 rfl (lv_at hl 2 rfl) ?_
          refine rM_tape S0 hG h (by omega) dX11_word_37 ?_
          refine lv_bipush (v := nI 96) hx hb dX11_word_38 (by decide) ?_
          refine lv_isub hx hb dX11_word_40 ?_
          refine lv_i2l hx hb dX11_word_41 rfl ?_
          refine lv_ladd hx hb dX11_word_42 ?_
          have e8 : fr + (k - fr) = k := by omega
          have e7 : k + 1 - fr = (k - fr) + 1 := by omega
          refine tL (hI tb fr (k + 1 - fr)) (by rw [e7]; exact (by show _ = (if hI tb fr (k - fr) ≤ 36028797018963967 then _ else _); rw [if_pos ((lg_cmp_le _ _).mp c20), e8])) ?_
          refine lv_lstore_n hx hb dX11_word_43 rfl hl (by decide) rfl (fun ls hl => ?_)
          refine lv_iinc hx hb dX11_word_44 hl (k := 2) rfl (inc_1 _) (by decide) rfl (fun ls hl => ?_)
          refine lv_goto (tgt := 7) hx hb dX11_word_47 (by decide) ?_
          exact ih7 (k + 1) _ _ _ (by omega) (by omega) (by omega) h (lv_sub hl [2, 1, 0] rfl)
        ·
          refine lv_lload_n hx hb dX11_word_23 rfl (lv_at hl 1 rfl) ?_
          refine lv_goto (tgt := 43) hx hb dX11_word_24 (by decide) ?_
          have e8 : fr + (k - fr) = k := by omega
          have e7 : k + 1 - fr = (k - fr) + 1 := by omega
          refine tL (hI tb fr (k + 1 - fr)) (by rw [e7]; exact (by show _ = (if hI tb fr (k - fr) ≤ 36028797018963967 then _ else _); rw [if_neg (fun z9 => c20 ((lg_cmp_le _ _).mpr z9))])) ?_
          refine lv_lstore_n hx hb dX11_word_43 rfl hl (by decide) rfl (fun ls hl => ?_)
          refine lv_iinc hx hb dX11_word_44 hl (k := 2) rfl (inc_1 _) (by decide) rfl (fun ls hl => ?_)
          refine lv_goto (tgt := 7) hx hb dX11_word_47 (by decide) ?_
          exact ih7 (k + 1) _ _ _ (by omega) (by omega) (by omega) h (lv_sub hl [2, 1, 0] rfl)
  refine lv_lconst (v := 0) hx hb dX11_word_0 (by decide) ?_
  refine tL (hI tb fr (fr - fr)) (by rw [Nat.sub_self]; rfl) ?_
  refine lv_lstore_n hx hb dX11_word_1 rfl hl (by decide) rfl (fun ls hl => ?_)
  refine lv_aload_n hx hb dX11_word_2 rfl (lv_at hl 1 rfl) ?_
  refine gM_from S0 hG h dX11_word_3 ?_
  refine lv_istore_n hx hb dX11_word_6 rfl hl (by decide) rfl (fun ls hl => ?_)
  exact lp7 _ fr _ _ _ (Nat.le_refl _) tkE_ge (Nat.lt_succ_self _) h (lv_sub hl [2, 1, 0] rfl)
theorem kw_RX11_231 : GoodIn wsL_law (wsV RX11 231 RX11 yX11_must (WS yX11_must cX11_must 2 none)) := gV (rin35 _ (List.mem_of_getElem? (i := 1) rfl)) (rin35 _ (List.mem_of_getElem? (i := 2) rfl)) (rin35 _ (List.mem_of_getElem? (i := 3) rfl)) (rin1 _ (List.mem_of_getElem? (i := 5) rfl)) (rin35 _ (List.mem_of_getElem? (i := 4) rfl))
theorem kdV_X11_must : yX11_must.cls = RX11 ∧ yX11_must.cls ≠ "java/lang/invoke/MethodHandle" ∧ yX11_must.cls ≠ "java/lang/invoke/VarHandle" ∧ (parseMethodDescriptor yX11_must.desc).map (fun d => d.parameters.length) = some 1 := ⟨rfl, by decide +kernel, by decide +kernel, by decide +kernel⟩
set_option maxHeartbeats 4000000 in
set_option maxRecDepth 100000 in
theorem c_X11_number {lo hi : Nat} (hT : ∀ i, tb i < 256) (htn : tn ≤ 120) (hfr : fr ≤ tn) (hw : wr = 0) (hto : to = tkE tb tn fr) (hlo : lo ≤ 99) (hhi : hi ≤ 99) : Kv G l yX11_number cX11_number 6 none (RM 5 88) [.ref (a 0), .int (nI lo), .int (nI hi)] (wM G a f g o d st du tb bi si nu mo kp it tn fr to vl wr) (fun u : Nat × Nat × Nat × Nat => wM G a f g o d st du tb bi si nu mo kp it tn u.1 u.2.1 u.2.2.1 u.2.2.2) (fun u => (nOk tb tn lo hi fr ∧ u = (nx tb tn fr, tkE tb tn (nx tb tn fr), val tb tn fr, 0)) ∨ (¬ nOk tb tn lo hi fr ∧ ∃ z, u = (fr, tkE tb tn fr, z, 1))) := by
  refine Kv.of (by decide) (Nat.le_of_ble_eq_true rfl) ?_
  intro p e s m args below meth c A Q ls hx hb S0 hG hA h hret hl
  have S0 : CF p m c cX11_number 6 s args RX11 := S0
  have hl : lv_has ls 6 [(0, .ref (a 0)), (1, .int (nI lo)), (2, .int (nI hi))] := hl
  subst hto
  subst hw
  have t9 := tkE_le (tb := tb) hfr
  have l9 : lo < 2147483648 := by omega
  have h9 : hi < 2147483648 := by omega
  refine lv_aload_n hx hb dX11_number_0 rfl (lv_at hl 0 rfl) ?_
  refine gM_isWrong S0 hG h dX11_number_1 ?_
  refine n_zeq hx hb (by omega) (tgt := 8) dX11_number_4 (by decide) (fun c4 => ?_) (fun c4 => absurd c4 (by omega))
  refine lv_aload_n hx hb dX11_number_8 rfl (lv_at hl 0 rfl) ?_
  refine lv_aload_n hx hb dX11_number_9 rfl (lv_at hl 0 rfl) ?_
  refine gM_from S0 hG h dX11_number_10 ?_
  refine cV_i0 S0 hG hA h hl.1 kw_RX11_208 kdV_X11_byteAt (c_X11_byteAt hT htn (by omega)) ⟨rfl, rfl, by decide, by decide, Nat.le_refl _, Nat.le_refl _⟩ rfl 11 0 rfl rfl rfl (Nat.le_of_ble_eq_true rfl) dX11_number_13 (fun _ => rfl) (fun r u H locs hq h => ?_)
  obtain rfl := hq
  refine cS_iE S0 hG hA h hl.1 kw_RX11_214 kdS_X11_isDigit (c_X11_isDigit) ⟨rfl, rfl, by decide, by decide, Nat.le_refl _, Nat.le_refl _⟩ rfl rfl (Nat.le_of_ble_eq_true rfl) dX11_number_16 (fun r u H locs hq h => ?_)
  rcases hq with ⟨rfl, b16⟩ | ⟨rfl, b16⟩
  ·
    have b16 := cD_iff.mpr ((byI_R hT).mp b16)
    refine lv_istore_n hx hb dX11_number_19 rfl hl (by decide) rfl (fun ls hl => ?_)
    refine lv_iconst (v := nI 0) hx hb dX11_number_20 (by decide) ?_
    refine tN (t := numM tb fr (fr - fr)) (by rw [Nat.sub_self]; rfl) ?_
    refine lv_istore hx hb dX11_number_21 hl (by decide) rfl (fun ls hl => ?_)
    refine lv_aload_n hx hb dX11_number_23 rfl (lv_at hl 2 rfl) ?_
    refine gM_from S0 hG h dX11_number_24 ?_
    refine lv_istore hx hb dX11_number_27 hl (by decide) rfl (fun ls hl => ?_)
    have lp29 : ∀ (kf : Nat) (k : Nat) (H : Heap) (locs : List Loc) (ls : Array Slot) (hk : fr ≤ k) (hk2 : k ≤ tkE tb tn fr), tkE tb tn fr - k < kf → WX G A s H locs (wM G a f g o d st du tb bi si nu mo kp it tn fr (tkE tb tn fr) vl 0) → lv_has ls 6 [(0, .ref (a 0)), (1, .int (nI lo)), (2, .int (nI hi)), (3, .int (nI 1)), (4, .int (nI (numM tb fr (k - fr)))), (5, .int (nI k))] → W p l e (RM 5 88) s m args below meth c H locs 0 0 Q (F0 m 29 ls []) := by
      intro kf
      induction kf with
      | zero => intro k H locs ls hk hk2 hm; exact absurd hm (Nat.not_lt_zero _)
      | succ kf ih29 =>
        intro k H locs ls hk hk2 hm h hl
        refine lv_iload hx hb dX11_number_29 (lv_at hl 5 rfl) ?_
        refine lv_aload_n hx hb dX11_number_31 rfl (lv_at hl 0 rfl) ?_
        refine gM_to S0 hG h dX11_number_32 ?_
        refine n_cge hx hb (by omega) (by omega) (tgt := 79) dX11_number_35 (by decide) (fun c35 => ?_) (fun c35 => ?_)
        ·
          have e9 : k = tkE tb tn fr := by omega
          subst e9
          have v9 := val_M b16
          refine lv_aload_n hx hb dX11_number_79 rfl (lv_at hl 0 rfl) ?_
          refine lv_iload hx hb dX11_number_80 (lv_at hl 4 rfl) ?_
          refine pM_value S0 hG h dX11_number_82 (fun H locs h => ?_)
          refine lv_aload_n hx hb dX11_number_85 rfl (lv_at hl 0 rfl) ?_
          refine lv_iload_n hx hb dX11_number_86 rfl (lv_at hl 3 rfl) ?_
          refine n_zeq hx hb (by decide) (tgt := 107) dX11_number_87 (by decide) (fun q => absurd q (by decide)) (fun _ => ?_)
          refine lv_iload hx hb dX11_number_90 (lv_at hl 4 rfl) ?_
          refine lv_i2l hx hb dX11_number_92 rfl ?_
          refine lv_iload_n hx hb dX11_number_93 rfl (lv_at hl 1 rfl) ?_
          refine lv_i2l hx hb dX11_number_94 rfl ?_
          refine lv_iload_n hx hb dX11_number_95 rfl (lv_at hl 2 rfl) ?_
          refine lv_i2l hx hb dX11_number_96 rfl ?_
          refine cS_iE S0 hG hA h hl.1 kw_RX11_49 kdS_X11_in (c_X11_in) ⟨rfl, rfl, by decide, by decide, Nat.le_refl _, Nat.le_refl _⟩ rfl rfl (Nat.le_of_ble_eq_true rfl) dX11_number_97 (fun r u H locs hq h => ?_)
          rcases hq with ⟨rfl, b97⟩ | ⟨rfl, b97⟩
          ·
            simp only [i2l_toInt, nI_toInt l9, nI_toInt h9, nI_toInt (show numM tb fr (tkE tb tn fr - fr) < 2147483648 by omega)] at b97
            refine n_zeq hx hb (by decide) (tgt := 107) dX11_number_100 (by decide) (fun q => absurd q (by decide)) (fun _ => ?_)
            refine lv_iconst (v := nI 1) hx hb dX11_number_103 (by decide) ?_
            refine lv_goto (tgt := 108) hx hb dX11_number_104 (by decide) ?_
            refine cV_v0 S0 hG hA h hl.1 kw_RX11_231 kdV_X11_must (c_X11_mustT hT htn hfr rfl rfl) ⟨rfl, rfl, by decide, by decide, Nat.le_refl _, Nat.le_refl _⟩ rfl 11 0 rfl rfl rfl (Nat.le_of_ble_eq_true rfl) dX11_number_108 (fun _ => rfl) (fun u H locs hq h => ?_)
            exact hret (_, _, _, _) _ _ _ _ (Or.inl ⟨⟨b16, by omega, by omega⟩, by rw [show val tb tn fr = numM tb fr (tkE tb tn fr - fr) by omega]; rfl⟩) h dX11_number_111
          ·
            simp only [i2l_toInt, nI_toInt l9, nI_toInt h9, nI_toInt (show numM tb fr (tkE tb tn fr - fr) < 2147483648 by omega)] at b97
            refine n_zeq hx hb (by decide) (tgt := 107) dX11_number_100 (by decide) (fun _ => ?_) (fun q => absurd q (by decide))
            refine lv_iconst (v := nI 0) hx hb dX11_number_107 (by decide) ?_
            refine cV_v0 S0 hG hA h hl.1 kw_RX11_231 kdV_X11_must (c_X11_mustF (by omega) (by omega) (Or.inr rfl)) ⟨rfl, rfl, by decide, by decide, Nat.le_refl _, Nat.le_refl _⟩ rfl 11 0 rfl rfl rfl (Nat.le_of_ble_eq_true rfl) dX11_number_108 (fun _ => rfl) (fun u H locs hq h => ?_)
            exact hret (_, _, _, _) _ _ _ _ (Or.inr ⟨fun z9 => by have z1 := z9.2; omega, _, rfl⟩) h dX11_number_111
        ·
          refine lv_iload_n hx hb dX11_number_38 rfl (lv_at hl 3 rfl) ?_
          refine n_zeq hx hb (by decide) (tgt := 79) dX11_number_39 (by decide) (fun q => absurd q (by decide)) (fun _ => ?_)
          refine lv_iload hx hb dX11_number_42 (lv_at hl 4 rfl) ?_
          refine lv_sipush (v := nI 999) hx hb dX11_number_44 (by decide) ?_
          have n9 := (numC_eq tb fr (k - fr) (fun i hi => tk_digits b16 (by omega) (by omega))).2
          refine n_cle hx hb (by omega) (by omega) (tgt := 55) dX11_number_47 (by decide) (fun c47 => ?_) (fun c47 => ?_)
          ·
            refine lv_bipush (v := nI 10) hx hb dX11_number_55 (by decide) ?_
            refine lv_iload hx hb dX11_number_57 (lv_at hl 4 rfl) ?_
            refine n_mul hx hb dX11_number_59 ?_
            have d9 := tk_digits b16 (k := k) hk (by omega)
            refine lv_aload_n hx hb dX11_number_60 rfl (lv_at hl 0 rfl) ?_
            refine gM_tape S0 hG h dX11_number_61 ?_
            refine lv_iload hx hb dX11_number_64 (lv_at hl 5 rfl) ?_
            refine rM_tape S0 hG h (by omega) dX11_number_66 ?_
            refine n_add hx hb dX11_number_67 ?_
            refine lv_bipush (v := nI 48) hx hb dX11_number_68 (by decide) ?_
            refine n_sub hx hb (by omega) dX11_number_70 ?_
            have e8 : fr + (k - fr) = k := by omega
            have e7 : k + 1 - fr = (k - fr) + 1 := by omega
            refine tN (t := numM tb fr (k + 1 - fr)) (nI_cong (by rw [e7]; show _ = (if 999 < numM tb fr (k - fr) then _ else _); rw [if_neg (by omega), e8])) ?_
            refine lv_istore hx hb dX11_number_71 hl (by decide) rfl (fun ls hl => ?_)
            refine lv_iinc hx hb dX11_number_73 hl (k := 5) rfl (inc_1 _) (by decide) rfl (fun ls hl => ?_)
            refine lv_goto (tgt := 29) hx hb dX11_number_76 (by decide) ?_
            exact ih29 (k + 1) _ _ _ (by omega) (by omega) (by omega) h (lv_sub hl [2, 3, 4, 5, 1, 0] rfl)
          ·
            refine lv_iload hx hb dX11_number_50 (lv_at hl 4 rfl) ?_
            refine lv_goto (tgt := 71) hx hb dX11_number_52 (by decide) ?_
            have e8 : fr + (k - fr) = k := by omega
            have e7 : k + 1 - fr = (k - fr) + 1 := by omega
            refine tN (t := numM tb fr (k + 1 - fr)) (nI_cong (by rw [e7]; show _ = (if 999 < numM tb fr (k - fr) then _ else _); rw [if_pos (by omega)])) ?_
            refine lv_istore hx hb dX11_number_71 hl (by decide) rfl (fun ls hl => ?_)
            refine lv_iinc hx hb dX11_number_73 hl (k := 5) rfl (inc_1 _) (by decide) rfl (fun ls hl => ?_)
            refine lv_goto (tgt := 29) hx hb dX11_number_76 (by decide) ?_
            exact ih29 (k + 1) _ _ _ (by omega) (by omega) (by omega) h (lv_sub hl [2, 3, 4, 5, 1, 0] rfl)
    exact lp29 _ fr _ _ _ (Nat.le_refl _) tkE_ge (Nat.lt_succ_self _) h (lv_sub hl [3, 4, 5, 2, 1, 0] rfl)
  ·
    have b16 := fun z9 => b16 ((byI_R hT).mpr (cD_iff.mp z9))
    refine lv_istore_n hx hb dX11_number_19 rfl hl (by decide) rfl (fun ls hl => ?_)
    refine lv_iconst (v := nI 0) hx hb dX11_number_20 (by decide) ?_
    refine tN (t := numM tb fr (fr - fr)) (by rw [Nat.sub_self]; rfl) ?_
    refine lv_istore hx hb dX11_number_21 hl (by decide) rfl (fun ls hl => ?_)
    refine lv_aload_n hx hb dX11_number_23 rfl (lv_at hl 2 rfl) ?_
    refine gM_from S0 hG h dX11_number_24 ?_
    refine lv_istore hx hb dX11_number_27 hl (by decide) rfl (fun ls hl => ?_)
    refine lv_iload hx hb dX11_number_29 (lv_at hl 0 rfl) ?_
    refine lv_aload_n hx hb dX11_number_31 rfl (lv_at hl 3 rfl) ?_
    refine gM_to S0 hG h dX11_number_32 ?_
    refine n_cge hx hb (by omega) (by omega) (tgt := 79) dX11_number_35 (by decide) (fun c35 => ?_) (fun c35 => ?_)
    ·
      refine lv_aload_n hx hb dX11_number_79 rfl (lv_at hl 3 rfl) ?_
      refine lv_iload hx hb dX11_number_80 (lv_at hl 1 rfl) ?_
      refine pM_value S0 hG h dX11_number_82 (fun H locs h => ?_)
      refine lv_aload_n hx hb dX11_number_85 rfl (lv_at hl 3 rfl) ?_
      refine lv_iload_n hx hb dX11_number_86 rfl (lv_at hl 2 rfl) ?_
      refine n_zeq hx hb (by decide) (tgt := 107) dX11_number_87 (by decide) (fun _ => ?_) (fun q => absurd q (by decide))
      refine lv_iconst (v := nI 0) hx hb dX11_number_107 (by decide) ?_
      refine cV_v0 S0 hG hA h hl.1 kw_RX11_231 kdV_X11_must (c_X11_mustF (by omega) (by omega) (Or.inr rfl)) ⟨rfl, rfl, by decide, by decide, Nat.le_refl _, Nat.le_refl _⟩ rfl 11 0 rfl rfl rfl (Nat.le_of_ble_eq_true rfl) dX11_number_108 (fun _ => rfl) (fun u H locs hq h => ?_)
      exact hret (_, _, _, _) _ _ _ _ (Or.inr ⟨fun z9 => b16 z9.1, _, rfl⟩) h dX11_number_111
    ·
      refine lv_iload_n hx hb dX11_number_38 rfl (lv_at hl 2 rfl) ?_
      refine n_zeq hx hb (by decide) (tgt := 79) dX11_number_39 (by decide) (fun _ => ?_) (fun q => absurd q (by decide))
      refine lv_aload_n hx hb dX11_number_79 rfl (lv_at hl 3 rfl) ?_
      refine lv_iload hx hb dX11_number_80 (lv_at hl 1 rfl) ?_
      refine pM_value S0 hG h dX11_number_82 (fun H locs h => ?_)
      refine lv_aload_n hx hb dX11_number_85 rfl (lv_at hl 3 rfl) ?_
      refine lv_iload_n hx hb dX11_number_86 rfl (lv_at hl 2 rfl) ?_
      refine n_zeq hx hb (by decide) (tgt := 107) dX11_number_87 (by decide) (fun _ => ?_) (fun q => absurd q (by decide))
      refine lv_iconst (v := nI 0) hx hb dX11_number_107 (by decide) ?_
      refine cV_v0 S0 hG hA h hl.1 kw_RX11_231 kdV_X11_must (c_X11_mustF (by omega) (by omega) (Or.inr rfl)) ⟨rfl, rfl, by decide, by decide, Nat.le_refl _, Nat.le_refl _⟩ rfl 11 0 rfl rfl rfl (Nat.le_of_ble_eq_true rfl) dX11_number_108 (fun _ => rfl) (fun u H locs hq h => ?_)
      exact hret (_, _, _, _) _ _ _ _ (Or.inr ⟨fun z9 => b16 z9.1, _, rfl⟩) h dX11_number_111
