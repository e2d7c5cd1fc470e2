/-! the reference: interval -/
variable {G : GT} {l : Launch} {a : Nat → Nat} {f g o d st du tb bi si : Nat → Nat} {nu mo : Nat → Int64} {kp it tn fr to vl wr : Nat}
theorem kw_RX11_277 : GoodIn wsL_law (wsV RX11 277 RX11 yX11_putsBack (WS yX11_putsBack cX11_putsBack 2 none)) := gV (rin35 _ (List.mem_of_getElem? (i := 13) rfl)) (rin35 _ (List.mem_of_getElem? (i := 14) rfl)) (rin35 _ (List.mem_of_getElem? (i := 15) rfl)) (rin1 _ (List.mem_of_getElem? (i := 5) rfl)) (rin35 _ (List.mem_of_getElem? (i := 16) rfl))
theorem kw_RX11_274 : GoodIn wsL_law (wsV RX11 274 RX11 yX11_item (WS yX11_item cX11_item 4 none)) := gV (rin33 _ (List.mem_of_getElem? (i := 21) rfl)) (rin33 _ (List.mem_of_getElem? (i := 22) rfl)) (rin33 _ (List.mem_of_getElem? (i := 23) rfl)) (rin1 _ (List.mem_of_getElem? (i := 5) rfl)) (rin34 _ (List.mem_of_getElem? (i := 0) rfl))
theorem kw_RX11_271 : GoodIn wsL_law (wsV RX11 271 RX11 yX11_saves (WS yX11_saves cX11_saves 2 none)) := gV (rin32 _ (List.mem_of_getElem? (i := 23) rfl)) (rin33 _ (List.mem_of_getElem? (i := 0) rfl)) (rin33 _ (List.mem_of_getElem? (i := 1) rfl)) (rin1 _ (List.mem_of_getElem? (i := 5) rfl)) (rin33 _ (List.mem_of_getElem? (i := 2) rfl))
theorem kdV_X11_putsBack : yX11_putsBack.cls = RX11 ∧ yX11_putsBack.cls ≠ "java/lang/invoke/MethodHandle" ∧ yX11_putsBack.cls ≠ "java/lang/invoke/VarHandle" ∧ (parseMethodDescriptor yX11_putsBack.desc).map (fun d => d.parameters.length) = some 0 := ⟨rfl, by decide +kernel, by decide +kernel, by decide +kernel⟩
theorem kdV_X11_item : yX11_item.cls = RX11 ∧ yX11_item.cls ≠ "java/lang/invoke/MethodHandle" ∧ yX11_item.cls ≠ "java/lang/invoke/VarHandle" ∧ (parseMethodDescriptor yX11_item.desc).map (fun d => d.parameters.length) = some 0 := ⟨rfl, by decide +kernel, by decide +kernel, by decide +kernel⟩
theorem kdV_X11_saves : yX11_saves.cls = RX11 ∧ yX11_saves.cls ≠ "java/lang/invoke/MethodHandle" ∧ yX11_saves.cls ≠ "java/lang/invoke/VarHandle" ∧ (parseMethodDescriptor yX11_saves.desc).map (fun d => d.parameters.length) = some 0 := ⟨rfl, by decide +kernel, by decide +kernel, by decide +kernel⟩
set_option maxHeartbeats 4000000 in
set_option maxRecDepth 100000 in
theorem c_X11_interval (hT : ∀ i, tb i < 256) (htn : tn ≤ 120) (hI : Inv f) : Ki G l yX11_interval cX11_interval 2 (some .int) (RM 8 160) [.ref (a 0)] (wM G a f g o d st du tb bi si nu mo kp it tn fr to vl wr) (fun u : (Nat → Nat) × Nat × Nat × Nat × Nat => wM G a u.1 g f d st du tb bi si nu mo kp it 0 u.2.1 u.2.2.1 u.2.2.2.1 u.2.2.2.2) (fun r u => P_interval f tb tn r u.1) := by
  refine Ki.of (by decide) (Nat.le_of_ble_eq_true rfl) ?_
  intro p e s m args below meth c A Q ls hx hb S0 hG hA h hret hl
  have S0 : CF p m c cX11_interval 2 s args RX11 := S0
  have hl : lv_has ls 2 [(0, .ref (a 0))] := hl
  have lp24 : ∀ (kf : Nat) (i : Nat) (f1 : Nat → Nat) (s1 t1 v1 w1 : Nat) (H : Heap) (locs : List Loc) (ls : Array Slot) (hw1 : w1 ≤ 1) (ht : w1 = 0 → t1 = tkE tb tn s1) (hs : s1 ≤ tn) (hi : w1 = 0 → Inv f1) (hc : Cont tb tn f (w1 = 0) f1 s1 i), tn - s1 < kf → WX G A s H locs (wM G a f1 g f d st du tb bi si nu mo kp it tn s1 t1 v1 w1) → lv_has ls 2 [(0, .ref (a 0)), (1, .int (nI i))] → W p l e (RM 8 160) s m args below meth c H locs 0 0 Q (F0 m 24 ls []) := by
    intro kf
    induction kf with
    | zero => intro i f1 s1 t1 v1 w1 H locs ls hw1 ht hs hi hc hm; exact absurd hm (Nat.not_lt_zero _)
    | succ kf ih24 =>
      intro i f1 s1 t1 v1 w1 H locs ls hw1 ht hs hi hc hm h hl
      refine lv_aload_n hx hb dX11_interval_24 rfl (lv_at hl 0 rfl) ?_
      refine gM_isWrong S0 hG h dX11_interval_25 ?_
      refine n_zne hx hb (by omega) (tgt := 59) dX11_interval_28 (by decide) (fun c28 => ?_) (fun c28 => ?_)
      ·
        obtain rfl : w1 = 1 := by omega
        refine lv_aload_n hx hb dX11_interval_59 rfl (lv_at hl 0 rfl) ?_
        refine lv_aload_n hx hb dX11_interval_60 rfl (lv_at hl 0 rfl) ?_
        refine gM_isWrong S0 hG h dX11_interval_61 ?_
        refine n_zne hx hb (by omega) (tgt := 78) dX11_interval_64 (by decide) (fun c64 => ?_) (fun c64 => absurd c64 (by decide))
        refine lv_iconst (v := nI 1) hx hb dX11_interval_78 (by decide) ?_
        refine lv_goto (tgt := 83) hx hb dX11_interval_79 (by decide) ?_
        refine pM_isWrong S0 hG h (by decide) dX11_interval_83 (fun H locs h => ?_)
        refine lv_aload_n hx hb dX11_interval_86 rfl (lv_at hl 0 rfl) ?_
        refine gM_isWrong S0 hG h dX11_interval_87 ?_
        refine n_zeq hx hb (by decide) (tgt := 97) dX11_interval_90 (by decide) (fun c90 => absurd c90 (by decide)) (fun c90 => ?_)
        refine lv_aload_n hx hb dX11_interval_93 rfl (lv_at hl 0 rfl) ?_
        refine cV_v0 S0 hG hA h hl.1 kw_RX11_277 kdV_X11_putsBack (c_X11_putsBack) ⟨rfl, rfl, by decide, by decide, Nat.le_refl _, Nat.le_refl _⟩ rfl 11 0 rfl rfl rfl (Nat.le_of_ble_eq_true rfl) dX11_interval_94 (fun _ => rfl) (fun u H locs hq h => ?_)
        refine lv_aload_n hx hb dX11_interval_97 rfl (lv_at hl 0 rfl) ?_
        refine lv_iconst (v := nI 0) hx hb dX11_interval_98 (by decide) ?_
        refine pM_taped S0 hG h dX11_interval_99 (fun H locs h => ?_)
        refine lv_aload_n hx hb dX11_interval_102 rfl (lv_at hl 0 rfl) ?_
        refine gM_isWrong S0 hG h dX11_interval_103 ?_
        refine n_zeq hx hb (by decide) (tgt := 118) dX11_interval_106 (by decide) (fun c106 => absurd c106 (by decide)) (fun c106 => ?_)
        refine lv_iconst (v := -1) hx hb dX11_interval_109 (by decide) ?_
        refine lv_aload_n hx hb dX11_interval_110 rfl (lv_at hl 0 rfl) ?_
        refine gM_from S0 hG h dX11_interval_111 ?_
        refine lv_isub hx hb dX11_interval_114 ?_
        refine lv_goto (tgt := 119) hx hb dX11_interval_115 (by decide) ?_
        exact hret _ (f, _, _, _, _) _ _ _ _ (hc 0 _ _ (Or.inl ⟨Nat.succ_ne_zero 0, rfl, rfl⟩)) h dX11_interval_119
      ·
        obtain rfl : w1 = 0 := c28
        obtain rfl := ht rfl
        refine lv_aload_n hx hb dX11_interval_31 rfl (lv_at hl 0 rfl) ?_
        refine lv_aload_n hx hb dX11_interval_32 rfl (lv_at hl 0 rfl) ?_
        refine gM_from S0 hG h dX11_interval_33 ?_
        refine cV_i0 S0 hG hA h hl.1 kw_RX11_208 kdV_X11_byteAt (c_X11_byteAt hT htn (by omega)) ⟨rfl, rfl, by decide, by decide, Nat.le_refl _, Nat.le_refl _⟩ rfl 11 0 rfl rfl rfl (Nat.le_of_ble_eq_true rfl) dX11_interval_36 (fun _ => rfl) (fun r u H locs hq h => ?_)
        obtain rfl := hq
        refine lv_bipush (v := nI 59) hx hb dX11_interval_39 (by decide) ?_
        refine lv_icmp_ne hx hb (tgt := 59) dX11_interval_41 (by decide) (fun c41 => ?_) (fun c41 => ?_)
        ·
          have b9 := fun z9 => c41 ((byI_B hT (by decide)).mpr z9)
          refine lv_aload_n hx hb dX11_interval_59 rfl (lv_at hl 0 rfl) ?_
          refine lv_aload_n hx hb dX11_interval_60 rfl (lv_at hl 0 rfl) ?_
          refine gM_isWrong S0 hG h dX11_interval_61 ?_
          refine n_zne hx hb (by omega) (tgt := 78) dX11_interval_64 (by decide) (fun c64 => absurd c64 (by decide)) (fun c64 => ?_)
          refine lv_aload_n hx hb dX11_interval_67 rfl (lv_at hl 0 rfl) ?_
          refine gM_from S0 hG h dX11_interval_68 ?_
          refine lv_aload_n hx hb dX11_interval_71 rfl (lv_at hl 0 rfl) ?_
          refine gM_taped S0 hG h dX11_interval_72 ?_
          refine n_cge hx hb (by omega) (by omega) (tgt := 82) dX11_interval_75 (by decide) (fun c75 => ?_) (fun c75 => ?_)
          ·
            refine lv_iconst (v := nI 0) hx hb dX11_interval_82 (by decide) ?_
            refine pM_isWrong S0 hG h (by decide) dX11_interval_83 (fun H locs h => ?_)
            refine lv_aload_n hx hb dX11_interval_86 rfl (lv_at hl 0 rfl) ?_
            refine gM_isWrong S0 hG h dX11_interval_87 ?_
            refine n_zeq hx hb (by decide) (tgt := 97) dX11_interval_90 (by decide) (fun c90 => ?_) (fun c90 => absurd c90 (by decide))
            refine lv_aload_n hx hb dX11_interval_97 rfl (lv_at hl 0 rfl) ?_
            refine lv_iconst (v := nI 0) hx hb dX11_interval_98 (by decide) ?_
            refine pM_taped S0 hG h dX11_interval_99 (fun H locs h => ?_)
            refine lv_aload_n hx hb dX11_interval_102 rfl (lv_at hl 0 rfl) ?_
            refine gM_isWrong S0 hG h dX11_interval_103 ?_
            refine n_zeq hx hb (by decide) (tgt := 118) dX11_interval_106 (by decide) (fun c106 => ?_) (fun c106 => absurd c106 (by decide))
            refine lv_iload_n hx hb dX11_interval_118 rfl (lv_at hl 1 rfl) ?_
            exact hret _ (f1, _, _, _, _) _ _ _ _ (hc 0 _ _ (Or.inr (Or.inl ⟨rfl, c75, rfl, rfl⟩))) h dX11_interval_119
          ·
            refine lv_iconst (v := nI 1) hx hb dX11_interval_78 (by decide) ?_
            refine lv_goto (tgt := 83) hx hb dX11_interval_79 (by decide) ?_
            refine pM_isWrong S0 hG h (by decide) dX11_interval_83 (fun H locs h => ?_)
            refine lv_aload_n hx hb dX11_interval_86 rfl (lv_at hl 0 rfl) ?_
            refine gM_isWrong S0 hG h dX11_interval_87 ?_
            refine n_zeq hx hb (by decide) (tgt := 97) dX11_interval_90 (by decide) (fun c90 => absurd c90 (by decide)) (fun c90 => ?_)
            refine lv_aload_n hx hb dX11_interval_93 rfl (lv_at hl 0 rfl) ?_
            refine cV_v0 S0 hG hA h hl.1 kw_RX11_277 kdV_X11_putsBack (c_X11_putsBack) ⟨rfl, rfl, by decide, by decide, Nat.le_refl _, Nat.le_refl _⟩ rfl 11 0 rfl rfl rfl (Nat.le_of_ble_eq_true rfl) dX11_interval_94 (fun _ => rfl) (fun u H locs hq h => ?_)
            refine lv_aload_n hx hb dX11_interval_97 rfl (lv_at hl 0 rfl) ?_
            refine lv_iconst (v := nI 0) hx hb dX11_interval_98 (by decide) ?_
            refine pM_taped S0 hG h dX11_interval_99 (fun H locs h => ?_)
            refine lv_aload_n hx hb dX11_interval_102 rfl (lv_at hl 0 rfl) ?_
            refine gM_isWrong S0 hG h dX11_interval_103 ?_
            refine n_zeq hx hb (by decide) (tgt := 118) dX11_interval_106 (by decide) (fun c106 => absurd c106 (by decide)) (fun c106 => ?_)
            refine lv_iconst (v := -1) hx hb dX11_interval_109 (by decide) ?_
            refine lv_aload_n hx hb dX11_interval_110 rfl (lv_at hl 0 rfl) ?_
            refine gM_from S0 hG h dX11_interval_111 ?_
            refine lv_isub hx hb dX11_interval_114 ?_
            refine lv_goto (tgt := 119) hx hb dX11_interval_115 (by decide) ?_
            exact hret _ (f, _, _, _, _) _ _ _ _ (hc 0 _ _ (Or.inr (Or.inr (Or.inl ⟨rfl, c75, fun z9 => b9 ⟨c75, z9⟩, rfl, rfl⟩)))) h dX11_interval_119
        ·
          have b9 := (byI_B hT (by decide)).mp c41
          refine lv_aload_n hx hb dX11_interval_44 rfl (lv_at hl 0 rfl) ?_
          refine lv_iconst (v := nI 1) hx hb dX11_interval_45 (by decide) ?_
          refine cV_v0 S0 hG hA h hl.1 kw_RX11_231 kdV_X11_must (c_X11_mustT hT htn hs rfl rfl) ⟨rfl, rfl, by decide, by decide, Nat.le_refl _, Nat.le_refl _⟩ rfl 11 0 rfl rfl rfl (Nat.le_of_ble_eq_true rfl) dX11_interval_46 (fun _ => rfl) (fun u H locs hq h => ?_)
          refine lv_aload_n hx hb dX11_interval_49 rfl (lv_at hl 0 rfl) ?_
          refine cV_v0 S0 hG hA h hl.1 kw_RX11_274 kdV_X11_item (c_X11_item hT htn (nx_le hs) rfl rfl (hi rfl).2.1) ⟨rfl, rfl, by decide, by decide, Nat.le_refl _, Nat.le_refl _⟩ rfl 11 0 rfl rfl rfl (Nat.le_of_ble_eq_true rfl) dX11_interval_50 (fun _ => rfl) (fun u H locs hq h => ?_)
          obtain ⟨u1, u2, u3, u4, u5⟩ := u
          have h : WX G A s _ _ (wM G a u1 g f d st du tb bi si nu mo kp it tn u2 u3 u4 u5) := h
          obtain ⟨q1, q2, q3, q4⟩ := hq
          have g9 := Item_ge q1
          have g8 := nx_gt (tb := tb) b9.1
          refine lv_iinc hx hb dX11_interval_53 hl (k := 1) rfl (inc_1 _) (by decide) rfl (fun ls hl => ?_)
          refine lv_goto (tgt := 24) hx hb dX11_interval_56 (by decide) ?_
          exact ih24 (i + 1) _ _ _ _ _ _ _ _ q3 q2 q4 (fun z9 => (Item_inv (hi rfl) q1 z9).1) (Cont_s hc rfl b9.1 b9.2 q1) (by omega) h (lv_sub hl [1, 0] rfl)
  refine lv_aload_n hx hb dX11_interval_0 rfl (lv_at hl 0 rfl) ?_
  refine cV_v0 S0 hG hA h hl.1 kw_RX11_271 kdV_X11_saves (c_X11_saves) ⟨rfl, rfl, by decide, by decide, Nat.le_refl _, Nat.le_refl _⟩ rfl 11 0 rfl rfl rfl (Nat.le_of_ble_eq_true rfl) dX11_interval_1 (fun _ => rfl) (fun u H locs hq h => ?_)
  refine lv_aload_n hx hb dX11_interval_4 rfl (lv_at hl 0 rfl) ?_
  refine lv_iconst (v := nI 0) hx hb dX11_interval_5 (by decide) ?_
  refine pM_isWrong S0 hG h (by decide) dX11_interval_6 (fun H locs h => ?_)
  refine lv_aload_n hx hb dX11_interval_9 rfl (lv_at hl 0 rfl) ?_
  refine lv_iconst (v := nI 0) hx hb dX11_interval_10 (by decide) ?_
  refine pM_to S0 hG h dX11_interval_11 (fun H locs h => ?_)
  refine lv_aload_n hx hb dX11_interval_14 rfl (lv_at hl 0 rfl) ?_
  refine cV_v0 S0 hG hA h hl.1 kw_RX11_221 kdV_X11_token (c_X11_token hT htn (Nat.zero_le _)) ⟨rfl, rfl, by decide, by decide, Nat.le_refl _, Nat.le_refl _⟩ rfl 11 0 rfl rfl rfl (Nat.le_of_ble_eq_true rfl) dX11_interval_15 (fun _ => rfl) (fun u H locs hq h => ?_)
  have h : WX G A s _ _ (wM G a f g f d st du tb bi si nu mo kp it tn (tkS tb tn 0) (tkE tb tn (tkS tb tn 0)) vl 0) := h
  refine lv_iconst (v := nI 1) hx hb dX11_interval_18 (by decide) ?_
  refine lv_istore_n hx hb dX11_interval_19 rfl hl (by decide) rfl (fun ls hl => ?_)
  refine lv_aload_n hx hb dX11_interval_20 rfl (lv_at hl 1 rfl) ?_
  refine cV_v0 S0 hG hA h hl.1 kw_RX11_274 kdV_X11_item (c_X11_item hT htn (tkS_le (Nat.zero_le _)) rfl rfl hI.2.1) ⟨rfl, rfl, by decide, by decide, Nat.le_refl _, Nat.le_refl _⟩ rfl 11 0 rfl rfl rfl (Nat.le_of_ble_eq_true rfl) dX11_interval_21 (fun _ => rfl) (fun u H locs hq h => ?_)
  obtain ⟨u1, u2, u3, u4, u5⟩ := u
  have h : WX G A s _ _ (wM G a u1 g f d st du tb bi si nu mo kp it tn u2 u3 u4 u5) := h
  obtain ⟨q1, q2, q3, q4⟩ := hq
  exact lp24 _ 1 _ _ _ _ _ _ _ _ q3 q2 q4 (fun z9 => (Item_inv hI q1 z9).1) (Cont_0 q1) (Nat.lt_succ_self _) h (lv_sub hl [1, 0] rfl)
