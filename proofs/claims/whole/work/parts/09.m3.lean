/-! the reference: a minute -/
variable {G : GT} {l : Launch} {a : Nat → Nat} {f g o d st du tb bi si : Nat → Nat} {nu mo : Nat → Int64} {kp it tn fr to vl wr : Nat}
theorem kw_RX11_110 : GoodIn wsL_law (va_wsS RX11 110 yX11_signOf (WS yX11_signOf cX11_signOf 1 (some .int))) := gS (rin18 _ (List.mem_of_getElem? (i := 15) rfl)) (rin18 _ (List.mem_of_getElem? (i := 16) rfl)) (rin1 _ (List.mem_of_getElem? (i := 5) rfl)) (rin18 _ (List.mem_of_getElem? (i := 17) rfl))
theorem kw_RX11_101 : GoodIn wsL_law (wsV RX11 101 RX11 yX11_whoAt (WS yX11_whoAt cX11_whoAt 4 (some .int))) := gV (rin14 _ (List.mem_of_getElem? (i := 0) rfl)) (rin14 _ (List.mem_of_getElem? (i := 1) rfl)) (rin14 _ (List.mem_of_getElem? (i := 2) rfl)) (rin1 _ (List.mem_of_getElem? (i := 5) rfl)) (rin14 _ (List.mem_of_getElem? (i := 3) rfl))
theorem kdS_X11_signOf : yX11_signOf.cls ≠ "java/lang/invoke/MethodHandle" ∧ yX11_signOf.cls ≠ "java/lang/invoke/VarHandle" ∧ (parseMethodDescriptor yX11_signOf.desc).map (fun d => d.parameters.length) = some 1 := ⟨by decide +kernel, by decide +kernel, by decide +kernel⟩
theorem kdV_X11_whoAt : yX11_whoAt.cls = RX11 ∧ yX11_whoAt.cls ≠ "java/lang/invoke/MethodHandle" ∧ yX11_whoAt.cls ≠ "java/lang/invoke/VarHandle" ∧ (parseMethodDescriptor yX11_whoAt.desc).map (fun d => d.parameters.length) = some 1 := ⟨rfl, by decide +kernel, by decide +kernel, by decide +kernel⟩
set_option maxHeartbeats 4000000 in
set_option maxRecDepth 100000 in
theorem c_X11_isBarred {x : Nat} (hI : Inv f) (hx1 : x < 8) : Ki G l yX11_isBarred cX11_isBarred 4 (some .boolean) (RM 5 89) [.ref (a 0), .int (nI x)] (wM G a f g o d st du tb bi si nu mo kp it tn fr to vl wr) (fun u : Unit => wM G a f g o d st du tb bi si nu mo kp it tn fr to vl wr) (fun r _ => (r = nI 1 ∧ bar f x = true) ∨ (r = nI 0 ∧ bar f x = false)) := by
  refine Ki.ofz (by decide) (Nat.le_of_ble_eq_true rfl) ?_
  intro p e s m args below meth c A Q ls hx hb S0 hG hA h hret hl
  have S0 : CF p m c cX11_isBarred 4 s args RX11 := S0
  have hl : lv_has ls 4 [(0, .ref (a 0)), (1, .int (nI x))] := hl
  have h5 := hI.2.2.2.2 x hx1
  have h6 := due_le hI x
  have h7 : nxt f x ≤ 12 := by unfold nxt; repeat' split
                               all_goals omega
  have h8 : ∀ z, whoAt f z < 2147483648 := fun z => Nat.lt_of_lt_of_le (whoAt_lt f z hI.2.1) (by decide)
  have h9 : nxt f x = its f x 1 ↔ its f x 1 = due f x := by unfold nxt; repeat' split
                                                            all_goals omega
  refine lv_aload_n hx hb dX11_isBarred_0 rfl (lv_at hl 0 rfl) ?_
  refine lv_iload_n hx hb dX11_isBarred_1 rfl (lv_at hl 1 rfl) ?_
  refine lv_iconst (v := nI 1) hx hb dX11_isBarred_2 (by decide) ?_
  refine cV_i0 S0 hG hA h hl.1 kw_RX11_59 kdV_X11_its (c_X11_its (by omega) (by omega)) ⟨rfl, rfl, by decide, by decide, Nat.le_refl _, Nat.le_refl _⟩ rfl 11 0 rfl rfl rfl (Nat.le_of_ble_eq_true rfl) dX11_isBarred_3 (fun _ => rfl) (fun r u H locs hq h => ?_)
  obtain rfl := hq
  refine lv_istore_n hx hb dX11_isBarred_6 rfl hl (by decide) rfl (fun ls hl => ?_)
  refine lv_iload_n hx hb dX11_isBarred_7 rfl (lv_at hl 0 rfl) ?_
  refine lv_aload_n hx hb dX11_isBarred_8 rfl (lv_at hl 1 rfl) ?_
  refine lv_iload_n hx hb dX11_isBarred_9 rfl (lv_at hl 2 rfl) ?_
  refine cV_i0 S0 hG hA h hl.1 kw_RX11_84 kdV_X11_dueOf (c_X11_dueOf hI (by omega)) ⟨rfl, rfl, by decide, by decide, Nat.le_refl _, Nat.le_refl _⟩ rfl 11 0 rfl rfl rfl (Nat.le_of_ble_eq_true rfl) dX11_isBarred_10 (fun _ => rfl) (fun r u H locs hq h => ?_)
  obtain rfl := hq
  refine lv_iload_n hx hb dX11_isBarred_13 rfl (lv_at hl 0 rfl) ?_
  refine lv_isub hx hb dX11_isBarred_14 ?_
  refine cS_iE S0 hG hA h hl.1 kw_RX11_110 kdS_X11_signOf (c_X11_signOf) ⟨rfl, rfl, by decide, by decide, Nat.le_refl _, Nat.le_refl _⟩ rfl rfl (Nat.le_of_ble_eq_true rfl) dX11_isBarred_15 (fun r u H locs hq h => ?_)
  obtain rfl := hq
  refine lv_iadd hx hb dX11_isBarred_18 ?_
  refine tN (t := nxt f x) (next_nI _ (by omega) _ (by omega)) ?_
  refine lv_istore_n hx hb dX11_isBarred_19 rfl hl (by decide) rfl (fun ls hl => ?_)
  refine lv_iload_n hx hb dX11_isBarred_20 rfl (lv_at hl 0 rfl) ?_
  refine lv_iload_n hx hb dX11_isBarred_21 rfl (lv_at hl 1 rfl) ?_
  refine n_ceq hx hb (by omega) (by omega) (tgt := 37) dX11_isBarred_22 (by decide) (fun c22 => ?_) (fun c22 => ?_)
  ·
    refine lv_iconst (v := nI 0) hx hb dX11_isBarred_37 (by decide) ?_
    exact hret _ () _ _ _ _ (by decide) (by exact Or.inr ⟨rfl, by unfold bar; rw [h9.mp c22]; simp⟩) h dX11_isBarred_38
  ·
    refine lv_aload_n hx hb dX11_isBarred_25 rfl (lv_at hl 2 rfl) ?_
    refine lv_iload_n hx hb dX11_isBarred_26 rfl (lv_at hl 0 rfl) ?_
    refine cV_i0 S0 hG hA h hl.1 kw_RX11_101 kdV_X11_whoAt (c_X11_whoAt hI (by omega)) ⟨rfl, rfl, by decide, by decide, Nat.le_refl _, Nat.le_refl _⟩ rfl 11 0 rfl rfl rfl (Nat.le_of_ble_eq_true rfl) dX11_isBarred_27 (fun _ => rfl) (fun r u H locs hq h => ?_)
    obtain rfl := hq
    refine n_zeq hx hb (h8 _) (tgt := 37) dX11_isBarred_30 (by decide) (fun c30 => ?_) (fun c30 => ?_)
    ·
      refine lv_iconst (v := nI 0) hx hb dX11_isBarred_37 (by decide) ?_
      exact hret _ () _ _ _ _ (by decide) (by exact Or.inr ⟨rfl, by unfold bar; rw [c30]; simp⟩) h dX11_isBarred_38
    ·
      refine lv_iconst (v := nI 1) hx hb dX11_isBarred_33 (by decide) ?_
      refine lv_goto (tgt := 38) hx hb dX11_isBarred_34 (by decide) ?_
      exact hret _ () _ _ _ _ (by decide) (by exact Or.inl ⟨rfl, by unfold bar; rw [Bool.and_eq_true]; exact ⟨decide_eq_true (fun z => c22 (h9.mpr z)), decide_eq_true (by omega)⟩⟩) h dX11_isBarred_38
theorem kw_RX11_113 : GoodIn wsL_law (wsV RX11 113 RX11 yX11_isBarred (WS yX11_isBarred cX11_isBarred 4 (some .boolean))) := gV (rin18 _ (List.mem_of_getElem? (i := 11) rfl)) (rin18 _ (List.mem_of_getElem? (i := 12) rfl)) (rin18 _ (List.mem_of_getElem? (i := 13) rfl)) (rin1 _ (List.mem_of_getElem? (i := 5) rfl)) (rin18 _ (List.mem_of_getElem? (i := 14) rfl))
theorem kdV_X11_isBarred : yX11_isBarred.cls = RX11 ∧ yX11_isBarred.cls ≠ "java/lang/invoke/MethodHandle" ∧ yX11_isBarred.cls ≠ "java/lang/invoke/VarHandle" ∧ (parseMethodDescriptor yX11_isBarred.desc).map (fun d => d.parameters.length) = some 1 := ⟨rfl, by decide +kernel, by decide +kernel, by decide +kernel⟩
set_option maxHeartbeats 4000000 in
set_option maxRecDepth 100000 in
theorem c_X11_walksOf {x : Nat} (hI : Inv f) (hx1 : x < 8) : Ki G l yX11_walksOf cX11_walksOf 3 (some .int) (RM 6 112) [.ref (a 0), .int (nI x)] (wM G a f g o d st du tb bi si nu mo kp it tn fr to vl wr) (fun u : Unit => wM G a f g o d st du tb bi si nu mo kp it tn fr to vl wr) (fun r _ => r = nI (walk f x)) := by
  refine Ki.of (by decide) (Nat.le_of_ble_eq_true rfl) ?_
  intro p e s m args below meth c A Q ls hx hb S0 hG hA h hret hl
  have S0 : CF p m c cX11_walksOf 3 s args RX11 := S0
  have hl : lv_has ls 3 [(0, .ref (a 0)), (1, .int (nI x))] := hl
  have h5 := hI.2.2.2.2 x hx1
  refine lv_aload_n hx hb dX11_walksOf_0 rfl (lv_at hl 0 rfl) ?_
  refine lv_iload_n hx hb dX11_walksOf_1 rfl (lv_at hl 1 rfl) ?_
  refine lv_iconst (v := nI 2) hx hb dX11_walksOf_2 (by decide) ?_
  refine cV_i0 S0 hG hA h hl.1 kw_RX11_59 kdV_X11_its (c_X11_its (by omega) (by omega)) ⟨rfl, rfl, by decide, by decide, Nat.le_refl _, Nat.le_refl _⟩ rfl 11 0 rfl rfl rfl (Nat.le_of_ble_eq_true rfl) dX11_walksOf_3 (fun _ => rfl) (fun r u H locs hq h => ?_)
  obtain rfl := hq
  refine lv_istore_n hx hb dX11_walksOf_6 rfl hl (by decide) rfl (fun ls hl => ?_)
  refine lv_aload_n hx hb dX11_walksOf_7 rfl (lv_at hl 1 rfl) ?_
  refine lv_iload_n hx hb dX11_walksOf_8 rfl (lv_at hl 2 rfl) ?_
  refine lv_iconst (v := nI 0) hx hb dX11_walksOf_9 (by decide) ?_
  refine cV_i0 S0 hG hA h hl.1 kw_RX11_59 kdV_X11_its (c_X11_its (by omega) (by omega)) ⟨rfl, rfl, by decide, by decide, Nat.le_refl _, Nat.le_refl _⟩ rfl 11 0 rfl rfl rfl (Nat.le_of_ble_eq_true rfl) dX11_walksOf_10 (fun _ => rfl) (fun r u H locs hq h => ?_)
  obtain rfl := hq
  rcases (show its f x 0 = 1 ∨ its f x 0 = 2 ∨ its f x 0 = 3 ∨ its f x 0 = 4 ∨ its f x 0 = 5 ∨ (its f x 0 ≠ 1 ∧ its f x 0 ≠ 2 ∧ its f x 0 ≠ 3 ∧ its f x 0 ≠ 4 ∧ its f x 0 ≠ 5) by omega) with e13 | e13 | e13 | e13 | e13 | e13
  ·
    refine n_swIn hx hb e13 (by decide) (off := 35) (tgt := 48) dX11_walksOf_13 (by decide) (by decide) rfl (by decide) ?_
    refine lv_aload_n hx hb dX11_walksOf_48 rfl (lv_at hl 1 rfl) ?_
    refine lv_iload_n hx hb dX11_walksOf_49 rfl (lv_at hl 2 rfl) ?_
    refine cV_i0 S0 hG hA h hl.1 kw_RX11_113 kdV_X11_isBarred (c_X11_isBarred hI (by omega)) ⟨rfl, rfl, by decide, by decide, Nat.le_refl _, Nat.le_refl _⟩ rfl 11 0 rfl rfl rfl (Nat.le_of_ble_eq_true rfl) dX11_walksOf_50 (fun _ => rfl) (fun r u H locs hq h => ?_)
    rcases hq with ⟨rfl, b50⟩ | ⟨rfl, b50⟩
    ·
      refine n_zeq hx hb (by decide) (tgt := 60) dX11_walksOf_53 (by decide) (fun q => absurd q (by decide)) (fun _ => ?_)
      refine lv_iconst (v := nI 0) hx hb dX11_walksOf_56 (by decide) ?_
      refine lv_goto (tgt := 61) hx hb dX11_walksOf_57 (by decide) ?_
      exact hret _ () _ _ _ _ (nI_cong (by simp [walk, e13, b50])) h dX11_walksOf_61
    ·
      refine n_zeq hx hb (by decide) (tgt := 60) dX11_walksOf_53 (by decide) (fun _ => ?_) (fun q => absurd q (by decide))
      refine lv_iload_n hx hb dX11_walksOf_60 rfl (lv_at hl 0 rfl) ?_
      exact hret _ () _ _ _ _ (nI_cong (by simp [walk, e13, b50])) h dX11_walksOf_61
  ·
    refine n_swIn hx hb e13 (by decide) (off := 49) (tgt := 62) dX11_walksOf_13 (by decide) (by decide) rfl (by decide) ?_
    refine lv_iconst (v := nI 1) hx hb dX11_walksOf_62 (by decide) ?_
    exact hret _ () _ _ _ _ (nI_cong (by simp [walk, e13])) h dX11_walksOf_63
  ·
    refine n_swIn hx hb e13 (by decide) (off := 51) (tgt := 64) dX11_walksOf_13 (by decide) (by decide) rfl (by decide) ?_
    refine lv_iconst (v := nI 2) hx hb dX11_walksOf_64 (by decide) ?_
    refine lv_iload_n hx hb dX11_walksOf_65 rfl (lv_at hl 0 rfl) ?_
    refine n_mul hx hb dX11_walksOf_66 ?_
    exact hret _ () _ _ _ _ (nI_cong (by simp [walk, e13])) h dX11_walksOf_67
  ·
    refine n_swIn hx hb e13 (by decide) (off := 55) (tgt := 68) dX11_walksOf_13 (by decide) (by decide) rfl (by decide) ?_
    refine lv_iconst (v := nI 1) hx hb dX11_walksOf_68 (by decide) ?_
    refine lv_iload_n hx hb dX11_walksOf_69 rfl (lv_at hl 0 rfl) ?_
    refine n_add hx hb dX11_walksOf_70 ?_
    exact hret _ () _ _ _ _ (nI_cong (by simp [walk, e13])) h dX11_walksOf_71
  ·
    refine n_swIn hx hb e13 (by decide) (off := 35) (tgt := 48) dX11_walksOf_13 (by decide) (by decide) rfl (by decide) ?_
    refine lv_aload_n hx hb dX11_walksOf_48 rfl (lv_at hl 1 rfl) ?_
    refine lv_iload_n hx hb dX11_walksOf_49 rfl (lv_at hl 2 rfl) ?_
    refine cV_i0 S0 hG hA h hl.1 kw_RX11_113 kdV_X11_isBarred (c_X11_isBarred hI (by omega)) ⟨rfl, rfl, by decide, by decide, Nat.le_refl _, Nat.le_refl _⟩ rfl 11 0 rfl rfl rfl (Nat.le_of_ble_eq_true rfl) dX11_walksOf_50 (fun _ => rfl) (fun r u H locs hq h => ?_)
    rcases hq with ⟨rfl, b50⟩ | ⟨rfl, b50⟩
    ·
      refine n_zeq hx hb (by decide) (tgt := 60) dX11_walksOf_53 (by decide) (fun q => absurd q (by decide)) (fun _ => ?_)
      refine lv_iconst (v := nI 0) hx hb dX11_walksOf_56 (by decide) ?_
      refine lv_goto (tgt := 61) hx hb dX11_walksOf_57 (by decide) ?_
      exact hret _ () _ _ _ _ (nI_cong (by simp [walk, e13, b50])) h dX11_walksOf_61
    ·
      refine n_zeq hx hb (by decide) (tgt := 60) dX11_walksOf_53 (by decide) (fun _ => ?_) (fun q => absurd q (by decide))
      refine lv_iload_n hx hb dX11_walksOf_60 rfl (lv_at hl 0 rfl) ?_
      exact hret _ () _ _ _ _ (nI_cong (by simp [walk, e13, b50])) h dX11_walksOf_61
  ·
    refine n_swOut hx hb (by omega) (tgt := 72) dX11_walksOf_13 (by omega) (by decide) ?_
    refine lv_iload_n hx hb dX11_walksOf_72 rfl (lv_at hl 0 rfl) ?_
    exact hret _ () _ _ _ _ (nI_cong (by simp [walk, e13])) h dX11_walksOf_73
set_option maxHeartbeats 4000000 in
set_option maxRecDepth 100000 in
theorem c_X11_spoilsOf {x : Nat} (hI : Inv f) (hx1 : x < 8) : Ki G l yX11_spoilsOf cX11_spoilsOf 2 (some .int) (RM 3 43) [.ref (a 0), .int (nI x)] (wM G a f g o d st du tb bi si nu mo kp it tn fr to vl wr) (fun u : Unit => wM G a f g o d st du tb bi si nu mo kp it tn fr to vl wr) (fun r _ => r = nI (spoilK (its f x 0))) := by
  refine Ki.of (by decide) (Nat.le_of_ble_eq_true rfl) ?_
  intro p e s m args below meth c A Q ls hx hb S0 hG hA h hret hl
  have S0 : CF p m c cX11_spoilsOf 2 s args RX11 := S0
  have hl : lv_has ls 2 [(0, .ref (a 0)), (1, .int (nI x))] := hl
  have h5 := hI.2.2.2.2 x hx1
  refine lv_aload_n hx hb dX11_spoilsOf_0 rfl (lv_at hl 0 rfl) ?_
  refine lv_iload_n hx hb dX11_spoilsOf_1 rfl (lv_at hl 1 rfl) ?_
  refine lv_iconst (v := nI 0) hx hb dX11_spoilsOf_2 (by decide) ?_
  refine cV_i0 S0 hG hA h hl.1 kw_RX11_59 kdV_X11_its (c_X11_its (by omega) (by omega)) ⟨rfl, rfl, by decide, by decide, Nat.le_refl _, Nat.le_refl _⟩ rfl 11 0 rfl rfl rfl (Nat.le_of_ble_eq_true rfl) dX11_spoilsOf_3 (fun _ => rfl) (fun r u H locs hq h => ?_)
  obtain rfl := hq
  rcases (show its f x 0 = 1 ∨ its f x 0 = 2 ∨ its f x 0 = 3 ∨ its f x 0 = 4 ∨ its f x 0 = 5 ∨ (its f x 0 ≠ 1 ∧ its f x 0 ≠ 2 ∧ its f x 0 ≠ 3 ∧ its f x 0 ≠ 4 ∧ its f x 0 ≠ 5) by omega) with e6 | e6 | e6 | e6 | e6 | e6
  ·
    refine n_swIn hx hb e6 (by decide) (off := 34) (tgt := 40) dX11_spoilsOf_6 (by decide) (by decide) rfl (by decide) ?_
    refine lv_iconst (v := nI 2) hx hb dX11_spoilsOf_40 (by decide) ?_
    exact hret _ () _ _ _ _ (nI_cong (by simp [spoilK, e6])) h dX11_spoilsOf_41
  ·
    refine n_swIn hx hb e6 (by decide) (off := 36) (tgt := 42) dX11_spoilsOf_6 (by decide) (by decide) rfl (by decide) ?_
    refine lv_iconst (v := nI 0) hx hb dX11_spoilsOf_42 (by decide) ?_
    exact hret _ () _ _ _ _ (nI_cong (by simp [spoilK, e6])) h dX11_spoilsOf_43
  ·
    refine n_swIn hx hb e6 (by decide) (off := 38) (tgt := 44) dX11_spoilsOf_6 (by decide) (by decide) rfl (by decide) ?_
    refine lv_iconst (v := nI 5) hx hb dX11_spoilsOf_44 (by decide) ?_
    exact hret _ () _ _ _ _ (nI_cong (by simp [spoilK, e6])) h dX11_spoilsOf_45
  ·
    refine n_swIn hx hb e6 (by decide) (off := 40) (tgt := 46) dX11_spoilsOf_6 (by decide) (by decide) rfl (by decide) ?_
    refine lv_iconst (v := nI 3) hx hb dX11_spoilsOf_46 (by decide) ?_
    exact hret _ () _ _ _ _ (nI_cong (by simp [spoilK, e6])) h dX11_spoilsOf_47
  ·
    refine n_swIn hx hb e6 (by decide) (off := 42) (tgt := 48) dX11_spoilsOf_6 (by decide) (by decide) rfl (by decide) ?_
    refine lv_iconst (v := nI 4) hx hb dX11_spoilsOf_48 (by decide) ?_
    exact hret _ () _ _ _ _ (nI_cong (by simp [spoilK, e6])) h dX11_spoilsOf_49
  ·
    refine n_swOut hx hb (by omega) (tgt := 50) dX11_spoilsOf_6 (by omega) (by decide) ?_
    refine lv_iconst (v := nI 1) hx hb dX11_spoilsOf_50 (by decide) ?_
    exact hret _ () _ _ _ _ (nI_cong (by simp [spoilK, e6])) h dX11_spoilsOf_51
set_option maxHeartbeats 4000000 in
set_option maxRecDepth 100000 in
theorem c_X11_adds {x y : Nat} (h8 : f 1 < 8) : Ki G l yX11_adds cX11_adds 4 (some .int) (RM 2 21) [.ref (a 0), .int (nI x), .int (nI y)] (wM G a f g o d st du tb bi si nu mo kp it tn fr to vl wr) (fun u : Unit => wM G a (addF f x y) g o d st du tb bi si nu mo kp it tn fr to vl wr) (fun r _ => r = nI (f 1)) := by
  refine Ki.of (by decide) (Nat.le_of_ble_eq_true rfl) ?_
  intro p e s m args below meth c A Q ls hx hb S0 hG hA h hret hl
  have S0 : CF p m c cX11_adds 4 s args RX11 := S0
  have hl : lv_has ls 4 [(0, .ref (a 0)), (1, .int (nI x)), (2, .int (nI y))] := hl
  refine lv_aload_n hx hb dX11_adds_0 rfl (lv_at hl 0 rfl) ?_
  refine gM_s S0 hG h dX11_adds_1 ?_
  refine lv_iconst (v := nI 1) hx hb dX11_adds_4 (by decide) ?_
  refine rM_s S0 hG h (by omega) dX11_adds_5 ?_
  refine lv_istore_n hx hb dX11_adds_6 rfl hl (by decide) rfl (fun ls hl => ?_)
  refine lv_aload_n hx hb dX11_adds_7 rfl (lv_at hl 1 rfl) ?_
  refine gM_s S0 hG h dX11_adds_8 ?_
  refine lv_iconst (v := nI 1) hx hb dX11_adds_11 (by decide) ?_
  refine lv_dup2_11 hx hb dX11_adds_12 rfl rfl ?_
  refine rM_s S0 hG h (by omega) dX11_adds_13 ?_
  refine lv_iconst (v := nI 1) hx hb dX11_adds_14 (by decide) ?_
  refine n_add hx hb dX11_adds_15 ?_
  refine sM_s S0 hG h (by omega) dX11_adds_16 (fun H locs h => ?_)
  refine lv_aload_n hx hb dX11_adds_17 rfl (lv_at hl 1 rfl) ?_
  refine gM_s S0 hG h dX11_adds_18 ?_
  refine lv_iload_n hx hb dX11_adds_21 rfl (lv_at hl 0 rfl) ?_
  refine lv_iconst (v := nI 0) hx hb dX11_adds_22 (by decide) ?_
  refine cS_iE S0 hG hA h hl.1 kw_RX11_45 kdS_X11_spot (c_X11_spot) ⟨rfl, rfl, by decide, by decide, Nat.le_refl _, Nat.le_refl _⟩ rfl rfl (Nat.le_of_ble_eq_true rfl) dX11_adds_23 (fun r u H locs hq h => ?_)
  obtain rfl := hq
  refine lv_iload_n hx hb dX11_adds_26 rfl (lv_at hl 2 rfl) ?_
  refine sM_s S0 hG h (by omega) dX11_adds_27 (fun H locs h => ?_)
  refine lv_aload_n hx hb dX11_adds_28 rfl (lv_at hl 1 rfl) ?_
  refine gM_s S0 hG h dX11_adds_29 ?_
  refine lv_iload_n hx hb dX11_adds_32 rfl (lv_at hl 0 rfl) ?_
  refine lv_iconst (v := nI 1) hx hb dX11_adds_33 (by decide) ?_
  refine cS_iE S0 hG hA h hl.1 kw_RX11_45 kdS_X11_spot (c_X11_spot) ⟨rfl, rfl, by decide, by decide, Nat.le_refl _, Nat.le_refl _⟩ rfl rfl (Nat.le_of_ble_eq_true rfl) dX11_adds_34 (fun r u H locs hq h => ?_)
  obtain rfl := hq
  refine lv_iload_n hx hb dX11_adds_37 rfl (lv_at hl 3 rfl) ?_
  refine sM_s S0 hG h (by omega) dX11_adds_38 (fun H locs h => ?_)
  refine lv_aload_n hx hb dX11_adds_39 rfl (lv_at hl 1 rfl) ?_
  refine gM_s S0 hG h dX11_adds_40 ?_
  refine lv_iload_n hx hb dX11_adds_43 rfl (lv_at hl 0 rfl) ?_
  refine lv_iconst (v := nI 2) hx hb dX11_adds_44 (by decide) ?_
  refine cS_iE S0 hG hA h hl.1 kw_RX11_45 kdS_X11_spot (c_X11_spot) ⟨rfl, rfl, by decide, by decide, Nat.le_refl _, Nat.le_refl _⟩ rfl rfl (Nat.le_of_ble_eq_true rfl) dX11_adds_45 (fun r u H locs hq h => ?_)
  obtain rfl := hq
  refine lv_iconst (v := nI 1) hx hb dX11_adds_48 (by decide) ?_
  refine sM_s S0 hG h (by omega) dX11_adds_49 (fun H locs h => ?_)
  refine lv_aload_n hx hb dX11_adds_50 rfl (lv_at hl 1 rfl) ?_
  refine gM_s S0 hG h dX11_adds_51 ?_
  refine lv_iload_n hx hb dX11_adds_54 rfl (lv_at hl 0 rfl) ?_
  refine lv_iconst (v := nI 3) hx hb dX11_adds_55 (by decide) ?_
  refine cS_iE S0 hG hA h hl.1 kw_RX11_45 kdS_X11_spot (c_X11_spot) ⟨rfl, rfl, by decide, by decide, Nat.le_refl _, Nat.le_refl _⟩ rfl rfl (Nat.le_of_ble_eq_true rfl) dX11_adds_56 (fun r u H locs hq h => ?_)
  obtain rfl := hq
  refine lv_iconst (v := nI 0) hx hb dX11_adds_59 (by decide) ?_
  refine sM_s S0 hG h (by omega) dX11_adds_60 (fun H locs h => ?_)
  refine lv_aload_n hx hb dX11_adds_61 rfl (lv_at hl 1 rfl) ?_
  refine gM_s S0 hG h dX11_adds_62 ?_
  refine lv_iload_n hx hb dX11_adds_65 rfl (lv_at hl 0 rfl) ?_
  refine lv_iconst (v := nI 4) hx hb dX11_adds_66 (by decide) ?_
  refine cS_iE S0 hG hA h hl.1 kw_RX11_45 kdS_X11_spot (c_X11_spot) ⟨rfl, rfl, by decide, by decide, Nat.le_refl _, Nat.le_refl _⟩ rfl rfl (Nat.le_of_ble_eq_true rfl) dX11_adds_67 (fun r u H locs hq h => ?_)
  obtain rfl := hq
  refine lv_iconst (v := nI 0) hx hb dX11_adds_70 (by decide) ?_
  refine sM_s S0 hG h (by omega) dX11_adds_71 (fun H locs h => ?_)
  refine lv_iload_n hx hb dX11_adds_72 rfl (lv_at hl 0 rfl) ?_
  exact hret _ () _ _ _ _ rfl h dX11_adds_73
theorem kw_RX11_128 : GoodIn wsL_law (wsV RX11 128 RX11 yX11_walksOf (WS yX11_walksOf cX11_walksOf 3 (some .int))) := gV (rin18 _ (List.mem_of_getElem? (i := 7) rfl)) (rin18 _ (List.mem_of_getElem? (i := 8) rfl)) (rin18 _ (List.mem_of_getElem? (i := 9) rfl)) (rin1 _ (List.mem_of_getElem? (i := 5) rfl)) (rin18 _ (List.mem_of_getElem? (i := 10) rfl))
theorem kdV_X11_walksOf : yX11_walksOf.cls = RX11 ∧ yX11_walksOf.cls ≠ "java/lang/invoke/MethodHandle" ∧ yX11_walksOf.cls ≠ "java/lang/invoke/VarHandle" ∧ (parseMethodDescriptor yX11_walksOf.desc).map (fun d => d.parameters.length) = some 1 := ⟨rfl, by decide +kernel, by decide +kernel, by decide +kernel⟩
set_option maxHeartbeats 4000000 in
set_option maxRecDepth 100000 in
theorem c_X11_walks {x : Nat} (hI : Inv f) (hx1 : x < 8) : Kv G l yX11_walks cX11_walks 6 none (RM 7 134) [.ref (a 0), .int (nI x)] (wM G a f g o d st du tb bi si nu mo kp it tn fr to vl wr) (fun u : Unit => wM G a (walk1 f x) g o d st (va_up du x (due f x)) tb bi si nu mo kp it tn fr to vl wr) (fun _ => True) := by
  refine Kv.of (by decide) (Nat.le_of_ble_eq_true rfl) ?_
  intro p e s m args below meth c A Q ls hx hb S0 hG hA h hret hl
  have S0 : CF p m c cX11_walks 6 s args RX11 := S0
  have hl : lv_has ls 6 [(0, .ref (a 0)), (1, .int (nI x))] := hl
  have h5 := hI.2.2.2.2 x hx1
  have h6 := due_le hI x
  have h7 := walk_le hI hx1
  refine lv_aload_n hx hb dX11_walks_0 rfl (lv_at hl 0 rfl) ?_
  refine gM_due S0 hG h dX11_walks_1 ?_
  refine lv_iload_n hx hb dX11_walks_4 rfl (lv_at hl 1 rfl) ?_
  refine lv_aload_n hx hb dX11_walks_5 rfl (lv_at hl 0 rfl) ?_
  refine lv_iload_n hx hb dX11_walks_6 rfl (lv_at hl 1 rfl) ?_
  refine cV_i0 S0 hG hA h hl.1 kw_RX11_84 kdV_X11_dueOf (c_X11_dueOf hI (by omega)) ⟨rfl, rfl, by decide, by decide, Nat.le_refl _, Nat.le_refl _⟩ rfl 11 0 rfl rfl rfl (Nat.le_of_ble_eq_true rfl) dX11_walks_7 (fun _ => rfl) (fun r u H locs hq h => ?_)
  obtain rfl := hq
  refine sM_due S0 hG h (by omega) dX11_walks_10 (fun H locs h => ?_)
  refine lv_aload_n hx hb dX11_walks_11 rfl (lv_at hl 0 rfl) ?_
  refine lv_iload_n hx hb dX11_walks_12 rfl (lv_at hl 1 rfl) ?_
  refine lv_iconst (v := nI 1) hx hb dX11_walks_13 (by decide) ?_
  refine cV_i0 S0 hG hA h hl.1 kw_RX11_59 kdV_X11_its (c_X11_its (by omega) (by omega)) ⟨rfl, rfl, by decide, by decide, Nat.le_refl _, Nat.le_refl _⟩ rfl 11 0 rfl rfl rfl (Nat.le_of_ble_eq_true rfl) dX11_walks_14 (fun _ => rfl) (fun r u H locs hq h => ?_)
  obtain rfl := hq
  refine lv_istore_n hx hb dX11_walks_17 rfl hl (by decide) rfl (fun ls hl => ?_)
  refine lv_aload_n hx hb dX11_walks_18 rfl (lv_at hl 1 rfl) ?_
  refine gM_due S0 hG h dX11_walks_19 ?_
  refine lv_iload_n hx hb dX11_walks_22 rfl (lv_at hl 2 rfl) ?_
  refine rM_due S0 hG h (by omega) dX11_walks_23 ?_
  refine tN (nI_cong (va_up_s _ _ _)) ?_
  refine lv_iload_n hx hb dX11_walks_24 rfl (lv_at hl 0 rfl) ?_
  refine n_cle hx hb (by omega) (by omega) (tgt := 39) dX11_walks_25 (by decide) (fun c25 => ?_) (fun c25 => ?_)
  ·
    refine lv_iload_n hx hb dX11_walks_39 rfl (lv_at hl 0 rfl) ?_
    refine lv_aload_n hx hb dX11_walks_40 rfl (lv_at hl 1 rfl) ?_
    refine gM_due S0 hG h dX11_walks_41 ?_
    refine lv_iload_n hx hb dX11_walks_44 rfl (lv_at hl 2 rfl) ?_
    refine rM_due S0 hG h (by omega) dX11_walks_45 ?_
    refine tN (nI_cong (va_up_s _ _ _)) ?_
    refine n_sub hx hb (by omega) dX11_walks_46 ?_
    refine lv_istore_n hx hb dX11_walks_47 rfl hl (by decide) rfl (fun ls hl => ?_)
    refine lv_aload_n hx hb dX11_walks_48 rfl (lv_at hl 2 rfl) ?_
    refine lv_iload_n hx hb dX11_walks_49 rfl (lv_at hl 3 rfl) ?_
    refine cV_i0 S0 hG hA h hl.1 kw_RX11_128 kdV_X11_walksOf (c_X11_walksOf hI (by omega)) ⟨rfl, rfl, by decide, by decide, Nat.le_refl _, Nat.le_refl _⟩ rfl 11 0 rfl rfl rfl (Nat.le_of_ble_eq_true rfl) dX11_walks_50 (fun _ => rfl) (fun r u H locs hq h => ?_)
    obtain rfl := hq
    refine lv_istore hx hb dX11_walks_53 hl (by decide) rfl (fun ls hl => ?_)
    refine lv_iload hx hb dX11_walks_55 (lv_at hl 0 rfl) ?_
    refine lv_iload_n hx hb dX11_walks_57 rfl (lv_at hl 1 rfl) ?_
    refine n_cge hx hb (by omega) (by omega) (tgt := 66) dX11_walks_58 (by decide) (fun c58 => ?_) (fun c58 => ?_)
    ·
      refine lv_iload_n hx hb dX11_walks_66 rfl (lv_at hl 1 rfl) ?_
      refine lv_istore hx hb dX11_walks_67 hl (by decide) rfl (fun ls hl => ?_)
      refine lv_aload_n hx hb dX11_walks_69 rfl (lv_at hl 4 rfl) ?_
      refine gM_s S0 hG h dX11_walks_70 ?_
      refine lv_iload_n hx hb dX11_walks_73 rfl (lv_at hl 5 rfl) ?_
      refine lv_iconst (v := nI 1) hx hb dX11_walks_74 (by decide) ?_
      refine cS_iE S0 hG hA h hl.1 kw_RX11_45 kdS_X11_spot (c_X11_spot) ⟨rfl, rfl, by decide, by decide, Nat.le_refl _, Nat.le_refl _⟩ rfl rfl (Nat.le_of_ble_eq_true rfl) dX11_walks_75 (fun r u H locs hq h => ?_)
      obtain rfl := hq
      refine lv_iload_n hx hb dX11_walks_78 rfl (lv_at hl 3 rfl) ?_
      refine lv_iload hx hb dX11_walks_79 (lv_at hl 0 rfl) ?_
      refine lv_aload_n hx hb dX11_walks_81 rfl (lv_at hl 4 rfl) ?_
      refine gM_due S0 hG h dX11_walks_82 ?_
      refine lv_iload_n hx hb dX11_walks_85 rfl (lv_at hl 5 rfl) ?_
      refine rM_due S0 hG h (by omega) dX11_walks_86 ?_
      refine tN (nI_cong (va_up_s _ _ _)) ?_
      refine lv_iload_n hx hb dX11_walks_87 rfl (lv_at hl 3 rfl) ?_
      refine lv_isub hx hb dX11_walks_88 ?_
      refine cS_iE S0 hG hA h hl.1 kw_RX11_110 kdS_X11_signOf (c_X11_signOf) ⟨rfl, rfl, by decide, by decide, Nat.le_refl _, Nat.le_refl _⟩ rfl rfl (Nat.le_of_ble_eq_true rfl) dX11_walks_89 (fun r u H locs hq h => ?_)
      obtain rfl := hq
      refine lv_imul hx hb dX11_walks_92 ?_
      refine lv_iadd hx hb dX11_walks_93 ?_
      refine tN (t := newAt f x) (by rw [step_nI _ (by omega) _ (by omega) _ (by omega) (by omega)]; exact nI_cong (by unfold newAt; split <;> omega)) ?_
      refine sM_s S0 hG h (by omega) dX11_walks_94 (fun H locs h => ?_)
      exact hret () _ _ _ _ trivial h dX11_walks_95
    ·
      refine lv_iload hx hb dX11_walks_61 (lv_at hl 0 rfl) ?_
      refine lv_goto (tgt := 67) hx hb dX11_walks_63 (by decide) ?_
      refine lv_istore hx hb dX11_walks_67 hl (by decide) rfl (fun ls hl => ?_)
      refine lv_aload_n hx hb dX11_walks_69 rfl (lv_at hl 4 rfl) ?_
      refine gM_s S0 hG h dX11_walks_70 ?_
      refine lv_iload_n hx hb dX11_walks_73 rfl (lv_at hl 5 rfl) ?_
      refine lv_iconst (v := nI 1) hx hb dX11_walks_74 (by decide) ?_
      refine cS_iE S0 hG hA h hl.1 kw_RX11_45 kdS_X11_spot (c_X11_spot) ⟨rfl, rfl, by decide, by decide, Nat.le_refl _, Nat.le_refl _⟩ rfl rfl (Nat.le_of_ble_eq_true rfl) dX11_walks_75 (fun r u H locs hq h => ?_)
      obtain rfl := hq
      refine lv_iload_n hx hb dX11_walks_78 rfl (lv_at hl 3 rfl) ?_
      refine lv_iload hx hb dX11_walks_79 (lv_at hl 0 rfl) ?_
      refine lv_aload_n hx hb dX11_walks_81 rfl (lv_at hl 4 rfl) ?_
      refine gM_due S0 hG h dX11_walks_82 ?_
      refine lv_iload_n hx hb dX11_walks_85 rfl (lv_at hl 5 rfl) ?_
      refine rM_due S0 hG h (by omega) dX11_walks_86 ?_
      refine tN (nI_cong (va_up_s _ _ _)) ?_
      refine lv_iload_n hx hb dX11_walks_87 rfl (lv_at hl 3 rfl) ?_
      refine lv_isub hx hb dX11_walks_88 ?_
      refine cS_iE S0 hG hA h hl.1 kw_RX11_110 kdS_X11_signOf (c_X11_signOf) ⟨rfl, rfl, by decide, by decide, Nat.le_refl _, Nat.le_refl _⟩ rfl rfl (Nat.le_of_ble_eq_true rfl) dX11_walks_89 (fun r u H locs hq h => ?_)
      obtain rfl := hq
      refine lv_imul hx hb dX11_walks_92 ?_
      refine lv_iadd hx hb dX11_walks_93 ?_
      refine tN (t := newAt f x) (by rw [step_nI _ (by omega) _ (by omega) _ (by omega) (by omega)]; exact nI_cong (by unfold newAt; split <;> omega)) ?_
      refine sM_s S0 hG h (by omega) dX11_walks_94 (fun H locs h => ?_)
      exact hret () _ _ _ _ trivial h dX11_walks_95
  ·
    refine lv_aload_n hx hb dX11_walks_28 rfl (lv_at hl 1 rfl) ?_
    refine gM_due S0 hG h dX11_walks_29 ?_
    refine lv_iload_n hx hb dX11_walks_32 rfl (lv_at hl 2 rfl) ?_
    refine rM_due S0 hG h (by omega) dX11_walks_33 ?_
    refine tN (nI_cong (va_up_s _ _ _)) ?_
    refine lv_iload_n hx hb dX11_walks_34 rfl (lv_at hl 0 rfl) ?_
    refine n_sub hx hb (by omega) dX11_walks_35 ?_
    refine lv_goto (tgt := 47) hx hb dX11_walks_36 (by decide) ?_
    refine lv_istore_n hx hb dX11_walks_47 rfl hl (by decide) rfl (fun ls hl => ?_)
    refine lv_aload_n hx hb dX11_walks_48 rfl (lv_at hl 2 rfl) ?_
    refine lv_iload_n hx hb dX11_walks_49 rfl (lv_at hl 3 rfl) ?_
    refine cV_i0 S0 hG hA h hl.1 kw_RX11_128 kdV_X11_walksOf (c_X11_walksOf hI (by omega)) ⟨rfl, rfl, by decide, by decide, Nat.le_refl _, Nat.le_refl _⟩ rfl 11 0 rfl rfl rfl (Nat.le_of_ble_eq_true rfl) dX11_walks_50 (fun _ => rfl) (fun r u H locs hq h => ?_)
    obtain rfl := hq
    refine lv_istore hx hb dX11_walks_53 hl (by decide) rfl (fun ls hl => ?_)
    refine lv_iload hx hb dX11_walks_55 (lv_at hl 0 rfl) ?_
    refine lv_iload_n hx hb dX11_walks_57 rfl (lv_at hl 1 rfl) ?_
    refine n_cge hx hb (by omega) (by omega) (tgt := 66) dX11_walks_58 (by decide) (fun c58 => ?_) (fun c58 => ?_)
    ·
      refine lv_iload_n hx hb dX11_walks_66 rfl (lv_at hl 1 rfl) ?_
      refine lv_istore hx hb dX11_walks_67 hl (by decide) rfl (fun ls hl => ?_)
      refine lv_aload_n hx hb dX11_walks_69 rfl (lv_at hl 4 rfl) ?_
      refine gM_s S0 hG h dX11_walks_70 ?_
      refine lv_iload_n hx hb dX11_walks_73 rfl (lv_at hl 5 rfl) ?_
      refine lv_iconst (v := nI 1) hx hb dX11_walks_74 (by decide) ?_
      refine cS_iE S0 hG hA h hl.1 kw_RX11_45 kdS_X11_spot (c_X11_spot) ⟨rfl, rfl, by decide, by decide, Nat.le_refl _, Nat.le_refl _⟩ rfl rfl (Nat.le_of_ble_eq_true rfl) dX11_walks_75 (fun r u H locs hq h => ?_)
      obtain rfl := hq
      refine lv_iload_n hx hb dX11_walks_78 rfl (lv_at hl 3 rfl) ?_
      refine lv_iload hx hb dX11_walks_79 (lv_at hl 0 rfl) ?_
      refine lv_aload_n hx hb dX11_walks_81 rfl (lv_at hl 4 rfl) ?_
      refine gM_due S0 hG h dX11_walks_82 ?_
      refine lv_iload_n hx hb dX11_walks_85 rfl (lv_at hl 5 rfl) ?_
      refine rM_due S0 hG h (by omega) dX11_walks_86 ?_
      refine tN (nI_cong (va_up_s _ _ _)) ?_
      refine lv_iload_n hx hb dX11_walks_87 rfl (lv_at hl 3 rfl) ?_
      refine lv_isub hx hb dX11_walks_88 ?_
      refine cS_iE S0 hG hA h hl.1 kw_RX11_110 kdS_X11_signOf (c_X11_signOf) ⟨rfl, rfl, by decide, by decide, Nat.le_refl _, Nat.le_refl _⟩ rfl rfl (Nat.le_of_ble_eq_true rfl) dX11_walks_89 (fun r u H locs hq h => ?_)
      obtain rfl := hq
      refine lv_imul hx hb dX11_walks_92 ?_
      refine lv_iadd hx hb dX11_walks_93 ?_
      refine tN (t := newAt f x) (by rw [step_nI _ (by omega) _ (by omega) _ (by omega) (by omega)]; exact nI_cong (by unfold newAt; split <;> omega)) ?_
      refine sM_s S0 hG h (by omega) dX11_walks_94 (fun H locs h => ?_)
      exact hret () _ _ _ _ trivial h dX11_walks_95
    ·
      refine lv_iload hx hb dX11_walks_61 (lv_at hl 0 rfl) ?_
      refine lv_goto (tgt := 67) hx hb dX11_walks_63 (by decide) ?_
      refine lv_istore hx hb dX11_walks_67 hl (by decide) rfl (fun ls hl => ?_)
      refine lv_aload_n hx hb dX11_walks_69 rfl (lv_at hl 4 rfl) ?_
      refine gM_s S0 hG h dX11_walks_70 ?_
      refine lv_iload_n hx hb dX11_walks_73 rfl (lv_at hl 5 rfl) ?_
      refine lv_iconst (v := nI 1) hx hb dX11_walks_74 (by decide) ?_
      refine cS_iE S0 hG hA h hl.1 kw_RX11_45 kdS_X11_spot (c_X11_spot) ⟨rfl, rfl, by decide, by decide, Nat.le_refl _, Nat.le_refl _⟩ rfl rfl (Nat.le_of_ble_eq_true rfl) dX11_walks_75 (fun r u H locs hq h => ?_)
      obtain rfl := hq
      refine lv_iload_n hx hb dX11_walks_78 rfl (lv_at hl 3 rfl) ?_
      refine lv_iload hx hb dX11_walks_79 (lv_at hl 0 rfl) ?_
      refine lv_aload_n hx hb dX11_walks_81 rfl (lv_at hl 4 rfl) ?_
      refine gM_due S0 hG h dX11_walks_82 ?_
      refine lv_iload_n hx hb dX11_walks_85 rfl (lv_at hl 5 rfl) ?_
      refine rM_due S0 hG h (by omega) dX11_walks_86 ?_
      refine tN (nI_cong (va_up_s _ _ _)) ?_
      refine lv_iload_n hx hb dX11_walks_87 rfl (lv_at hl 3 rfl) ?_
      refine lv_isub hx hb dX11_walks_88 ?_
      refine cS_iE S0 hG hA h hl.1 kw_RX11_110 kdS_X11_signOf (c_X11_signOf) ⟨rfl, rfl, by decide, by decide, Nat.le_refl _, Nat.le_refl _⟩ rfl rfl (Nat.le_of_ble_eq_true rfl) dX11_walks_89 (fun r u H locs hq h => ?_)
      obtain rfl := hq
      refine lv_imul hx hb dX11_walks_92 ?_
      refine lv_iadd hx hb dX11_walks_93 ?_
      refine tN (t := newAt f x) (by rw [step_nI _ (by omega) _ (by omega) _ (by omega) (by omega)]; exact nI_cong (by unfold newAt; split <;> omega)) ?_
      refine sM_s S0 hG h (by omega) dX11_walks_94 (fun H locs h => ?_)
      exact hret () _ _ _ _ trivial h dX11_walks_95
theorem wM_fi {f2 : Nat → Nat} {it2 : Nat} (h1 : f = f2) (h2 : it = it2) : wM G a f g o d st du tb bi si nu mo kp it tn fr to vl wr = wM G a f2 g o d st du tb bi si nu mo kp it2 tn fr to vl wr := by rw [h1, h2]
theorem kw_RX11_131 : GoodIn wsL_law (wsV RX11 131 RX11 yX11_spoilsOf (WS yX11_spoilsOf cX11_spoilsOf 2 (some .int))) := gV (rin18 _ (List.mem_of_getElem? (i := 18) rfl)) (rin18 _ (List.mem_of_getElem? (i := 19) rfl)) (rin18 _ (List.mem_of_getElem? (i := 20) rfl)) (rin1 _ (List.mem_of_getElem? (i := 5) rfl)) (rin18 _ (List.mem_of_getElem? (i := 21) rfl))
theorem kw_RX11_143 : GoodIn wsL_law (wsV RX11 143 RX11 yX11_walks (WS yX11_walks cX11_walks 6 none)) := gV (rin22 _ (List.mem_of_getElem? (i := 8) rfl)) (rin22 _ (List.mem_of_getElem? (i := 9) rfl)) (rin22 _ (List.mem_of_getElem? (i := 10) rfl)) (rin1 _ (List.mem_of_getElem? (i := 5) rfl)) (rin22 _ (List.mem_of_getElem? (i := 11) rfl))
theorem kdV_X11_spoilsOf : yX11_spoilsOf.cls = RX11 ∧ yX11_spoilsOf.cls ≠ "java/lang/invoke/MethodHandle" ∧ yX11_spoilsOf.cls ≠ "java/lang/invoke/VarHandle" ∧ (parseMethodDescriptor yX11_spoilsOf.desc).map (fun d => d.parameters.length) = some 1 := ⟨rfl, by decide +kernel, by decide +kernel, by decide +kernel⟩
theorem kdV_X11_walks : yX11_walks.cls = RX11 ∧ yX11_walks.cls ≠ "java/lang/invoke/MethodHandle" ∧ yX11_walks.cls ≠ "java/lang/invoke/VarHandle" ∧ (parseMethodDescriptor yX11_walks.desc).map (fun d => d.parameters.length) = some 1 := ⟨rfl, by decide +kernel, by decide +kernel, by decide +kernel⟩
set_option maxHeartbeats 4000000 in
set_option maxRecDepth 100000 in
theorem c_X11_minute (hI : Inv f) (h0 : f 0 < 200000) : Kv G l yX11_minute cX11_minute 5 none (RM 8 159) [.ref (a 0)] (wM G a f g o d st du tb bi si nu mo kp it tn fr to vl wr) (fun u : (Nat → Nat) × Nat => wM G a (minF f) g o d st u.1 tb bi si nu mo kp u.2 tn fr to vl wr) (fun u => u.2 = timeF f) := by
  refine Kv.of (by decide) (Nat.le_of_ble_eq_true rfl) ?_
  intro p e s m args below meth c A Q ls hx hb S0 hG hA h hret hl
  have S0 : CF p m c cX11_minute 5 s args RX11 := S0
  have hl : lv_has ls 5 [(0, .ref (a 0))] := hl
  have h1 := hI.2.1
  have lp30 : ∀ (kf : Nat) (i : Nat) (H : Heap) (locs : List Loc) (ls : Array Slot) (hi : i ≤ f 1), f 1 - i < kf → WX G A s H locs (wM G a (markN (walkN f (f 1)) (duF f) i) g o d st (dueN f du (f 1)) tb bi si nu mo kp (setN (fun p => decide (its (walkN f (f 1)) p 1 = duF f p)) i) tn fr to vl wr) → lv_has ls 5 [(0, .ref (a 0)), (1, .int (nI i))] → W p l e (RM 8 159) s m args below meth c H locs 0 0 Q (F0 m 30 ls []) := by
    intro kf
    induction kf with
    | zero => intro i H locs ls hi hm; exact absurd hm (Nat.not_lt_zero _)
    | succ kf ih30 =>
      intro i H locs ls hi hm h hl
      have hI8 := walkN_inv hI _ h1
      have hI9 := markN_inv hI8 (duF f) i
      have k9 := markN_its (walkN f (f 1)) (duF f) (q := i) (w := 1) (by omega) i
      refine lv_iload_n hx hb dX11_minute_30 rfl (lv_at hl 1 rfl) ?_
      refine lv_aload_n hx hb dX11_minute_31 rfl (lv_at hl 0 rfl) ?_
      refine gM_s S0 hG h dX11_minute_32 ?_
      refine lv_iconst (v := nI 1) hx hb dX11_minute_35 (by decide) ?_
      refine rM_s S0 hG h (by omega) dX11_minute_36 ?_
      refine tN (nI_cong ((markN_lo _ _ (by omega) i).trans (walkN_lo f (by omega) _))) ?_
      refine n_cge hx hb (by omega) (by omega) (tgt := 145) dX11_minute_37 (by decide) (fun c37 => ?_) (fun c37 => ?_)
      ·
        have e9 : i = f 1 := by omega
        subst e9
        refine lv_aload_n hx hb dX11_minute_145 rfl (lv_at hl 0 rfl) ?_
        refine gM_s S0 hG h dX11_minute_146 ?_
        refine lv_iconst (v := nI 0) hx hb dX11_minute_149 (by decide) ?_
        refine lv_dup2_11 hx hb dX11_minute_150 rfl rfl ?_
        refine rM_s S0 hG h (by omega) dX11_minute_151 ?_
        refine tN (nI_cong ((markN_lo _ _ (by omega) _).trans (walkN_lo f (by omega) _))) ?_
        refine lv_iconst (v := nI 1) hx hb dX11_minute_152 (by decide) ?_
        refine n_add hx hb dX11_minute_153 ?_
        refine sM_s S0 hG h (by omega) dX11_minute_154 (fun H locs h => ?_)
        exact hret (_, _) _ _ _ _ rfl h dX11_minute_155
      ·
        refine lv_aload_n hx hb dX11_minute_40 rfl (lv_at hl 0 rfl) ?_
        refine lv_iload_n hx hb dX11_minute_41 rfl (lv_at hl 1 rfl) ?_
        refine lv_iconst (v := nI 1) hx hb dX11_minute_42 (by decide) ?_
        refine cV_i0 S0 hG hA h hl.1 kw_RX11_59 kdV_X11_its (c_X11_its (by omega) (by omega)) ⟨rfl, rfl, by decide, by decide, Nat.le_refl _, Nat.le_refl _⟩ rfl 11 0 rfl rfl rfl (Nat.le_of_ble_eq_true rfl) dX11_minute_43 (fun _ => rfl) (fun r u H locs hq h => ?_)
        obtain rfl := hq
        refine tN (nI_cong (markN_its _ _ (by omega) i)) ?_
        refine lv_aload_n hx hb dX11_minute_46 rfl (lv_at hl 0 rfl) ?_
        refine gM_due S0 hG h dX11_minute_47 ?_
        refine lv_iload_n hx hb dX11_minute_50 rfl (lv_at hl 1 rfl) ?_
        refine rM_due S0 hG h (by omega) dX11_minute_51 ?_
        refine tN (nI_cong (dueN_at f du _ (by omega))) ?_
        have h5 := hI8.2.2.2.2 i (by omega)
        have h6 : duF f i ≤ 11 := due_le (walkN_inv hI i (by omega)) i
        refine n_cne hx hb (by omega) (by omega) (tgt := 59) dX11_minute_52 (by decide) (fun c52 => ?_) (fun c52 => ?_)
        ·
          refine lv_iconst (v := nI 0) hx hb dX11_minute_59 (by decide) ?_
          refine lv_istore_n hx hb dX11_minute_60 rfl hl (by decide) rfl (fun ls hl => ?_)
          refine lv_iload_n hx hb dX11_minute_61 rfl (lv_at hl 2 rfl) ?_
          refine lv_iload_n hx hb dX11_minute_62 rfl (lv_at hl 0 rfl) ?_
          refine n_zeq hx hb (by decide) (tgt := 70) dX11_minute_63 (by decide) (fun _ => ?_) (fun q => absurd q (by decide))
          refine lv_iconst (v := nI 4) hx hb dX11_minute_70 (by decide) ?_
          refine cS_iE S0 hG hA h hl.1 kw_RX11_45 kdS_X11_spot (c_X11_spot) ⟨rfl, rfl, by decide, by decide, Nat.le_refl _, Nat.le_refl _⟩ rfl rfl (Nat.le_of_ble_eq_true rfl) dX11_minute_71 (fun r u H locs hq h => ?_)
          obtain rfl := hq
          refine lv_istore_n hx hb dX11_minute_74 rfl hl (by decide) rfl (fun ls hl => ?_)
          refine lv_aload_n hx hb dX11_minute_75 rfl (lv_at hl 2 rfl) ?_
          refine gM_s S0 hG h dX11_minute_76 ?_
          refine lv_iload_n hx hb dX11_minute_79 rfl (lv_at hl 0 rfl) ?_
          refine rM_s S0 hG h (by omega) dX11_minute_80 ?_
          refine lv_iload_n hx hb dX11_minute_81 rfl (lv_at hl 1 rfl) ?_
          refine n_zeq hx hb (by decide) (tgt := 89) dX11_minute_82 (by decide) (fun _ => ?_) (fun q => absurd q (by decide))
          refine lv_aload_n hx hb dX11_minute_89 rfl (lv_at hl 2 rfl) ?_
          refine lv_iload_n hx hb dX11_minute_90 rfl (lv_at hl 3 rfl) ?_
          refine cV_i0 S0 hG hA h hl.1 kw_RX11_131 kdV_X11_spoilsOf (c_X11_spoilsOf hI9 (by omega)) ⟨rfl, rfl, by decide, by decide, Nat.le_refl _, Nat.le_refl _⟩ rfl 11 0 rfl rfl rfl (Nat.le_of_ble_eq_true rfl) dX11_minute_91 (fun _ => rfl) (fun r u H locs hq h => ?_)
          obtain rfl := hq
          refine n_add hx hb dX11_minute_94 ?_
          refine lv_istore hx hb dX11_minute_95 hl (by decide) rfl (fun ls hl => ?_)
          refine lv_aload_n hx hb dX11_minute_97 rfl (lv_at hl 3 rfl) ?_
          refine gM_s S0 hG h dX11_minute_98 ?_
          refine lv_iload_n hx hb dX11_minute_101 rfl (lv_at hl 1 rfl) ?_
          refine lv_iload hx hb dX11_minute_102 (lv_at hl 0 rfl) ?_
          refine lv_sipush (v := nI 9999) hx hb dX11_minute_104 (by decide) ?_
          have h7 : markN (walkN f (f 1)) (duF f) i (11 + 5 * i + 3) ≤ 9999 ∧ markN (walkN f (f 1)) (duF f) i (11 + 5 * i + 4) ≤ 9999 := (hI9.2.2.2.2 i (by omega)).2.2.2
          have h8 := spoilK_le (its (markN (walkN f (f 1)) (duF f) i) i 0)
          refine n_cle hx hb (by omega) (by omega) (tgt := 116) dX11_minute_107 (by decide) (fun c107 => ?_) (fun c107 => ?_)
          ·
            refine lv_iload hx hb dX11_minute_116 (lv_at hl 0 rfl) ?_
            refine sM_s S0 hG h (by omega) dX11_minute_118 (fun H locs h => ?_)
            refine lv_aload_n hx hb dX11_minute_119 rfl (lv_at hl 3 rfl) ?_
            refine lv_dup hx hb dX11_minute_120 rfl ?_
            refine gM_inTime S0 hG h dX11_minute_121 ?_
            refine lv_iload_n hx hb dX11_minute_124 rfl (lv_at hl 2 rfl) ?_
            refine n_zeq hx hb (by decide) (tgt := 134) dX11_minute_125 (by decide) (fun _ => ?_) (fun q => absurd q (by decide))
            refine lv_iconst (v := nI 0) hx hb dX11_minute_134 (by decide) ?_
            refine lv_ior hx hb dX11_minute_135 ?_
            refine tN (or_nI _ _) ?_
            refine pM_inTime S0 hG h dX11_minute_136 (fun H locs h => ?_)
            refine lv_iinc hx hb dX11_minute_139 hl (k := 4) rfl (inc_1 _) (by decide) rfl (fun ls hl => ?_)
            refine lv_goto (tgt := 30) hx hb dX11_minute_142 (by decide) ?_
            exact ih30 (i + 1) _ _ _ (by omega) (by omega) (h.eq (wM_fi (by show _ = mark1 (markN (walkN f (f 1)) (duF f) i) (duF f) i; unfold mark1; rw [k9]; (first | rw [if_pos c52] | rw [if_neg c52]); congr 1; first | (show _ = min 9999 (markN (walkN f (f 1)) (duF f) i (11 + 5 * i + 3) + 1); omega) | (show _ = min 9999 (markN (walkN f (f 1)) (duF f) i (11 + 5 * i + 4) + spoilK (its (markN (walkN f (f 1)) (duF f) i) i 0)); omega)) (by show _ = (if decide (its (walkN f (f 1)) i 1 = duF f i) = true then _ ||| 2 ^ i else _); simp [c52]))) (lv_sub hl [4, 0] rfl)
          ·
            refine lv_sipush (v := nI 9999) hx hb dX11_minute_110 (by decide) ?_
            refine lv_goto (tgt := 118) hx hb dX11_minute_113 (by decide) ?_
            refine sM_s S0 hG h (by omega) dX11_minute_118 (fun H locs h => ?_)
            refine lv_aload_n hx hb dX11_minute_119 rfl (lv_at hl 3 rfl) ?_
            refine lv_dup hx hb dX11_minute_120 rfl ?_
            refine gM_inTime S0 hG h dX11_minute_121 ?_
            refine lv_iload_n hx hb dX11_minute_124 rfl (lv_at hl 2 rfl) ?_
            refine n_zeq hx hb (by decide) (tgt := 134) dX11_minute_125 (by decide) (fun _ => ?_) (fun q => absurd q (by decide))
            refine lv_iconst (v := nI 0) hx hb dX11_minute_134 (by decide) ?_
            refine lv_ior hx hb dX11_minute_135 ?_
            refine tN (or_nI _ _) ?_
            refine pM_inTime S0 hG h dX11_minute_136 (fun H locs h => ?_)
            refine lv_iinc hx hb dX11_minute_139 hl (k := 4) rfl (inc_1 _) (by decide) rfl (fun ls hl => ?_)
            refine lv_goto (tgt := 30) hx hb dX11_minute_142 (by decide) ?_
            exact ih30 (i + 1) _ _ _ (by omega) (by omega) (h.eq (wM_fi (by show _ = mark1 (markN (walkN f (f 1)) (duF f) i) (duF f) i; unfold mark1; rw [k9]; (first | rw [if_pos c52] | rw [if_neg c52]); congr 1; first | (show _ = min 9999 (markN (walkN f (f 1)) (duF f) i (11 + 5 * i + 3) + 1); omega) | (show _ = min 9999 (markN (walkN f (f 1)) (duF f) i (11 + 5 * i + 4) + spoilK (its (markN (walkN f (f 1)) (duF f) i) i 0)); omega)) (by show _ = (if decide (its (walkN f (f 1)) i 1 = duF f i) = true then _ ||| 2 ^ i else _); simp [c52]))) (lv_sub hl [4, 0] rfl)
        ·
          refine lv_iconst (v := nI 1) hx hb dX11_minute_55 (by decide) ?_
          refine lv_goto (tgt := 60) hx hb dX11_minute_56 (by decide) ?_
          refine lv_istore_n hx hb dX11_minute_60 rfl hl (by decide) rfl (fun ls hl => ?_)
          refine lv_iload_n hx hb dX11_minute_61 rfl (lv_at hl 2 rfl) ?_
          refine lv_iload_n hx hb dX11_minute_62 rfl (lv_at hl 0 rfl) ?_
          refine n_zeq hx hb (by decide) (tgt := 70) dX11_minute_63 (by decide) (fun q => absurd q (by decide)) (fun _ => ?_)
          refine lv_iconst (v := nI 3) hx hb dX11_minute_66 (by decide) ?_
          refine lv_goto (tgt := 71) hx hb dX11_minute_67 (by decide) ?_
          refine cS_iE S0 hG hA h hl.1 kw_RX11_45 kdS_X11_spot (c_X11_spot) ⟨rfl, rfl, by decide, by decide, Nat.le_refl _, Nat.le_refl _⟩ rfl rfl (Nat.le_of_ble_eq_true rfl) dX11_minute_71 (fun r u H locs hq h => ?_)
          obtain rfl := hq
          refine lv_istore_n hx hb dX11_minute_74 rfl hl (by decide) rfl (fun ls hl => ?_)
          refine lv_aload_n hx hb dX11_minute_75 rfl (lv_at hl 2 rfl) ?_
          refine gM_s S0 hG h dX11_minute_76 ?_
          refine lv_iload_n hx hb dX11_minute_79 rfl (lv_at hl 0 rfl) ?_
          refine rM_s S0 hG h (by omega) dX11_minute_80 ?_
          refine lv_iload_n hx hb dX11_minute_81 rfl (lv_at hl 1 rfl) ?_
          refine n_zeq hx hb (by decide) (tgt := 89) dX11_minute_82 (by decide) (fun q => absurd q (by decide)) (fun _ => ?_)
          refine lv_iconst (v := nI 1) hx hb dX11_minute_85 (by decide) ?_
          refine lv_goto (tgt := 94) hx hb dX11_minute_86 (by decide) ?_
          refine n_add hx hb dX11_minute_94 ?_
          refine lv_istore hx hb dX11_minute_95 hl (by decide) rfl (fun ls hl => ?_)
          refine lv_aload_n hx hb dX11_minute_97 rfl (lv_at hl 3 rfl) ?_
          refine gM_s S0 hG h dX11_minute_98 ?_
          refine lv_iload_n hx hb dX11_minute_101 rfl (lv_at hl 1 rfl) ?_
          refine lv_iload hx hb dX11_minute_102 (lv_at hl 0 rfl) ?_
          refine lv_sipush (v := nI 9999) hx hb dX11_minute_104 (by decide) ?_
          have h7 : markN (walkN f (f 1)) (duF f) i (11 + 5 * i + 3) ≤ 9999 ∧ markN (walkN f (f 1)) (duF f) i (11 + 5 * i + 4) ≤ 9999 := (hI9.2.2.2.2 i (by omega)).2.2.2
          have h8 := spoilK_le (its (markN (walkN f (f 1)) (duF f) i) i 0)
          refine n_cle hx hb (by omega) (by omega) (tgt := 116) dX11_minute_107 (by decide) (fun c107 => ?_) (fun c107 => ?_)
          ·
            refine lv_iload hx hb dX11_minute_116 (lv_at hl 0 rfl) ?_
            refine sM_s S0 hG h (by omega) dX11_minute_118 (fun H locs h => ?_)
            refine lv_aload_n hx hb dX11_minute_119 rfl (lv_at hl 3 rfl) ?_
            refine lv_dup hx hb dX11_minute_120 rfl ?_
            refine gM_inTime S0 hG h dX11_minute_121 ?_
            refine lv_iload_n hx hb dX11_minute_124 rfl (lv_at hl 2 rfl) ?_
            refine n_zeq hx hb (by decide) (tgt := 134) dX11_minute_125 (by decide) (fun q => absurd q (by decide)) (fun _ => ?_)
            refine lv_iconst (v := nI 1) hx hb dX11_minute_128 (by decide) ?_
            refine lv_iload_n hx hb dX11_minute_129 rfl (lv_at hl 4 rfl) ?_
            refine lv_ishl hx hb dX11_minute_130 ?_
            refine tN (sh1 _ (by omega)) ?_
            refine lv_goto (tgt := 135) hx hb dX11_minute_131 (by decide) ?_
            refine lv_ior hx hb dX11_minute_135 ?_
            refine tN (or_nI _ _) ?_
            refine pM_inTime S0 hG h dX11_minute_136 (fun H locs h => ?_)
            refine lv_iinc hx hb dX11_minute_139 hl (k := 4) rfl (inc_1 _) (by decide) rfl (fun ls hl => ?_)
            refine lv_goto (tgt := 30) hx hb dX11_minute_142 (by decide) ?_
            exact ih30 (i + 1) _ _ _ (by omega) (by omega) (h.eq (wM_fi (by show _ = mark1 (markN (walkN f (f 1)) (duF f) i) (duF f) i; unfold mark1; rw [k9]; (first | rw [if_pos c52] | rw [if_neg c52]); congr 1; first | (show _ = min 9999 (markN (walkN f (f 1)) (duF f) i (11 + 5 * i + 3) + 1); omega) | (show _ = min 9999 (markN (walkN f (f 1)) (duF f) i (11 + 5 * i + 4) + spoilK (its (markN (walkN f (f 1)) (duF f) i) i 0)); omega)) (by show _ = (if decide (its (walkN f (f 1)) i 1 = duF f i) = true then _ ||| 2 ^ i else _); simp [c52]))) (lv_sub hl [4, 0] rfl)
          ·
            refine lv_sipush (v := nI 9999) hx hb dX11_minute_110 (by decide) ?_
            refine lv_goto (tgt := 118) hx hb dX11_minute_113 (by decide) ?_
            refine sM_s S0 hG h (by omega) dX11_minute_118 (fun H locs h => ?_)
            refine lv_aload_n hx hb dX11_minute_119 rfl (lv_at hl 3 rfl) ?_
            refine lv_dup hx hb dX11_minute_120 rfl ?_
            refine gM_inTime S0 hG h dX11_minute_121 ?_
            refine lv_iload_n hx hb dX11_minute_124 rfl (lv_at hl 2 rfl) ?_
            refine n_zeq hx hb (by decide) (tgt := 134) dX11_minute_125 (by decide) (fun q => absurd q (by decide)) (fun _ => ?_)
            refine lv_iconst (v := nI 1) hx hb dX11_minute_128 (by decide) ?_
            refine lv_iload_n hx hb dX11_minute_129 rfl (lv_at hl 4 rfl) ?_
            refine lv_ishl hx hb dX11_minute_130 ?_
            refine tN (sh1 _ (by omega)) ?_
            refine lv_goto (tgt := 135) hx hb dX11_minute_131 (by decide) ?_
            refine lv_ior hx hb dX11_minute_135 ?_
            refine tN (or_nI _ _) ?_
            refine pM_inTime S0 hG h dX11_minute_136 (fun H locs h => ?_)
            refine lv_iinc hx hb dX11_minute_139 hl (k := 4) rfl (inc_1 _) (by decide) rfl (fun ls hl => ?_)
            refine lv_goto (tgt := 30) hx hb dX11_minute_142 (by decide) ?_
            exact ih30 (i + 1) _ _ _ (by omega) (by omega) (h.eq (wM_fi (by show _ = mark1 (markN (walkN f (f 1)) (duF f) i) (duF f) i; unfold mark1; rw [k9]; (first | rw [if_pos c52] | rw [if_neg c52]); congr 1; first | (show _ = min 9999 (markN (walkN f (f 1)) (duF f) i (11 + 5 * i + 3) + 1); omega) | (show _ = min 9999 (markN (walkN f (f 1)) (duF f) i (11 + 5 * i + 4) + spoilK (its (markN (walkN f (f 1)) (duF f) i) i 0)); omega)) (by show _ = (if decide (its (walkN f (f 1)) i 1 = duF f i) = true then _ ||| 2 ^ i else _); simp [c52]))) (lv_sub hl [4, 0] rfl)
  have lp2 : ∀ (kf : Nat) (i : Nat) (H : Heap) (locs : List Loc) (ls : Array Slot) (hi : i ≤ f 1), f 1 - i < kf → WX G A s H locs (wM G a (walkN f i) g o d st (dueN f du i) tb bi si nu mo kp it tn fr to vl wr) → lv_has ls 5 [(0, .ref (a 0)), (1, .int (nI i))] → W p l e (RM 8 159) s m args below meth c H locs 0 0 Q (F0 m 2 ls []) := by
    intro kf
    induction kf with
    | zero => intro i H locs ls hi hm; exact absurd hm (Nat.not_lt_zero _)
    | succ kf ih2 =>
      intro i H locs ls hi hm h hl
      have hI9 := walkN_inv hI i (by omega)
      refine lv_iload_n hx hb dX11_minute_2 rfl (lv_at hl 1 rfl) ?_
      refine lv_aload_n hx hb dX11_minute_3 rfl (lv_at hl 0 rfl) ?_
      refine gM_s S0 hG h dX11_minute_4 ?_
      refine lv_iconst (v := nI 1) hx hb dX11_minute_7 (by decide) ?_
      refine rM_s S0 hG h (by omega) dX11_minute_8 ?_
      refine tN (nI_cong (walkN_lo f (by omega) i)) ?_
      refine n_cge hx hb (by omega) (by omega) (tgt := 23) dX11_minute_9 (by decide) (fun c9 => ?_) (fun c9 => ?_)
      ·
        have e9 : i = f 1 := by omega
        subst e9
        refine lv_aload_n hx hb dX11_minute_23 rfl (lv_at hl 0 rfl) ?_
        refine lv_iconst (v := nI 0) hx hb dX11_minute_24 (by decide) ?_
        refine pM_inTime S0 hG h dX11_minute_25 (fun H locs h => ?_)
        refine lv_iconst (v := nI 0) hx hb dX11_minute_28 (by decide) ?_
        refine lv_istore_n hx hb dX11_minute_29 rfl hl (by decide) rfl (fun ls hl => ?_)
        exact lp30 _ 0 _ _ _ (Nat.zero_le _) (Nat.lt_succ_self _) h (lv_sub hl [1, 0] rfl)
      ·
        refine lv_aload_n hx hb dX11_minute_12 rfl (lv_at hl 0 rfl) ?_
        refine lv_iload_n hx hb dX11_minute_13 rfl (lv_at hl 1 rfl) ?_
        refine cV_v0 S0 hG hA h hl.1 kw_RX11_143 kdV_X11_walks (c_X11_walks hI9 (by omega)) ⟨rfl, rfl, by decide, by decide, Nat.le_refl _, Nat.le_refl _⟩ rfl 11 0 rfl rfl rfl (Nat.le_of_ble_eq_true rfl) dX11_minute_14 (fun _ => rfl) (fun u H locs hq h => ?_)
        refine lv_iinc hx hb dX11_minute_17 hl (k := 1) rfl (inc_1 _) (by decide) rfl (fun ls hl => ?_)
        refine lv_goto (tgt := 2) hx hb dX11_minute_20 (by decide) ?_
        exact ih2 (i + 1) _ _ _ (by omega) (by omega) h (lv_sub hl [1, 0] rfl)
  refine lv_iconst (v := nI 0) hx hb dX11_minute_0 (by decide) ?_
  refine lv_istore_n hx hb dX11_minute_1 rfl hl (by decide) rfl (fun ls hl => ?_)
  exact lp2 _ 0 _ _ _ (Nat.zero_le _) (Nat.lt_succ_self _) h (lv_sub hl [1, 0] rfl)
