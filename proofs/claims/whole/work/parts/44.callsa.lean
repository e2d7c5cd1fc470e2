theorem cp40s {nu : Nat → Int64} {x z y w n k : Nat} : va_cpy (fun k => nu (40 * x + k)) (fun k => nu (40 * z + k)) y w n k = cpy nu (40 * x + y) (40 * z + w) n (40 * z + k) := by
  unfold va_cpy cpy
  by_cases h : w ≤ k ∧ k < w + n
  · rw [if_pos h, if_pos (by omega)]
    show nu (40 * x + (y + (k - w))) = nu (40 * x + y + (40 * z + k - (40 * z + w)))
    congr 1; omega
  · rw [if_neg h, if_neg (by omega)]
theorem cp40 {nu : Nat → Int64} {x z y w n i k : Nat} (hw : w + n ≤ 40) (hk : k < 40) (h : i ≠ z) : nu (40 * i + k) = cpy nu (40 * x + y) (40 * z + w) n (40 * i + k) := by
  unfold cpy
  rw [if_neg (by omega)]
theorem nI_nn {n : Nat} (h : n < 2147483648) : ¬ nI n < 0 := fun q => by
  have h1 := (clz _).mp q
  rw [nI_toInt h] at h1
  omega
section CPS
variable {p : Program} {l : Launch} {e : Env} {R : Room} {s : State} {m : MethodId} {args : Array Value} {below : List Frame} {meth : Method} {c : Code} {H : Heap} {locs : List Loc} {cells slots : Nat} {Q : State → Prop}
variable {cc : ByteArray} {pc nL : Nat} {ls : Array Slot} {rest : List Value} {A : Nat → Prop} {G : GT} {own : String}
variable {o : Nat → Nat} {f st tb : Row} {tn : Nat} {nu : Nat → Int64} {bi si : Row} {kp : Nat} {g : Row} {D : DT}
theorem cpSh {x y z w n : Nat} (hx : x < 4) (hz : z < 4) (S0 : CF p m c cc nL s args RX10) (hG : GX G A s) (h : WX G A s H locs (wC G o f st tb tn nu bi si kp g D)) (hl : ls.size = nL) (h4 : y + n ≤ 40) (h5 : w + n ≤ 40) (hf : 1 ≤ R.frames) (hlo : (rest.map fun v => v.category).sum + (nativeFrameWords "java/lang/System" "arraycopy" 5 + 11) ≤ R.locals) (hdg : decode cc pc = .ok (.invokestatic 216, 3)) (kk : ∀ (H1 : Heap) (locs1 : List Loc), WX G A s H1 locs1 (wC G o f st tb tn (cpy nu (40 * x + y) (40 * z + w) n) bi si kp g D) → W p l e R s m args below meth c H1 locs1 cells slots Q (F0 m (pc + 3) ls rest)) : W p l e R s m args below meth c H locs cells slots Q (F0 m pc ls (.int (nI n) :: .int (nI w) :: .ref (o (39 + 2 * z)) :: .int (nI y) :: .ref (o (39 + 2 * x)) :: rest)) := by
  refine va_copyl (ty := .long) S0.1 S0.2.1 (S0.2.2.1.trans hl.symm) S0.2.2.2.1 (S0.2.2.2.2 _ (rin38 _ (List.mem_of_getElem? (i := 0) rfl))) (S0.2.2.2.2 _ (rin22 _ (List.mem_of_getElem? (i := 20) rfl))) (S0.2.2.2.2 _ (rin22 _ (List.mem_of_getElem? (i := 21) rfl))) (S0.2.2.2.2 _ (rin22 _ (List.mem_of_getElem? (i := 22) rfl))) hG.2.2.1 h.1 h.2.1 h.2.2 (39 + 2 * x) (39 + 2 * z) 1 1 (shN hx) (shN hz) rfl rfl rfl (nI_nn (by omega)) (nI_nn (by omega)) (nI_nn (by omega)) (by rw [nI_clamp (by omega), nI_clamp (by omega)]; exact h4) (by rw [nI_clamp (by omega), nI_clamp (by omega)]; exact h5) (fun _ _ => rfl) hf hlo hdg (fun H1 locs1 hP hD hS => kk H1 locs1 ?_)
  rw [nI_clamp (show y < 2147483648 by omega), nI_clamp (show w < 2147483648 by omega), nI_clamp (show n < 2147483648 by omega)] at hP hD
  have h9 : WX G A s H1 locs1 _ := ⟨hP, hD, hS⟩
  rcases r4 hz with rfl | rfl | rfl | rfl
  · exact ((((h9.ext_l 39 rfl (fun k9 hk => cp40s)).ext_l 41 rfl (fun k9 hk => cp40 h5 hk (by decide))).ext_l 43 rfl (fun k9 hk => cp40 h5 hk (by decide))).ext_l 45 rfl (fun k9 hk => cp40 h5 hk (by decide)))
  · exact ((((h9.ext_l 39 rfl (fun k9 hk => cp40 h5 hk (by decide))).ext_l 41 rfl (fun k9 hk => cp40s)).ext_l 43 rfl (fun k9 hk => cp40 h5 hk (by decide))).ext_l 45 rfl (fun k9 hk => cp40 h5 hk (by decide)))
  · exact ((((h9.ext_l 39 rfl (fun k9 hk => cp40 h5 hk (by decide))).ext_l 41 rfl (fun k9 hk => cp40 h5 hk (by decide))).ext_l 43 rfl (fun k9 hk => cp40s)).ext_l 45 rfl (fun k9 hk => cp40 h5 hk (by decide)))
  · exact ((((h9.ext_l 39 rfl (fun k9 hk => cp40 h5 hk (by decide))).ext_l 41 rfl (fun k9 hk => cp40 h5 hk (by decide))).ext_l 43 rfl (fun k9 hk => cp40 h5 hk (by decide))).ext_l 45 rfl (fun k9 hk => cp40s))
end CPS
variable {G : GT} {l : Launch} {o : Nat → Nat} {f st tb : Row} {tn : Nat} {nu : Nat → Int64} {bi si : Row} {kp : Nat} {g : Row} {D : DT}
theorem kw_RX10_183 : GoodIn wsL_law (va_wsS RX10 183 yX10_isNoSheet (WS yX10_isNoSheet cX10_isNoSheet 1 (some .boolean))) := gS (rin35 _ (List.mem_of_getElem? (i := 22) rfl)) (rin35 _ (List.mem_of_getElem? (i := 23) rfl)) (rin1 _ (List.mem_of_getElem? (i := 2) rfl)) (rin36 _ (List.mem_of_getElem? (i := 0) rfl))
theorem kdS_X10_isNoSheet : yX10_isNoSheet.cls ≠ "java/lang/invoke/MethodHandle" ∧ yX10_isNoSheet.cls ≠ "java/lang/invoke/VarHandle" ∧ (parseMethodDescriptor yX10_isNoSheet.desc).map (fun d => d.parameters.length) = some 1 := ⟨by decide +kernel, by decide +kernel, by decide +kernel⟩
theorem kdS_X7_lay : yX7_lay.cls ≠ "java/lang/invoke/MethodHandle" ∧ yX7_lay.cls ≠ "java/lang/invoke/VarHandle" ∧ (parseMethodDescriptor yX7_lay.desc).map (fun d => d.parameters.length) = some 2 := ⟨by decide +kernel, by decide +kernel, by decide +kernel⟩
set_option maxHeartbeats 4000000 in
set_option maxRecDepth 100000 in
theorem c_X10_sheet {x y z : Int32} : Ki G l yX10_sheet cX10_sheet 4 (some .int) (RM 3 46) [.ref (o 0), .int x, .int y, .int z] (wC G o f st tb tn nu bi si kp g D) (fun u : Row × Row × (Nat → Int64) × Row => wC G o f u.2.2.2 tb tn u.2.2.1 u.1 u.2.1 kp g D) (fun r u => P_sheet bi si nu st x y z r u.1 u.2.1 u.2.2.1 u.2.2.2) := by
  refine Ki.of (by decide) (Nat.le_of_ble_eq_true rfl) ?_
  intro p e s m args below meth c A Q ls hx hb S0 hG hA h hret hl
  have S0 : CF p m c cX10_sheet 4 s args RX10 := S0
  have hl : lv_has ls 4 [(0, .ref (o 0)), (1, .int x), (2, .int y), (3, .int z)] := hl
  refine lv_iload_n hx hb dX10_sheet_0 rfl (lv_at hl 1 rfl) ?_
  refine cS_iE S0 hG hA h hl.1 kw_RX10_183 kdS_X10_isNoSheet (c_X10_isNoSheet) ⟨rfl, rfl, by decide, by decide, Nat.le_refl _, Nat.le_refl _⟩ rfl rfl (Nat.le_of_ble_eq_true rfl) dX10_sheet_1 (fun r u H locs hq h => ?_)
  rcases hq with ⟨rfl, b1⟩ | ⟨rfl, b1⟩
  ·
    refine n_zne hx hb (by decide) (tgt := 29) dX10_sheet_4 (by decide) (fun _ => ?_) (fun q => absurd q (by decide))
    refine lv_aload_n hx hb dX10_sheet_29 rfl (lv_at hl 0 rfl) ?_
    refine lv_ldc (v := -1000000001) hx hb S0.2.2.2.1 (S0.2.2.2.2 _ (rin6 _ (List.mem_of_getElem? (i := 6) rfl))) dX10_sheet_30 ?_
    refine cV_i0 S0 hG hA h hl.1 kw_RX10_58 kdV_X10_tell (c_X10_tell (k := 0) (by decide) (by decide)) ⟨rfl, rfl, by decide, by decide, Nat.le_refl _, Nat.le_refl _⟩ rfl 10 0 rfl rfl rfl (Nat.le_of_ble_eq_true rfl) dX10_sheet_32 (fun _ => rfl) (fun r u H locs hq h => ?_)
    obtain rfl := hq
    exact hret _ (bi, si, nu, bump st 0) _ _ _ _ (Or.inr ⟨fun q => b1 q.1, rfl, rfl, rfl, rfl, rfl⟩) h dX10_sheet_35
  ·
    obtain ⟨jx, rfl, jx1, jx2⟩ := inR_nat b1
    refine n_zne hx hb (by decide) (tgt := 29) dX10_sheet_4 (by decide) (fun q => absurd q (by decide)) (fun _ => ?_)
    refine lv_iload_n hx hb dX10_sheet_7 rfl (lv_at hl 2 rfl) ?_
    refine lv_if_eq hx hb (tgt := 36) dX10_sheet_8 (by decide) (fun c8 => ?_) (fun c8 => ?_)
    ·
      obtain ⟨yn, rfl, yv, yq⟩ : ∃ yn : Nat, y = nI yn ∧ (yn = 0 ∨ yn = 8 ∨ yn = 16 ∨ yn = 64) ∧ yn < 2147483648 := ⟨0, c8, by decide, by decide⟩
      refine lv_iload_n hx hb dX10_sheet_36 rfl (lv_at hl 3 rfl) ?_
      refine lv_if_ge hx hb (tgt := 47) dX10_sheet_37 (by decide) (fun c37 => ?_) (fun c37 => ?_)
      ·
        refine lv_iload_n hx hb dX10_sheet_47 rfl (lv_at hl 3 rfl) ?_
        refine lv_bipush (v := nI 40) hx hb dX10_sheet_48 (by decide) ?_
        refine lv_icmp_le hx hb (tgt := 60) dX10_sheet_50 (by decide) (fun c50 => ?_) (fun c50 => ?_)
        ·
          have bz : inR z 0 40 := ⟨(cz0 z).mp c37, (czn z (by decide)).mp c50⟩
          obtain ⟨jz, rfl, jz1, jz2⟩ := inR_nat bz
          have iy : (nI yn).toInt = 0 ↔ yn = 0 := by rw [nI_toInt yq]; omega
          refine lv_aload_n hx hb dX10_sheet_60 rfl (lv_at hl 0 rfl) ?_
          refine gC_sheets S0 hG h dX10_sheet_61 ?_
          refine lv_iload_n hx hb dX10_sheet_64 rfl (lv_at hl 1 rfl) ?_
          refine aC_sheets S0 hG h (by omega) dX10_sheet_65 ?_
          refine lv_iload_n hx hb dX10_sheet_66 rfl (lv_at hl 2 rfl) ?_
          refine lv_iload_n hx hb dX10_sheet_67 rfl (lv_at hl 3 rfl) ?_
          refine cN_vC (w2 := fun _ => wLay G o f st tb tn nu bi si kp g D jx yn (if yn = 0 then 0 else jz)) S0 hG hA h hl.1 (ws_ok (rin36 _ (List.mem_of_getElem? (i := 3) rfl))) (rin2 _ (List.mem_of_getElem? (i := 8) rfl)) (rin36 _ (List.mem_of_getElem? (i := 1) rfl)) (rin36 _ (List.mem_of_getElem? (i := 2) rfl)) (host := "ComposedInterval") (List.mem_of_getElem? (i := 61) rfl) kdS_X7_lay (c_X7_lay (a := aSh o jx) (nu := fun k => nu (40 * jx + k)) (bb := bi jx) (ss := si jx) (by omega)) ⟨rfl, rfl, by decide, by decide, Nat.le_refl _, Nat.le_refl _⟩ rfl 7 (38 + 2 * jx) rfl (shO (by omega)) (shC jx) (shC_nd (by omega)) (shC_m (by omega)) (shC_f (by omega)) rfl (Nat.le_of_ble_eq_true rfl) dX10_sheet_68 (fun _ H1 hk hP1 => WX.back h (shC jx) (shC_m (by omega)) hk hP1 (wLay_fit (by omega))) (fun _ => wLay_a (by omega)) (fun u H locs hq h => ?_)
          have h := wLay_to (by omega) h
          refine lv_aload_n hx hb dX10_sheet_71 rfl (lv_at hl 0 rfl) ?_
          refine gC_sheets S0 hG h dX10_sheet_72 ?_
          refine lv_iload_n hx hb dX10_sheet_75 rfl (lv_at hl 1 rfl) ?_
          refine aC_sheets S0 hG h (by omega) dX10_sheet_76 ?_
          refine gSh_size (x := jx) (by omega) S0 hG h dX10_sheet_77 ?_
          refine tN (nI_cong (va_up_s _ _ _)) ?_
          exact hret _ (va_up bi jx yn, va_up si jx (if yn = 0 then 0 else jz), znu nu jx 40, st) _ _ _ _ (Or.inl ⟨⟨b1, by unfold okB; rw [nI_toInt yq]; omega⟩, Or.inr (Or.inr ⟨bz, by simp only [iy, nt_nI jz2], by simp only [nt_nI jx2, nt_nI yq], by simp only [iy, nt_nI jx2, nt_nI jz2], by simp only [nt_nI jx2], rfl⟩)⟩) h dX10_sheet_80
        ·
          refine lv_aload_n hx hb dX10_sheet_53 rfl (lv_at hl 0 rfl) ?_
          refine lv_ldc (v := -1000000001) hx hb S0.2.2.2.1 (S0.2.2.2.2 _ (rin6 _ (List.mem_of_getElem? (i := 6) rfl))) dX10_sheet_54 ?_
          refine cV_i0 S0 hG hA h hl.1 kw_RX10_58 kdV_X10_tell (c_X10_tell (k := 0) (by decide) (by decide)) ⟨rfl, rfl, by decide, by decide, Nat.le_refl _, Nat.le_refl _⟩ rfl 10 0 rfl rfl rfl (Nat.le_of_ble_eq_true rfl) dX10_sheet_56 (fun _ => rfl) (fun r u H locs hq h => ?_)
          obtain rfl := hq
          exact hret _ (bi, si, nu, bump st 0) _ _ _ _ (Or.inl ⟨⟨b1, by unfold okB; rw [nI_toInt yq]; omega⟩, Or.inr (Or.inl ⟨Int.not_le.mp (fun z9 => c50 ((czn z (by decide)).mpr z9)), rfl, rfl, rfl, rfl, rfl⟩)⟩) h dX10_sheet_59
      ·
        refine lv_aload_n hx hb dX10_sheet_40 rfl (lv_at hl 0 rfl) ?_
        refine lv_ldc (v := -1000000007) hx hb S0.2.2.2.1 (S0.2.2.2.2 _ (rin35 _ (List.mem_of_getElem? (i := 21) rfl))) dX10_sheet_41 ?_
        refine cV_i0 S0 hG hA h hl.1 kw_RX10_58 kdV_X10_tell (c_X10_tell (k := 6) (by decide) (by decide)) ⟨rfl, rfl, by decide, by decide, Nat.le_refl _, Nat.le_refl _⟩ rfl 10 0 rfl rfl rfl (Nat.le_of_ble_eq_true rfl) dX10_sheet_43 (fun _ => rfl) (fun r u H locs hq h => ?_)
        obtain rfl := hq
        exact hret _ (bi, si, nu, bump st 6) _ _ _ _ (Or.inl ⟨⟨b1, by unfold okB; rw [nI_toInt yq]; omega⟩, Or.inl ⟨Int.not_le.mp (fun z9 => c37 ((cz0 z).mpr z9)), rfl, rfl, rfl, rfl, rfl⟩⟩) h dX10_sheet_46
    ·
      refine lv_iload_n hx hb dX10_sheet_11 rfl (lv_at hl 2 rfl) ?_
      refine lv_bipush (v := nI 8) hx hb dX10_sheet_12 (by decide) ?_
      refine lv_icmp_eq hx hb (tgt := 36) dX10_sheet_14 (by decide) (fun c14 => ?_) (fun c14 => ?_)
      ·
        obtain ⟨yn, rfl, yv, yq⟩ : ∃ yn : Nat, y = nI yn ∧ (yn = 0 ∨ yn = 8 ∨ yn = 16 ∨ yn = 64) ∧ yn < 2147483648 := ⟨8, c14, by decide, by decide⟩
        refine lv_iload_n hx hb dX10_sheet_36 rfl (lv_at hl 3 rfl) ?_
        refine lv_if_ge hx hb (tgt := 47) dX10_sheet_37 (by decide) (fun c37 => ?_) (fun c37 => ?_)
        ·
          refine lv_iload_n hx hb dX10_sheet_47 rfl (lv_at hl 3 rfl) ?_
          refine lv_bipush (v := nI 40) hx hb dX10_sheet_48 (by decide) ?_
          refine lv_icmp_le hx hb (tgt := 60) dX10_sheet_50 (by decide) (fun c50 => ?_) (fun c50 => ?_)
          ·
            have bz : inR z 0 40 := ⟨(cz0 z).mp c37, (czn z (by decide)).mp c50⟩
            obtain ⟨jz, rfl, jz1, jz2⟩ := inR_nat bz
            have iy : (nI yn).toInt = 0 ↔ yn = 0 := by rw [nI_toInt yq]; omega
            refine lv_aload_n hx hb dX10_sheet_60 rfl (lv_at hl 0 rfl) ?_
            refine gC_sheets S0 hG h dX10_sheet_61 ?_
            refine lv_iload_n hx hb dX10_sheet_64 rfl (lv_at hl 1 rfl) ?_
            refine aC_sheets S0 hG h (by omega) dX10_sheet_65 ?_
            refine lv_iload_n hx hb dX10_sheet_66 rfl (lv_at hl 2 rfl) ?_
            refine lv_iload_n hx hb dX10_sheet_67 rfl (lv_at hl 3 rfl) ?_
            refine cN_vC (w2 := fun _ => wLay G o f st tb tn nu bi si kp g D jx yn (if yn = 0 then 0 else jz)) S0 hG hA h hl.1 (ws_ok (rin36 _ (List.mem_of_getElem? (i := 3) rfl))) (rin2 _ (List.mem_of_getElem? (i := 8) rfl)) (rin36 _ (List.mem_of_getElem? (i := 1) rfl)) (rin36 _ (List.mem_of_getElem? (i := 2) rfl)) (host := "ComposedInterval") (List.mem_of_getElem? (i := 61) rfl) kdS_X7_lay (c_X7_lay (a := aSh o jx) (nu := fun k => nu (40 * jx + k)) (bb := bi jx) (ss := si jx) (by omega)) ⟨rfl, rfl, by decide, by decide, Nat.le_refl _, Nat.le_refl _⟩ rfl 7 (38 + 2 * jx) rfl (shO (by omega)) (shC jx) (shC_nd (by omega)) (shC_m (by omega)) (shC_f (by omega)) rfl (Nat.le_of_ble_eq_true rfl) dX10_sheet_68 (fun _ H1 hk hP1 => WX.back h (shC jx) (shC_m (by omega)) hk hP1 (wLay_fit (by omega))) (fun _ => wLay_a (by omega)) (fun u H locs hq h => ?_)
            have h := wLay_to (by omega) h
            refine lv_aload_n hx hb dX10_sheet_71 rfl (lv_at hl 0 rfl) ?_
            refine gC_sheets S0 hG h dX10_sheet_72 ?_
            refine lv_iload_n hx hb dX10_sheet_75 rfl (lv_at hl 1 rfl) ?_
            refine aC_sheets S0 hG h (by omega) dX10_sheet_76 ?_
            refine gSh_size (x := jx) (by omega) S0 hG h dX10_sheet_77 ?_
            refine tN (nI_cong (va_up_s _ _ _)) ?_
            exact hret _ (va_up bi jx yn, va_up si jx (if yn = 0 then 0 else jz), znu nu jx 40, st) _ _ _ _ (Or.inl ⟨⟨b1, by unfold okB; rw [nI_toInt yq]; omega⟩, Or.inr (Or.inr ⟨bz, by simp only [iy, nt_nI jz2], by simp only [nt_nI jx2, nt_nI yq], by simp only [iy, nt_nI jx2, nt_nI jz2], by simp only [nt_nI jx2], rfl⟩)⟩) h dX10_sheet_80
          ·
            refine lv_aload_n hx hb dX10_sheet_53 rfl (lv_at hl 0 rfl) ?_
            refine lv_ldc (v := -1000000001) hx hb S0.2.2.2.1 (S0.2.2.2.2 _ (rin6 _ (List.mem_of_getElem? (i := 6) rfl))) dX10_sheet_54 ?_
            refine cV_i0 S0 hG hA h hl.1 kw_RX10_58 kdV_X10_tell (c_X10_tell (k := 0) (by decide) (by decide)) ⟨rfl, rfl, by decide, by decide, Nat.le_refl _, Nat.le_refl _⟩ rfl 10 0 rfl rfl rfl (Nat.le_of_ble_eq_true rfl) dX10_sheet_56 (fun _ => rfl) (fun r u H locs hq h => ?_)
            obtain rfl := hq
            exact hret _ (bi, si, nu, bump st 0) _ _ _ _ (Or.inl ⟨⟨b1, by unfold okB; rw [nI_toInt yq]; omega⟩, Or.inr (Or.inl ⟨Int.not_le.mp (fun z9 => c50 ((czn z (by decide)).mpr z9)), rfl, rfl, rfl, rfl, rfl⟩)⟩) h dX10_sheet_59
        ·
          refine lv_aload_n hx hb dX10_sheet_40 rfl (lv_at hl 0 rfl) ?_
          refine lv_ldc (v := -1000000007) hx hb S0.2.2.2.1 (S0.2.2.2.2 _ (rin35 _ (List.mem_of_getElem? (i := 21) rfl))) dX10_sheet_41 ?_
          refine cV_i0 S0 hG hA h hl.1 kw_RX10_58 kdV_X10_tell (c_X10_tell (k := 6) (by decide) (by decide)) ⟨rfl, rfl, by decide, by decide, Nat.le_refl _, Nat.le_refl _⟩ rfl 10 0 rfl rfl rfl (Nat.le_of_ble_eq_true rfl) dX10_sheet_43 (fun _ => rfl) (fun r u H locs hq h => ?_)
          obtain rfl := hq
          exact hret _ (bi, si, nu, bump st 6) _ _ _ _ (Or.inl ⟨⟨b1, by unfold okB; rw [nI_toInt yq]; omega⟩, Or.inl ⟨Int.not_le.mp (fun z9 => c37 ((cz0 z).mpr z9)), rfl, rfl, rfl, rfl, rfl⟩⟩) h dX10_sheet_46
      ·
        refine lv_iload_n hx hb dX10_sheet_17 rfl (lv_at hl 2 rfl) ?_
        refine lv_bipush (v := nI 16) hx hb dX10_sheet_18 (by decide) ?_
        refine lv_icmp_eq hx hb (tgt := 36) dX10_sheet_20 (by decide) (fun c20 => ?_) (fun c20 => ?_)
        ·
          obtain ⟨yn, rfl, yv, yq⟩ : ∃ yn : Nat, y = nI yn ∧ (yn = 0 ∨ yn = 8 ∨ yn = 16 ∨ yn = 64) ∧ yn < 2147483648 := ⟨16, c20, by decide, by decide⟩
          refine lv_iload_n hx hb dX10_sheet_36 rfl (lv_at hl 3 rfl) ?_
          refine lv_if_ge hx hb (tgt := 47) dX10_sheet_37 (by decide) (fun c37 => ?_) (fun c37 => ?_)
          ·
            refine lv_iload_n hx hb dX10_sheet_47 rfl (lv_at hl 3 rfl) ?_
            refine lv_bipush (v := nI 40) hx hb dX10_sheet_48 (by decide) ?_
            refine lv_icmp_le hx hb (tgt := 60) dX10_sheet_50 (by decide) (fun c50 => ?_) (fun c50 => ?_)
            ·
              have bz : inR z 0 40 := ⟨(cz0 z).mp c37, (czn z (by decide)).mp c50⟩
              obtain ⟨jz, rfl, jz1, jz2⟩ := inR_nat bz
              have iy : (nI yn).toInt = 0 ↔ yn = 0 := by rw [nI_toInt yq]; omega
              refine lv_aload_n hx hb dX10_sheet_60 rfl (lv_at hl 0 rfl) ?_
              refine gC_sheets S0 hG h dX10_sheet_61 ?_
              refine lv_iload_n hx hb dX10_sheet_64 rfl (lv_at hl 1 rfl) ?_
              refine aC_sheets S0 hG h (by omega) dX10_sheet_65 ?_
              refine lv_iload_n hx hb dX10_sheet_66 rfl (lv_at hl 2 rfl) ?_
              refine lv_iload_n hx hb dX10_sheet_67 rfl (lv_at hl 3 rfl) ?_
              refine cN_vC (w2 := fun _ => wLay G o f st tb tn nu bi si kp g D jx yn (if yn = 0 then 0 else jz)) S0 hG hA h hl.1 (ws_ok (rin36 _ (List.mem_of_getElem? (i := 3) rfl))) (rin2 _ (List.mem_of_getElem? (i := 8) rfl)) (rin36 _ (List.mem_of_getElem? (i := 1) rfl)) (rin36 _ (List.mem_of_getElem? (i := 2) rfl)) (host := "ComposedInterval") (List.mem_of_getElem? (i := 61) rfl) kdS_X7_lay (c_X7_lay (a := aSh o jx) (nu := fun k => nu (40 * jx + k)) (bb := bi jx) (ss := si jx) (by omega)) ⟨rfl, rfl, by decide, by decide, Nat.le_refl _, Nat.le_refl _⟩ rfl 7 (38 + 2 * jx) rfl (shO (by omega)) (shC jx) (shC_nd (by omega)) (shC_m (by omega)) (shC_f (by omega)) rfl (Nat.le_of_ble_eq_true rfl) dX10_sheet_68 (fun _ H1 hk hP1 => WX.back h (shC jx) (shC_m (by omega)) hk hP1 (wLay_fit (by omega))) (fun _ => wLay_a (by omega)) (fun u H locs hq h => ?_)
              have h := wLay_to (by omega) h
              refine lv_aload_n hx hb dX10_sheet_71 rfl (lv_at hl 0 rfl) ?_
              refine gC_sheets S0 hG h dX10_sheet_72 ?_
              refine lv_iload_n hx hb dX10_sheet_75 rfl (lv_at hl 1 rfl) ?_
              refine aC_sheets S0 hG h (by omega) dX10_sheet_76 ?_
              refine gSh_size (x := jx) (by omega) S0 hG h dX10_sheet_77 ?_
              refine tN (nI_cong (va_up_s _ _ _)) ?_
              exact hret _ (va_up bi jx yn, va_up si jx (if yn = 0 then 0 else jz), znu nu jx 40, st) _ _ _ _ (Or.inl ⟨⟨b1, by unfold okB; rw [nI_toInt yq]; omega⟩, Or.inr (Or.inr ⟨bz, by simp only [iy, nt_nI jz2], by simp only [nt_nI jx2, nt_nI yq], by simp only [iy, nt_nI jx2, nt_nI jz2], by simp only [nt_nI jx2], rfl⟩)⟩) h dX10_sheet_80
            ·
              refine lv_aload_n hx hb dX10_sheet_53 rfl (lv_at hl 0 rfl) ?_
              refine lv_ldc (v := -1000000001) hx hb S0.2.2.2.1 (S0.2.2.2.2 _ (rin6 _ (List.mem_of_getElem? (i := 6) rfl))) dX10_sheet_54 ?_
              refine cV_i0 S0 hG hA h hl.1 kw_RX10_58 kdV_X10_tell (c_X10_tell (k := 0) (by decide) (by decide)) ⟨rfl, rfl, by decide, by decide, Nat.le_refl _, Nat.le_refl _⟩ rfl 10 0 rfl rfl rfl (Nat.le_of_ble_eq_true rfl) dX10_sheet_56 (fun _ => rfl) (fun r u H locs hq h => ?_)
              obtain rfl := hq
              exact hret _ (bi, si, nu, bump st 0) _ _ _ _ (Or.inl ⟨⟨b1, by unfold okB; rw [nI_toInt yq]; omega⟩, Or.inr (Or.inl ⟨Int.not_le.mp (fun z9 => c50 ((czn z (by decide)).mpr z9)), rfl, rfl, rfl, rfl, rfl⟩)⟩) h dX10_sheet_59
          ·
            refine lv_aload_n hx hb dX10_sheet_40 rfl (lv_at hl 0 rfl) ?_
            refine lv_ldc (v := -1000000007) hx hb S0.2.2.2.1 (S0.2.2.2.2 _ (rin35 _ (List.mem_of_getElem? (i := 21) rfl))) dX10_sheet_41 ?_
            refine cV_i0 S0 hG hA h hl.1 kw_RX10_58 kdV_X10_tell (c_X10_tell (k := 6) (by decide) (by decide)) ⟨rfl, rfl, by decide, by decide, Nat.le_refl _, Nat.le_refl _⟩ rfl 10 0 rfl rfl rfl (Nat.le_of_ble_eq_true rfl) dX10_sheet_43 (fun _ => rfl) (fun r u H locs hq h => ?_)
            obtain rfl := hq
            exact hret _ (bi, si, nu, bump st 6) _ _ _ _ (Or.inl ⟨⟨b1, by unfold okB; rw [nI_toInt yq]; omega⟩, Or.inl ⟨Int.not_le.mp (fun z9 => c37 ((cz0 z).mpr z9)), rfl, rfl, rfl, rfl, rfl⟩⟩) h dX10_sheet_46
        ·
          refine lv_iload_n hx hb dX10_sheet_23 rfl (lv_at hl 2 rfl) ?_
          refine lv_bipush (v := nI 64) hx hb dX10_sheet_24 (by decide) ?_
          refine lv_icmp_eq hx hb (tgt := 36) dX10_sheet_26 (by decide) (fun c26 => ?_) (fun c26 => ?_)
          ·
            obtain ⟨yn, rfl, yv, yq⟩ : ∃ yn : Nat, y = nI yn ∧ (yn = 0 ∨ yn = 8 ∨ yn = 16 ∨ yn = 64) ∧ yn < 2147483648 := ⟨64, c26, by decide, by decide⟩
            refine lv_iload_n hx hb dX10_sheet_36 rfl (lv_at hl 3 rfl) ?_
            refine lv_if_ge hx hb (tgt := 47) dX10_sheet_37 (by decide) (fun c37 => ?_) (fun c37 => ?_)
            ·
              refine lv_iload_n hx hb dX10_sheet_47 rfl (lv_at hl 3 rfl) ?_
              refine lv_bipush (v := nI 40) hx hb dX10_sheet_48 (by decide) ?_
              refine lv_icmp_le hx hb (tgt := 60) dX10_sheet_50 (by decide) (fun c50 => ?_) (fun c50 => ?_)
              ·
                have bz : inR z 0 40 := ⟨(cz0 z).mp c37, (czn z (by decide)).mp c50⟩
                obtain ⟨jz, rfl, jz1, jz2⟩ := inR_nat bz
                have iy : (nI yn).toInt = 0 ↔ yn = 0 := by rw [nI_toInt yq]; omega
                refine lv_aload_n hx hb dX10_sheet_60 rfl (lv_at hl 0 rfl) ?_
                refine gC_sheets S0 hG h dX10_sheet_61 ?_
                refine lv_iload_n hx hb dX10_sheet_64 rfl (lv_at hl 1 rfl) ?_
                refine aC_sheets S0 hG h (by omega) dX10_sheet_65 ?_
                refine lv_iload_n hx hb dX10_sheet_66 rfl (lv_at hl 2 rfl) ?_
                refine lv_iload_n hx hb dX10_sheet_67 rfl (lv_at hl 3 rfl) ?_
                refine cN_vC (w2 := fun _ => wLay G o f st tb tn nu bi si kp g D jx yn (if yn = 0 then 0 else jz)) S0 hG hA h hl.1 (ws_ok (rin36 _ (List.mem_of_getElem? (i := 3) rfl))) (rin2 _ (List.mem_of_getElem? (i := 8) rfl)) (rin36 _ (List.mem_of_getElem? (i := 1) rfl)) (rin36 _ (List.mem_of_getElem? (i := 2) rfl)) (host := "ComposedInterval") (List.mem_of_getElem? (i := 61) rfl) kdS_X7_lay (c_X7_lay (a := aSh o jx) (nu := fun k => nu (40 * jx + k)) (bb := bi jx) (ss := si jx) (by omega)) ⟨rfl, rfl, by decide, by decide, Nat.le_refl _, Nat.le_refl _⟩ rfl 7 (38 + 2 * jx) rfl (shO (by omega)) (shC jx) (shC_nd (by omega)) (shC_m (by omega)) (shC_f (by omega)) rfl (Nat.le_of_ble_eq_true rfl) dX10_sheet_68 (fun _ H1 hk hP1 => WX.back h (shC jx) (shC_m (by omega)) hk hP1 (wLay_fit (by omega))) (fun _ => wLay_a (by omega)) (fun u H locs hq h => ?_)
                have h := wLay_to (by omega) h
                refine lv_aload_n hx hb dX10_sheet_71 rfl (lv_at hl 0 rfl) ?_
                refine gC_sheets S0 hG h dX10_sheet_72 ?_
                refine lv_iload_n hx hb dX10_sheet_75 rfl (lv_at hl 1 rfl) ?_
                refine aC_sheets S0 hG h (by omega) dX10_sheet_76 ?_
                refine gSh_size (x := jx) (by omega) S0 hG h dX10_sheet_77 ?_
                refine tN (nI_cong (va_up_s _ _ _)) ?_
                exact hret _ (va_up bi jx yn, va_up si jx (if yn = 0 then 0 else jz), znu nu jx 40, st) _ _ _ _ (Or.inl ⟨⟨b1, by unfold okB; rw [nI_toInt yq]; omega⟩, Or.inr (Or.inr ⟨bz, by simp only [iy, nt_nI jz2], by simp only [nt_nI jx2, nt_nI yq], by simp only [iy, nt_nI jx2, nt_nI jz2], by simp only [nt_nI jx2], rfl⟩)⟩) h dX10_sheet_80
              ·
                refine lv_aload_n hx hb dX10_sheet_53 rfl (lv_at hl 0 rfl) ?_
                refine lv_ldc (v := -1000000001) hx hb S0.2.2.2.1 (S0.2.2.2.2 _ (rin6 _ (List.mem_of_getElem? (i := 6) rfl))) dX10_sheet_54 ?_
                refine cV_i0 S0 hG hA h hl.1 kw_RX10_58 kdV_X10_tell (c_X10_tell (k := 0) (by decide) (by decide)) ⟨rfl, rfl, by decide, by decide, Nat.le_refl _, Nat.le_refl _⟩ rfl 10 0 rfl rfl rfl (Nat.le_of_ble_eq_true rfl) dX10_sheet_56 (fun _ => rfl) (fun r u H locs hq h => ?_)
                obtain rfl := hq
                exact hret _ (bi, si, nu, bump st 0) _ _ _ _ (Or.inl ⟨⟨b1, by unfold okB; rw [nI_toInt yq]; omega⟩, Or.inr (Or.inl ⟨Int.not_le.mp (fun z9 => c50 ((czn z (by decide)).mpr z9)), rfl, rfl, rfl, rfl, rfl⟩)⟩) h dX10_sheet_59
            ·
              refine lv_aload_n hx hb dX10_sheet_40 rfl (lv_at hl 0 rfl) ?_
              refine lv_ldc (v := -1000000007) hx hb S0.2.2.2.1 (S0.2.2.2.2 _ (rin35 _ (List.mem_of_getElem? (i := 21) rfl))) dX10_sheet_41 ?_
              refine cV_i0 S0 hG hA h hl.1 kw_RX10_58 kdV_X10_tell (c_X10_tell (k := 6) (by decide) (by decide)) ⟨rfl, rfl, by decide, by decide, Nat.le_refl _, Nat.le_refl _⟩ rfl 10 0 rfl rfl rfl (Nat.le_of_ble_eq_true rfl) dX10_sheet_43 (fun _ => rfl) (fun r u H locs hq h => ?_)
              obtain rfl := hq
              exact hret _ (bi, si, nu, bump st 6) _ _ _ _ (Or.inl ⟨⟨b1, by unfold okB; rw [nI_toInt yq]; omega⟩, Or.inl ⟨Int.not_le.mp (fun z9 => c37 ((cz0 z).mpr z9)), rfl, rfl, rfl, rfl, rfl⟩⟩) h dX10_sheet_46
          ·
            refine lv_aload_n hx hb dX10_sheet_29 rfl (lv_at hl 0 rfl) ?_
            refine lv_ldc (v := -1000000001) hx hb S0.2.2.2.1 (S0.2.2.2.2 _ (rin6 _ (List.mem_of_getElem? (i := 6) rfl))) dX10_sheet_30 ?_
            refine cV_i0 S0 hG hA h hl.1 kw_RX10_58 kdV_X10_tell (c_X10_tell (k := 0) (by decide) (by decide)) ⟨rfl, rfl, by decide, by decide, Nat.le_refl _, Nat.le_refl _⟩ rfl 10 0 rfl rfl rfl (Nat.le_of_ble_eq_true rfl) dX10_sheet_32 (fun _ => rfl) (fun r u H locs hq h => ?_)
            obtain rfl := hq
            exact hret _ (bi, si, nu, bump st 0) _ _ _ _ (Or.inr ⟨fun q => by obtain ⟨q1, q2⟩ := q; rcases q2 with z | z | z | z; exact c8 ((ceq y (n := 0) (by decide)).mpr z); exact c14 ((ceq y (n := 8) (by decide)).mpr z); exact c20 ((ceq y (n := 16) (by decide)).mpr z); exact c26 ((ceq y (n := 64) (by decide)).mpr z), rfl, rfl, rfl, rfl, rfl⟩) h dX10_sheet_35
