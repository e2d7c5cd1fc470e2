theorem isS_t {v : Int64} (h0 : ¬ v < 0) (h1 : ¬ 11 < v) : isS v = true ∧ 0 ≤ v.toInt ∧ v.toInt ≤ 11 := by
  have z0 : (0 : Int64).toInt = 0 := rfl
  have z1 : (11 : Int64).toInt = 11 := rfl
  have h2 := Int64.le_iff_toInt_le.mp (Int64.not_lt.mp h0)
  have h3 := Int64.le_iff_toInt_le.mp (Int64.not_lt.mp h1)
  refine ⟨?_, by omega, by omega⟩
  unfold isS
  rw [Bool.and_eq_true]
  exact ⟨decide_eq_true (by omega), decide_eq_true (by omega)⟩
theorem isS_f {v : Int64} (h : v < 0 ∨ 11 < v) : ¬ isS v = true := fun z9 => by
  have z0 : (0 : Int64).toInt = 0 := rfl
  have z1 : (11 : Int64).toInt = 11 := rfl
  unfold isS at z9
  rw [Bool.and_eq_true] at z9
  have q1 := of_decide_eq_true z9.1
  have q2 := of_decide_eq_true z9.2
  rcases h with h | h
  · have := Int64.lt_iff_toInt_lt.mp h; omega
  · have := Int64.lt_iff_toInt_lt.mp h; omega
theorem lay_t {f : Row} {nu : Nat → Int64} {s i : Nat} (h : isS (nu (40 * s + i)) = true) : layC nu s i + 1 = layC nu s (i + 1) ∧ va_up (layN f nu s i) (2 + i) (nu (40 * s + i)).toInt.toNat = layN f nu s (i + 1) := by
  refine ⟨?_, ?_⟩
  · show _ = layC nu s i + (if isS (nu (40 * s + i)) = true then 1 else 0)
    rw [if_pos h]
  · show _ = (if isS (nu (40 * s + i)) = true then va_up (layN f nu s i) (2 + i) (nu (40 * s + i)).toInt.toNat else layN f nu s i)
    rw [if_pos h]
theorem lay_f {f : Row} {nu : Nat → Int64} {s i : Nat} (h : ¬ isS (nu (40 * s + i)) = true) : layC nu s i = layC nu s (i + 1) ∧ layN f nu s i = layN f nu s (i + 1) := by
  refine ⟨?_, ?_⟩
  · show _ = layC nu s i + (if isS (nu (40 * s + i)) = true then 1 else 0)
    rw [if_neg h]; rfl
  · show _ = (if isS (nu (40 * s + i)) = true then va_up (layN f nu s i) (2 + i) (nu (40 * s + i)).toInt.toNat else layN f nu s i)
    rw [if_neg h]
theorem pr_t {f : Row} {nu : Nat → Int64} {s p n k q : Nat} (hq : 1 ≤ q ∧ q ≤ 4) (h : isBk (asK f p k q) nu s p n) : prN f nu s p n (4 * k + (q - 1)) + 1 = prN f nu s p n (4 * k + q) := by
  obtain ⟨j, rfl⟩ : ∃ j, q = j + 1 := ⟨q - 1, by omega⟩
  show _ = prN f nu s p n ((4 * k + j) + 1)
  rw [prN_s, show (4 * k + j) / 4 = k by omega, show (4 * k + j) % 4 + 1 = j + 1 by omega, if_pos h]
  rfl
theorem pr_f {f : Row} {nu : Nat → Int64} {s p n k q : Nat} (hq : 1 ≤ q ∧ q ≤ 4) (h : ¬ isBk (asK f p k q) nu s p n) : prN f nu s p n (4 * k + (q - 1)) = prN f nu s p n (4 * k + q) := by
  obtain ⟨j, rfl⟩ : ∃ j, q = j + 1 := ⟨q - 1, by omega⟩
  show _ = prN f nu s p n ((4 * k + j) + 1)
  rw [prN_s, show (4 * k + j) / 4 = k by omega, show (4 * k + j) % 4 + 1 = j + 1 by omega, if_neg h]
  rfl
variable {G : GT} {l : Launch} {o : Nat → Nat} {f st tb : Row} {tn : Nat} {nu : Nat → Int64} {bi si : Row} {kp : Nat} {g : Row} {D : DT}
set_option maxHeartbeats 4000000 in
set_option maxRecDepth 100000 in
theorem c_X10_lays {x : Int32} (hSh : ShI bi si) : Ki G l yX10_lays cX10_lays 7 (some .int) (RM 4 63) [.ref (o 0), .int x] (wC G o f st tb tn nu bi si kp g D) (fun u : Row × Row => wC G o u.1 u.2 tb tn nu bi si kp g D) (fun r u => P_lays f bi si nu st x r u.1 u.2) := by
  refine Ki.of (by decide) (Nat.le_of_ble_eq_true rfl) ?_
  intro p e s m args below meth c A Q ls hx hb S0 hG hA h hret hl
  have S0 : CF p m c cX10_lays 7 s args RX10 := S0
  have hl : lv_has ls 7 [(0, .ref (o 0)), (1, .int x)] := hl
  refine lv_aload_n hx hb dX10_lays_0 rfl (lv_at hl 0 rfl) ?_
  refine lv_iload_n hx hb dX10_lays_1 rfl (lv_at hl 1 rfl) ?_
  refine cV_i0 S0 hG hA h hl.1 kw_RX10_194 kdV_X10_sheetFinding (c_X10_sheetFinding hSh) ⟨rfl, rfl, by decide, by decide, Nat.le_refl _, Nat.le_refl _⟩ rfl 10 0 rfl rfl rfl (Nat.le_of_ble_eq_true rfl) dX10_lays_2 (fun _ => rfl) (fun r u H locs hq h => ?_)
  rcases hq with ⟨rfl, b2⟩ | ⟨rfl, b2, m2⟩ | ⟨rfl, b2, m2⟩
  ·
    refine lv_istore_n hx hb dX10_lays_5 rfl hl (by decide) rfl (fun ls hl => ?_)
    refine lv_iload_n hx hb dX10_lays_6 rfl (lv_at hl 0 rfl) ?_
    refine lv_if_eq hx hb (tgt := 16) dX10_lays_7 (by decide) (fun c7 => absurd c7 (by decide)) (fun c7 => ?_)
    refine lv_aload_n hx hb dX10_lays_10 rfl (lv_at hl 1 rfl) ?_
    refine lv_iload_n hx hb dX10_lays_11 rfl (lv_at hl 0 rfl) ?_
    refine cV_i0 S0 hG hA h hl.1 kw_RX10_58 kdV_X10_tell (c_X10_tell (k := 0) (by decide) (by decide)) ⟨rfl, rfl, by decide, by decide, Nat.le_refl _, Nat.le_refl _⟩ rfl 10 0 rfl rfl rfl (Nat.le_of_ble_eq_true rfl) dX10_lays_12 (fun _ => rfl) (fun r u H locs hq h => ?_)
    obtain rfl := hq
    exact hret _ (f, bump st 0) _ _ _ _ (Or.inl ⟨b2, rfl, rfl, rfl⟩) h dX10_lays_15
  ·
    refine lv_istore_n hx hb dX10_lays_5 rfl hl (by decide) rfl (fun ls hl => ?_)
    refine lv_iload_n hx hb dX10_lays_6 rfl (lv_at hl 0 rfl) ?_
    refine lv_if_eq hx hb (tgt := 16) dX10_lays_7 (by decide) (fun c7 => absurd c7 (by decide)) (fun c7 => ?_)
    refine lv_aload_n hx hb dX10_lays_10 rfl (lv_at hl 1 rfl) ?_
    refine lv_iload_n hx hb dX10_lays_11 rfl (lv_at hl 0 rfl) ?_
    refine cV_i0 S0 hG hA h hl.1 kw_RX10_58 kdV_X10_tell (c_X10_tell (k := 5) (by decide) (by decide)) ⟨rfl, rfl, by decide, by decide, Nat.le_refl _, Nat.le_refl _⟩ rfl 10 0 rfl rfl rfl (Nat.le_of_ble_eq_true rfl) dX10_lays_12 (fun _ => rfl) (fun r u H locs hq h => ?_)
    obtain rfl := hq
    exact hret _ (f, bump st 5) _ _ _ _ (Or.inr (Or.inl ⟨⟨b2, m2⟩, rfl, rfl, rfl⟩)) h dX10_lays_15
  ·
    obtain ⟨jx, rfl, jx1, jx2⟩ := inR_nat b2
    rw [nt_nI jx2] at m2
    have s9 := hSh jx (by omega)
    refine lv_istore_n hx hb dX10_lays_5 rfl hl (by decide) rfl (fun ls hl => ?_)
    refine lv_iload_n hx hb dX10_lays_6 rfl (lv_at hl 0 rfl) ?_
    refine n_zeq hx hb (by decide) (tgt := 16) dX10_lays_7 (by decide) (fun _ => ?_) (fun q => absurd q (by decide))
    refine lv_iconst (v := nI 0) hx hb dX10_lays_16 (by decide) ?_
    refine lv_istore_n hx hb dX10_lays_17 rfl hl (by decide) rfl (fun ls hl => ?_)
    refine lv_iconst (v := nI 0) hx hb dX10_lays_18 (by decide) ?_
    refine lv_istore hx hb dX10_lays_19 hl (by decide) rfl (fun ls hl => ?_)
    have lp21 : ∀ (kf : Nat) (i cm : Nat) (f9 : Row) (H : Heap) (locs : List Loc) (ls : Array Slot) (hi : i ≤ si jx) (hi6 : i ≤ 6) (hcm : cm = layC nu jx i) (hf9 : f9 = layN f nu jx i), 6 - i < kf → WX G A s H locs (wC G o f9 st tb tn nu bi si kp g D) → lv_has ls 7 [(0, .ref (o 0)), (1, .int (nI jx)), (3, .int (nI cm)), (4, .int (nI i))] → W p l e (RM 4 63) s m args below meth c H locs 0 0 Q (F0 m 21 ls []) := by
      intro kf
      induction kf with
      | zero => intro i cm f9 H locs ls hi hi6 hcm hf9 hm; exact absurd hm (Nat.not_lt_zero _)
      | succ kf ih21 =>
        intro i cm f9 H locs ls hi hi6 hcm hf9 hm h hl
        refine lv_iload hx hb dX10_lays_21 (lv_at hl 3 rfl) ?_
        refine lv_bipush (v := nI 6) hx hb dX10_lays_23 (by decide) ?_
        refine n_cge hx hb (by omega) (by omega) (tgt := 94) dX10_lays_25 (by decide) (fun c25 => ?_) (fun c25 => ?_)
        ·
          refine lv_iload_n hx hb dX10_lays_94 rfl (lv_at hl 2 rfl) ?_
          have e9 : i = min 6 (si jx) := by omega
          exact hret _ (f9, st) _ _ _ _ (Or.inr (Or.inr ⟨⟨b2, by rw [nt_nI jx2]; exact m2⟩, by rw [nt_nI jx2, ← e9, hcm], by rw [nt_nI jx2, ← e9, hf9], rfl⟩)) h dX10_lays_95
        ·
          refine lv_iload hx hb dX10_lays_28 (lv_at hl 3 rfl) ?_
          refine lv_aload_n hx hb dX10_lays_30 rfl (lv_at hl 0 rfl) ?_
          refine gC_sheets S0 hG h dX10_lays_31 ?_
          refine lv_iload_n hx hb dX10_lays_34 rfl (lv_at hl 1 rfl) ?_
          refine aC_sheets S0 hG h (by omega) dX10_lays_35 ?_
          refine gSh_size (x := jx) (by omega) S0 hG h dX10_lays_36 ?_
          refine n_cge hx hb (by omega) (by omega) (tgt := 94) dX10_lays_39 (by decide) (fun c39 => ?_) (fun c39 => ?_)
          ·
            refine lv_iload_n hx hb dX10_lays_94 rfl (lv_at hl 2 rfl) ?_
            have e9 : i = min 6 (si jx) := by omega
            exact hret _ (f9, st) _ _ _ _ (Or.inr (Or.inr ⟨⟨b2, by rw [nt_nI jx2]; exact m2⟩, by rw [nt_nI jx2, ← e9, hcm], by rw [nt_nI jx2, ← e9, hf9], rfl⟩)) h dX10_lays_95
          ·
            refine lv_aload_n hx hb dX10_lays_42 rfl (lv_at hl 0 rfl) ?_
            refine gC_sheets S0 hG h dX10_lays_43 ?_
            refine lv_iload_n hx hb dX10_lays_46 rfl (lv_at hl 1 rfl) ?_
            refine aC_sheets S0 hG h (by omega) dX10_lays_47 ?_
            refine gSh_numbers (x := jx) (by omega) S0 hG h dX10_lays_48 ?_
            refine lv_iload hx hb dX10_lays_51 (lv_at hl 3 rfl) ?_
            refine rSh_numbers (by omega) S0 hG h (by omega) dX10_lays_53 ?_
            refine lv_lstore hx hb dX10_lays_54 hl (by decide) rfl (fun ls hl => ?_)
            refine lv_lload hx hb dX10_lays_56 (lv_at hl 0 rfl) ?_
            refine lv_lconst (v := 0) hx hb dX10_lays_58 (by decide) ?_
            refine W.lcmp hx hb dX10_lays_59 ?_
            refine lv_if_lt hx hb (tgt := 88) dX10_lays_60 (by decide) (fun c60 => ?_) (fun c60 => ?_)
            ·
              have i9 := isS_f (Or.inl ((lg_cmp_lt _ _).mp c60))
              refine lv_iinc hx hb dX10_lays_88 hl (k := 4) rfl (inc_1 _) (by decide) rfl (fun ls hl => ?_)
              refine lv_goto (tgt := 21) hx hb dX10_lays_91 (by decide) ?_
              exact ih21 (i + 1) cm f9 _ _ _ (by omega) (by omega) (by rw [hcm]; exact (lay_f (f := f) i9).1) (by rw [hf9]; exact (lay_f i9).2) (by omega) h (lv_sub hl [2, 3, 4, 0] rfl)
            ·
              have c60 := fun z9 => c60 ((lg_cmp_lt _ _).mpr z9)
              refine lv_lload hx hb dX10_lays_63 (lv_at hl 0 rfl) ?_
              refine lv_ldc2 (v := 11) hx hb S0.2.2.2.1 (S0.2.2.2.2 _ (rin38 _ (List.mem_of_getElem? (i := 12) rfl))) dX10_lays_65 ?_
              refine W.lcmp hx hb dX10_lays_68 ?_
              refine lv_if_gt hx hb (tgt := 88) dX10_lays_69 (by decide) (fun c69 => ?_) (fun c69 => ?_)
              ·
                have i9 := isS_f (Or.inr ((lg_cmp_gt _ _).mp c69))
                refine lv_iinc hx hb dX10_lays_88 hl (k := 4) rfl (inc_1 _) (by decide) rfl (fun ls hl => ?_)
                refine lv_goto (tgt := 21) hx hb dX10_lays_91 (by decide) ?_
                exact ih21 (i + 1) cm f9 _ _ _ (by omega) (by omega) (by rw [hcm]; exact (lay_f (f := f) i9).1) (by rw [hf9]; exact (lay_f i9).2) (by omega) h (lv_sub hl [2, 3, 4, 0] rfl)
              ·
                have i9 := isS_t c60 (fun z9 => c69 ((lg_cmp_gt _ _).mpr z9))
                refine lv_aload_n hx hb dX10_lays_72 rfl (lv_at hl 1 rfl) ?_
                refine gC_present S0 hG h dX10_lays_73 ?_
                refine kPg_score S0 hG h dX10_lays_76 ?_
                refine lv_iload hx hb dX10_lays_79 (lv_at hl 4 rfl) ?_
                refine lv_lload hx hb dX10_lays_81 (lv_at hl 0 rfl) ?_
                refine lv_l2i hx hb dX10_lays_83 rfl ?_
                refine tN (l2i_small (v := (nu (40 * jx + i))) i9.2.1 i9.2.2) ?_
                refine kPs_score S0 hG h (by omega) dX10_lays_84 (fun H locs h => ?_)
                refine lv_iinc hx hb dX10_lays_85 hl (k := 3) rfl (inc_1 _) (by decide) rfl (fun ls hl => ?_)
                refine lv_iinc hx hb dX10_lays_88 hl (k := 4) rfl (inc_1 _) (by decide) rfl (fun ls hl => ?_)
                refine lv_goto (tgt := 21) hx hb dX10_lays_91 (by decide) ?_
                exact ih21 (i + 1) (cm + 1) (va_up f9 (2 + i) (nu (40 * jx + i)).toInt.toNat) _ _ _ (by omega) (by omega) (by rw [hcm]; exact (lay_t (f := f) i9.1).1) (by rw [hf9]; exact (lay_t i9.1).2) (by omega) h (lv_sub hl [3, 4, 1, 0] rfl)
    exact lp21 _ 0 0 f _ _ _ (Nat.zero_le _) (by omega) rfl rfl (Nat.lt_succ_self _) h (lv_sub hl [3, 4, 1, 0] rfl)
