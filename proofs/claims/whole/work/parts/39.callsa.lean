theorem nt_i {y : Int32} {v : Nat} (h : y.toInt = (v : Int)) : nt y = v := by
  unfold nt
  show y.toInt.toNat = v
  omega
def abn : Nat → Nat := fun j => if j = 4 then 2 else if j = 5 then 1 else 0
theorem abv_n {j : Nat} (h : j ≠ 0) : abv j = nI (abn j) := by
  unfold abv abn
  rw [if_neg h]
  repeat' split
  all_goals rfl
variable {G : GT} {l : Launch} {o : Nat → Nat} {f st tb : Row} {tn : Nat} {nu : Nat → Int64} {bi si : Row} {kp : Nat} {g : Row} {D : DT}
set_option maxHeartbeats 4000000 in
set_option maxRecDepth 100000 in
theorem c_X10_set {x y z : Int32} (hI : Inv f) : Ki G l yX10_set cX10_set 4 (some .int) (RM 3 42) [.ref (o 0), .int x, .int y, .int z] (wC G o f st tb tn nu bi si kp g D) (fun u : Row × Row × DT => wC G o u.1 u.2.1 tb tn nu bi si kp g u.2.2) (fun r u => P_set f st x y z r u.1 u.2.1) := by
  refine Ki.of (by decide) (Nat.le_of_ble_eq_true rfl) ?_
  intro p e s m args below meth c A Q ls hx hb S0 hG hA h hret hl
  have S0 : CF p m c cX10_set 4 s args RX10 := S0
  have hl : lv_has ls 4 [(0, .ref (o 0)), (1, .int x), (2, .int y), (3, .int z)] := hl
  have h8 := hI.2.1
  refine lv_aload_n hx hb dX10_set_0 rfl (lv_at hl 0 rfl) ?_
  refine lv_iload_n hx hb dX10_set_1 rfl (lv_at hl 1 rfl) ?_
  refine cV_i0 S0 hG hA h hl.1 kw_RX10_106 kdV_X10_isNobody (c_X10_isNobody hI.2.1) ⟨rfl, rfl, by decide, by decide, Nat.le_refl _, Nat.le_refl _⟩ rfl 10 0 rfl rfl rfl (Nat.le_of_ble_eq_true rfl) dX10_set_2 (fun _ => rfl) (fun r u H locs hq h => ?_)
  rcases hq with ⟨rfl, b2⟩ | ⟨rfl, b2⟩
  ·
    refine n_zeq hx hb (by decide) (tgt := 15) dX10_set_5 (by decide) (fun q => absurd q (by decide)) (fun _ => ?_)
    refine lv_aload_n hx hb dX10_set_8 rfl (lv_at hl 0 rfl) ?_
    refine lv_ldc (v := -1000000001) hx hb S0.2.2.2.1 (S0.2.2.2.2 _ (rin6 _ (List.mem_of_getElem? (i := 6) rfl))) dX10_set_9 ?_
    refine cV_i0 S0 hG hA h hl.1 kw_RX10_58 kdV_X10_tell (c_X10_tell (k := 0) (by decide) (by decide)) ⟨rfl, rfl, by decide, by decide, Nat.le_refl _, Nat.le_refl _⟩ rfl 10 0 rfl rfl rfl (Nat.le_of_ble_eq_true rfl) dX10_set_11 (fun _ => rfl) (fun r u H locs hq h => ?_)
    obtain rfl := hq
    exact hret _ (f, bump st 0, D) _ _ _ _ (Or.inr ⟨fun q9 => b2 q9.1, rfl, rfl, rfl⟩) h dX10_set_14
  ·
    obtain ⟨jx, rfl, jx1, jx2⟩ := inR_nat (hi := (f 1 : Int) - 1) b2
    refine n_zeq hx hb (by decide) (tgt := 15) dX10_set_5 (by decide) (fun _ => ?_) (fun q => absurd q (by decide))
    refine lv_iload_n hx hb dX10_set_15 rfl (lv_at hl 2 rfl) ?_
    rcases (show y.toInt = 1 ∨ y.toInt = 2 ∨ y.toInt = 3 ∨ y.toInt = 4 ∨ (y.toInt < 1 ∨ 4 < y.toInt) by omega) with e16 | e16 | e16 | e16 | e16
    ·
      refine i_swIn hx hb e16 (off := 32) (tgt := 48) dX10_set_16 (by decide) (by decide) rfl (by decide) ?_
      refine lv_iload_n hx hb dX10_set_48 rfl (lv_at hl 3 rfl) ?_
      refine cS_iE S0 hG hA h hl.1 kw_RX10_53 kdS_X10_isNoSpot (c_X10_isNoSpot) ⟨rfl, rfl, by decide, by decide, Nat.le_refl _, Nat.le_refl _⟩ rfl rfl (Nat.le_of_ble_eq_true rfl) dX10_set_49 (fun r u H locs hq h => ?_)
      rcases hq with ⟨rfl, b49⟩ | ⟨rfl, b49⟩
      ·
        refine n_zeq hx hb (by decide) (tgt := 64) dX10_set_52 (by decide) (fun q => absurd q (by decide)) (fun _ => ?_)
        refine lv_aload_n hx hb dX10_set_55 rfl (lv_at hl 0 rfl) ?_
        refine lv_ldc (v := -1000000001) hx hb S0.2.2.2.1 (S0.2.2.2.2 _ (rin6 _ (List.mem_of_getElem? (i := 6) rfl))) dX10_set_56 ?_
        refine cV_i0 S0 hG hA h hl.1 kw_RX10_58 kdV_X10_tell (c_X10_tell (k := 0) (by decide) (by decide)) ⟨rfl, rfl, by decide, by decide, Nat.le_refl _, Nat.le_refl _⟩ rfl 10 0 rfl rfl rfl (Nat.le_of_ble_eq_true rfl) dX10_set_58 (fun _ => rfl) (fun r u H locs hq h => ?_)
        obtain rfl := hq
        refine lv_goto (tgt := 76) hx hb dX10_set_61 (by decide) ?_
        exact hret _ (f, bump st 0, D) _ _ _ _ (Or.inr ⟨fun q9 => by rcases q9.2 with ⟨q, w⟩ | ⟨q, w⟩ | ⟨q, w⟩ | ⟨q, w⟩ <;> first | omega | exact b49 w, rfl, rfl, rfl⟩) h dX10_set_76
      ·
        obtain ⟨jz, rfl, jz1, jz2⟩ := inR_nat b49
        refine n_zeq hx hb (by decide) (tgt := 64) dX10_set_52 (by decide) (fun _ => ?_) (fun q => absurd q (by decide))
        refine lv_aload_n hx hb dX10_set_64 rfl (lv_at hl 0 rfl) ?_
        refine gC_present S0 hG h dX10_set_65 ?_
        refine kPg_at S0 hG h dX10_set_68 ?_
        refine lv_iload_n hx hb dX10_set_71 rfl (lv_at hl 1 rfl) ?_
        refine lv_iload_n hx hb dX10_set_72 rfl (lv_at hl 3 rfl) ?_
        refine cS_i0 S0 hG hA h hl.1 kw_RX10_143 kdS_X10_exchange (c_X10_exchange1 (by omega)) ⟨rfl, rfl, by decide, by decide, Nat.le_refl _, Nat.le_refl _⟩ rfl rfl (Nat.le_of_ble_eq_true rfl) dX10_set_73 (fun _ => rfl) (fun r u H locs hq h => ?_)
        obtain rfl := hq
        have n9 := nt_i (v := 1) e16
        exact hret _ (va_up f (11 + 5 * jx + 1) jz, st, D) _ _ _ _ (Or.inl ⟨⟨b2, Or.inl ⟨e16, b49⟩⟩, by rw [nt_nI jx2, n9], by rw [nt_nI jx2, nt_nI jz2, n9], rfl⟩) h dX10_set_76
    ·
      refine i_swIn hx hb e16 (off := 61) (tgt := 77) dX10_set_16 (by decide) (by decide) rfl (by decide) ?_
      refine lv_iload_n hx hb dX10_set_77 rfl (lv_at hl 3 rfl) ?_
      refine lv_iconst (v := nI 1) hx hb dX10_set_78 (by decide) ?_
      refine lv_iconst (v := nI 4) hx hb dX10_set_79 (by decide) ?_
      refine cS_iE S0 hG hA h hl.1 kw_RX10_49 kdS_X10_isOutside (c_X10_isOutside) ⟨rfl, rfl, by decide, by decide, Nat.le_refl _, Nat.le_refl _⟩ rfl rfl (Nat.le_of_ble_eq_true rfl) dX10_set_80 (fun r u H locs hq h => ?_)
      have hq : (r = nI 1 ∧ ¬ inR z 1 4) ∨ (r = nI 0 ∧ inR z 1 4) := hq
      rcases hq with ⟨rfl, b80⟩ | ⟨rfl, b80⟩
      ·
        refine n_zeq hx hb (by decide) (tgt := 95) dX10_set_83 (by decide) (fun q => absurd q (by decide)) (fun _ => ?_)
        refine lv_aload_n hx hb dX10_set_86 rfl (lv_at hl 0 rfl) ?_
        refine lv_ldc (v := -1000000001) hx hb S0.2.2.2.1 (S0.2.2.2.2 _ (rin6 _ (List.mem_of_getElem? (i := 6) rfl))) dX10_set_87 ?_
        refine cV_i0 S0 hG hA h hl.1 kw_RX10_58 kdV_X10_tell (c_X10_tell (k := 0) (by decide) (by decide)) ⟨rfl, rfl, by decide, by decide, Nat.le_refl _, Nat.le_refl _⟩ rfl 10 0 rfl rfl rfl (Nat.le_of_ble_eq_true rfl) dX10_set_89 (fun _ => rfl) (fun r u H locs hq h => ?_)
        obtain rfl := hq
        refine lv_goto (tgt := 107) hx hb dX10_set_92 (by decide) ?_
        exact hret _ (f, bump st 0, D) _ _ _ _ (Or.inr ⟨fun q9 => by rcases q9.2 with ⟨q, w⟩ | ⟨q, w⟩ | ⟨q, w⟩ | ⟨q, w⟩ <;> first | omega | exact b80 w, rfl, rfl, rfl⟩) h dX10_set_107
      ·
        obtain ⟨jz, rfl, jz1, jz2⟩ := inR_nat ⟨by have := b80.1; omega, b80.2⟩
        have jz0 := (inR_n (by omega)).mp b80
        refine n_zeq hx hb (by decide) (tgt := 95) dX10_set_83 (by decide) (fun _ => ?_) (fun q => absurd q (by decide))
        refine lv_aload_n hx hb dX10_set_95 rfl (lv_at hl 0 rfl) ?_
        refine gC_present S0 hG h dX10_set_96 ?_
        refine kPg_quick S0 hG h dX10_set_99 ?_
        refine lv_iload_n hx hb dX10_set_102 rfl (lv_at hl 1 rfl) ?_
        refine lv_iload_n hx hb dX10_set_103 rfl (lv_at hl 3 rfl) ?_
        refine cS_i0 S0 hG hA h hl.1 kw_RX10_143 kdS_X10_exchange (c_X10_exchange2 (by omega)) ⟨rfl, rfl, by decide, by decide, Nat.le_refl _, Nat.le_refl _⟩ rfl rfl (Nat.le_of_ble_eq_true rfl) dX10_set_104 (fun _ => rfl) (fun r u H locs hq h => ?_)
        obtain rfl := hq
        have n9 := nt_i (v := 2) e16
        exact hret _ (va_up f (11 + 5 * jx + 2) jz, st, D) _ _ _ _ (Or.inl ⟨⟨b2, Or.inr (Or.inl ⟨e16, b80⟩)⟩, by rw [nt_nI jx2, n9], by rw [nt_nI jx2, nt_nI jz2, n9], rfl⟩) h dX10_set_107
    ·
      refine i_swIn hx hb e16 (off := 92) (tgt := 108) dX10_set_16 (by decide) (by decide) rfl (by decide) ?_
      refine lv_iload_n hx hb dX10_set_108 rfl (lv_at hl 3 rfl) ?_
      refine lv_iconst (v := nI 0) hx hb dX10_set_109 (by decide) ?_
      refine lv_sipush (v := nI 9999) hx hb dX10_set_110 (by decide) ?_
      refine cS_iE S0 hG hA h hl.1 kw_RX10_49 kdS_X10_isOutside (c_X10_isOutside) ⟨rfl, rfl, by decide, by decide, Nat.le_refl _, Nat.le_refl _⟩ rfl rfl (Nat.le_of_ble_eq_true rfl) dX10_set_113 (fun r u H locs hq h => ?_)
      have hq : (r = nI 1 ∧ ¬ inR z 0 9999) ∨ (r = nI 0 ∧ inR z 0 9999) := hq
      rcases hq with ⟨rfl, b113⟩ | ⟨rfl, b113⟩
      ·
        refine n_zeq hx hb (by decide) (tgt := 128) dX10_set_116 (by decide) (fun q => absurd q (by decide)) (fun _ => ?_)
        refine lv_aload_n hx hb dX10_set_119 rfl (lv_at hl 0 rfl) ?_
        refine lv_ldc (v := -1000000001) hx hb S0.2.2.2.1 (S0.2.2.2.2 _ (rin6 _ (List.mem_of_getElem? (i := 6) rfl))) dX10_set_120 ?_
        refine cV_i0 S0 hG hA h hl.1 kw_RX10_58 kdV_X10_tell (c_X10_tell (k := 0) (by decide) (by decide)) ⟨rfl, rfl, by decide, by decide, Nat.le_refl _, Nat.le_refl _⟩ rfl 10 0 rfl rfl rfl (Nat.le_of_ble_eq_true rfl) dX10_set_122 (fun _ => rfl) (fun r u H locs hq h => ?_)
        obtain rfl := hq
        refine lv_goto (tgt := 140) hx hb dX10_set_125 (by decide) ?_
        exact hret _ (f, bump st 0, D) _ _ _ _ (Or.inr ⟨fun q9 => by rcases q9.2 with ⟨q, w⟩ | ⟨q, w⟩ | ⟨q, w⟩ | ⟨q, w⟩ <;> first | omega | exact b113 w, rfl, rfl, rfl⟩) h dX10_set_140
      ·
        obtain ⟨jz, rfl, jz1, jz2⟩ := inR_nat b113
        refine n_zeq hx hb (by decide) (tgt := 128) dX10_set_116 (by decide) (fun _ => ?_) (fun q => absurd q (by decide))
        refine lv_aload_n hx hb dX10_set_128 rfl (lv_at hl 0 rfl) ?_
        refine gC_present S0 hG h dX10_set_129 ?_
        refine kPg_played S0 hG h dX10_set_132 ?_
        refine lv_iload_n hx hb dX10_set_135 rfl (lv_at hl 1 rfl) ?_
        refine lv_iload_n hx hb dX10_set_136 rfl (lv_at hl 3 rfl) ?_
        refine cS_i0 S0 hG hA h hl.1 kw_RX10_143 kdS_X10_exchange (c_X10_exchange3 (by omega)) ⟨rfl, rfl, by decide, by decide, Nat.le_refl _, Nat.le_refl _⟩ rfl rfl (Nat.le_of_ble_eq_true rfl) dX10_set_137 (fun _ => rfl) (fun r u H locs hq h => ?_)
        obtain rfl := hq
        have n9 := nt_i (v := 3) e16
        exact hret _ (va_up f (11 + 5 * jx + 3) jz, st, D) _ _ _ _ (Or.inl ⟨⟨b2, Or.inr (Or.inr (Or.inl ⟨e16, b113⟩))⟩, by rw [nt_nI jx2, n9], by rw [nt_nI jx2, nt_nI jz2, n9], rfl⟩) h dX10_set_140
    ·
      refine i_swIn hx hb e16 (off := 125) (tgt := 141) dX10_set_16 (by decide) (by decide) rfl (by decide) ?_
      refine lv_iload_n hx hb dX10_set_141 rfl (lv_at hl 3 rfl) ?_
      refine lv_iconst (v := nI 0) hx hb dX10_set_142 (by decide) ?_
      refine lv_sipush (v := nI 9999) hx hb dX10_set_143 (by decide) ?_
      refine cS_iE S0 hG hA h hl.1 kw_RX10_49 kdS_X10_isOutside (c_X10_isOutside) ⟨rfl, rfl, by decide, by decide, Nat.le_refl _, Nat.le_refl _⟩ rfl rfl (Nat.le_of_ble_eq_true rfl) dX10_set_146 (fun r u H locs hq h => ?_)
      have hq : (r = nI 1 ∧ ¬ inR z 0 9999) ∨ (r = nI 0 ∧ inR z 0 9999) := hq
      rcases hq with ⟨rfl, b146⟩ | ⟨rfl, b146⟩
      ·
        refine n_zeq hx hb (by decide) (tgt := 161) dX10_set_149 (by decide) (fun q => absurd q (by decide)) (fun _ => ?_)
        refine lv_aload_n hx hb dX10_set_152 rfl (lv_at hl 0 rfl) ?_
        refine lv_ldc (v := -1000000001) hx hb S0.2.2.2.1 (S0.2.2.2.2 _ (rin6 _ (List.mem_of_getElem? (i := 6) rfl))) dX10_set_153 ?_
        refine cV_i0 S0 hG hA h hl.1 kw_RX10_58 kdV_X10_tell (c_X10_tell (k := 0) (by decide) (by decide)) ⟨rfl, rfl, by decide, by decide, Nat.le_refl _, Nat.le_refl _⟩ rfl 10 0 rfl rfl rfl (Nat.le_of_ble_eq_true rfl) dX10_set_155 (fun _ => rfl) (fun r u H locs hq h => ?_)
        obtain rfl := hq
        refine lv_goto (tgt := 173) hx hb dX10_set_158 (by decide) ?_
        exact hret _ (f, bump st 0, D) _ _ _ _ (Or.inr ⟨fun q9 => by rcases q9.2 with ⟨q, w⟩ | ⟨q, w⟩ | ⟨q, w⟩ | ⟨q, w⟩ <;> first | omega | exact b146 w, rfl, rfl, rfl⟩) h dX10_set_173
      ·
        obtain ⟨jz, rfl, jz1, jz2⟩ := inR_nat b146
        refine n_zeq hx hb (by decide) (tgt := 161) dX10_set_149 (by decide) (fun _ => ?_) (fun q => absurd q (by decide))
        refine lv_aload_n hx hb dX10_set_161 rfl (lv_at hl 0 rfl) ?_
        refine gC_present S0 hG h dX10_set_162 ?_
        refine kPg_spoilt S0 hG h dX10_set_165 ?_
        refine lv_iload_n hx hb dX10_set_168 rfl (lv_at hl 1 rfl) ?_
        refine lv_iload_n hx hb dX10_set_169 rfl (lv_at hl 3 rfl) ?_
        refine cS_i0 S0 hG hA h hl.1 kw_RX10_143 kdS_X10_exchange (c_X10_exchange4 (by omega)) ⟨rfl, rfl, by decide, by decide, Nat.le_refl _, Nat.le_refl _⟩ rfl rfl (Nat.le_of_ble_eq_true rfl) dX10_set_170 (fun _ => rfl) (fun r u H locs hq h => ?_)
        obtain rfl := hq
        have n9 := nt_i (v := 4) e16
        exact hret _ (va_up f (11 + 5 * jx + 4) jz, st, D) _ _ _ _ (Or.inl ⟨⟨b2, Or.inr (Or.inr (Or.inr ⟨e16, b146⟩))⟩, by rw [nt_nI jx2, n9], by rw [nt_nI jx2, nt_nI jz2, n9], rfl⟩) h dX10_set_173
    ·
      refine lv_tableOut hx hb (tgt := 174) dX10_set_16 (by omega) (by decide) ?_
      refine lv_aload_n hx hb dX10_set_174 rfl (lv_at hl 0 rfl) ?_
      refine lv_ldc (v := -1000000001) hx hb S0.2.2.2.1 (S0.2.2.2.2 _ (rin6 _ (List.mem_of_getElem? (i := 6) rfl))) dX10_set_175 ?_
      refine cV_i0 S0 hG hA h hl.1 kw_RX10_58 kdV_X10_tell (c_X10_tell (k := 0) (by decide) (by decide)) ⟨rfl, rfl, by decide, by decide, Nat.le_refl _, Nat.le_refl _⟩ rfl 10 0 rfl rfl rfl (Nat.le_of_ble_eq_true rfl) dX10_set_177 (fun _ => rfl) (fun r u H locs hq h => ?_)
      obtain rfl := hq
      exact hret _ (f, bump st 0, D) _ _ _ _ (Or.inr ⟨fun q9 => by rcases q9.2 with ⟨q, w⟩ | ⟨q, w⟩ | ⟨q, w⟩ | ⟨q, w⟩ <;> omega, rfl, rfl, rfl⟩) h dX10_set_180
