/-! the reference: lays, book, read -/
variable {G : GT} {l : Launch} {a : Nat → Nat} {f g o d st du tb bi si : Nat → Nat} {nu mo : Nat → Int64} {kp it tn fr to vl wr : Nat}
set_option maxHeartbeats 4000000 in
set_option maxRecDepth 100000 in
theorem c_X11_lays {x : Int32} (hSh : ShI bi si) : Ki G l yX11_lays cX11_lays 6 (some .int) (RM 4 66) [.ref (a 0), .int x] (wM G a f g o d st du tb bi si nu mo kp it tn fr to vl wr) (fun u : (Nat → Nat) × (Nat → Nat) => wM G a u.1 g o d u.2 du tb bi si nu mo kp it tn fr to vl wr) (fun r u => P_lays f bi si nu st x r u.1 u.2) := by
  refine Ki.of (by decide) (Nat.le_of_ble_eq_true rfl) ?_
  intro p e s m args below meth c A Q ls hx hb S0 hG hA h hret hl
  have S0 : CF p m c cX11_lays 6 s args RX11 := S0
  have hl : lv_has ls 6 [(0, .ref (a 0)), (1, .int x)] := hl
  have z0 : (0 : Int64).toInt = 0 := rfl
  have z1 : (11 : Int64).toInt = 11 := rfl
  refine lv_aload_n hx hb dX11_lays_0 rfl (lv_at hl 0 rfl) ?_
  refine lv_iload_n hx hb dX11_lays_1 rfl (lv_at hl 1 rfl) ?_
  refine cV_i0 S0 hG hA h hl.1 kw_RX11_287 kdV_X11_wrongSheet (c_X11_wrongSheet hSh) ⟨rfl, rfl, by decide, by decide, Nat.le_refl _, Nat.le_refl _⟩ rfl 11 0 rfl rfl rfl (Nat.le_of_ble_eq_true rfl) dX11_lays_2 (fun _ => rfl) (fun r u H locs hq h => ?_)
  rcases hq with ⟨rfl, b2⟩ | ⟨rfl, b2, m2⟩ | ⟨rfl, b2, m2⟩
  ·
    refine lv_istore_n hx hb dX11_lays_5 rfl hl (by decide) rfl (fun ls hl => ?_)
    refine lv_iload_n hx hb dX11_lays_6 rfl (lv_at hl 0 rfl) ?_
    refine lv_if_eq hx hb (tgt := 16) dX11_lays_7 (by decide) (fun c7 => absurd c7 (by decide)) (fun c7 => ?_)
    refine lv_aload_n hx hb dX11_lays_10 rfl (lv_at hl 1 rfl) ?_
    refine lv_iload_n hx hb dX11_lays_11 rfl (lv_at hl 0 rfl) ?_
    refine cV_i0 S0 hG hA h hl.1 kw_RX11_76 kdV_X11_finds (c_X11_finds (k := 0) (by decide) (by decide)) ⟨rfl, rfl, by decide, by decide, Nat.le_refl _, Nat.le_refl _⟩ rfl 11 0 rfl rfl rfl (Nat.le_of_ble_eq_true rfl) dX11_lays_12 (fun _ => rfl) (fun r u H locs hq h => ?_)
    obtain rfl := hq
    exact hret _ (_, _) _ _ _ _ (Or.inl ⟨b2, rfl, rfl, rfl⟩) h dX11_lays_15
  ·
    refine lv_istore_n hx hb dX11_lays_5 rfl hl (by decide) rfl (fun ls hl => ?_)
    refine lv_iload_n hx hb dX11_lays_6 rfl (lv_at hl 0 rfl) ?_
    refine lv_if_eq hx hb (tgt := 16) dX11_lays_7 (by decide) (fun c7 => absurd c7 (by decide)) (fun c7 => ?_)
    refine lv_aload_n hx hb dX11_lays_10 rfl (lv_at hl 1 rfl) ?_
    refine lv_iload_n hx hb dX11_lays_11 rfl (lv_at hl 0 rfl) ?_
    refine cV_i0 S0 hG hA h hl.1 kw_RX11_76 kdV_X11_finds (c_X11_finds (k := 5) (by decide) (by decide)) ⟨rfl, rfl, by decide, by decide, Nat.le_refl _, Nat.le_refl _⟩ rfl 11 0 rfl rfl rfl (Nat.le_of_ble_eq_true rfl) dX11_lays_12 (fun _ => rfl) (fun r u H locs hq h => ?_)
    obtain rfl := hq
    exact hret _ (_, _) _ _ _ _ (Or.inr (Or.inl ⟨⟨b2, m2⟩, rfl, rfl, rfl⟩)) h dX11_lays_15
  ·
    obtain ⟨xn, rfl, xh, xq⟩ := inR_nat (x := x) ⟨Int.le_trans (by decide) b2.1, b2.2⟩
    have xr := (inR_n xq).mp b2
    rw [nt_nI xq] at m2
    have s9 := hSh xn (by omega)
    refine lv_istore_n hx hb dX11_lays_5 rfl hl (by decide) rfl (fun ls hl => ?_)
    refine lv_iload_n hx hb dX11_lays_6 rfl (lv_at hl 0 rfl) ?_
    refine n_zeq hx hb (by decide) (tgt := 16) dX11_lays_7 (by decide) (fun _ => ?_) (fun q => absurd q (by decide))
    refine lv_iconst (v := nI 0) hx hb dX11_lays_16 (by decide) ?_
    refine lv_istore_n hx hb dX11_lays_17 rfl hl (by decide) rfl (fun ls hl => ?_)
    refine lv_iconst (v := nI 0) hx hb dX11_lays_18 (by decide) ?_
    refine lv_istore hx hb dX11_lays_19 hl (by decide) rfl (fun ls hl => ?_)
    have lp21 : ∀ (kf : Nat) (i : Nat) (H : Heap) (locs : List Loc) (ls : Array Slot) (hi : i ≤ si xn) (hi6 : i ≤ 6), 6 - i < kf → WX G A s H locs (wM G a (layN f nu xn i) g o d st du tb bi si nu mo kp it tn fr to vl wr) → lv_has ls 6 [(0, .ref (a 0)), (1, .int (nI xn)), (3, .int (nI (layC nu xn i))), (4, .int (nI i))] → W p l e (RM 4 66) s m args below meth c H locs 0 0 Q (F0 m 21 ls []) := by
      intro kf
      induction kf with
      | zero => intro i H locs ls hi hi6 hm; exact absurd hm (Nat.not_lt_zero _)
      | succ kf ih21 =>
        intro i H locs ls hi hi6 hm h hl
        refine lv_iload hx hb dX11_lays_21 (lv_at hl 3 rfl) ?_
        refine lv_aload_n hx hb dX11_lays_23 rfl (lv_at hl 0 rfl) ?_
        refine gM_sizeOf S0 hG h dX11_lays_24 ?_
        refine lv_iload_n hx hb dX11_lays_27 rfl (lv_at hl 1 rfl) ?_
        refine rM_sizeOf S0 hG h (by omega) dX11_lays_28 ?_
        refine n_cge hx hb (by omega) (by omega) (tgt := 118) dX11_lays_29 (by decide) (fun c29 => ?_) (fun c29 => ?_)
        ·
          have e9 : i = min 6 (si xn) := by omega
          refine lv_iload_n hx hb dX11_lays_118 rfl (lv_at hl 2 rfl) ?_
          exact hret _ (layN f nu xn i, st) _ _ _ _ (Or.inr (Or.inr ⟨⟨b2, by rw [nt_nI xq]; exact m2⟩, by rw [nt_nI xq, ← e9], by rw [nt_nI xq, ← e9], rfl⟩)) h dX11_lays_119
        ·
          refine lv_iload hx hb dX11_lays_32 (lv_at hl 3 rfl) ?_
          refine lv_bipush (v := nI 6) hx hb dX11_lays_34 (by decide) ?_
          refine n_cge hx hb (by omega) (by omega) (tgt := 118) dX11_lays_36 (by decide) (fun c36 => ?_) (fun c36 => ?_)
          ·
            have e9 : i = min 6 (si xn) := by omega
            refine lv_iload_n hx hb dX11_lays_118 rfl (lv_at hl 2 rfl) ?_
            exact hret _ (layN f nu xn i, st) _ _ _ _ (Or.inr (Or.inr ⟨⟨b2, by rw [nt_nI xq]; exact m2⟩, by rw [nt_nI xq, ← e9], by rw [nt_nI xq, ← e9], rfl⟩)) h dX11_lays_119
          ·
            refine lv_aload_n hx hb dX11_lays_39 rfl (lv_at hl 0 rfl) ?_
            refine gM_numbers S0 hG h dX11_lays_40 ?_
            refine lv_bipush (v := nI 40) hx hb dX11_lays_43 (by decide) ?_
            refine lv_iload_n hx hb dX11_lays_45 rfl (lv_at hl 1 rfl) ?_
            refine n_mul hx hb dX11_lays_46 ?_
            refine lv_iload hx hb dX11_lays_47 (lv_at hl 3 rfl) ?_
            refine n_add hx hb dX11_lays_49 ?_
            refine rM_numbers S0 hG h (by omega) dX11_lays_50 ?_
            refine lv_lconst (v := 0) hx hb dX11_lays_51 (by decide) ?_
            refine lv_ldc2 (v := 11) hx hb S0.2.2.2.1 (S0.2.2.2.2 _ (rin7 _ (List.mem_of_getElem? (i := 8) rfl))) dX11_lays_52 ?_
            refine cS_iE S0 hG hA h hl.1 kw_RX11_49 kdS_X11_in (c_X11_in) ⟨rfl, rfl, by decide, by decide, Nat.le_refl _, Nat.le_refl _⟩ rfl rfl (Nat.le_of_ble_eq_true rfl) dX11_lays_55 (fun r u H locs hq h => ?_)
            rcases hq with ⟨rfl, b55⟩ | ⟨rfl, b55⟩
            ·
              have i9 : isS (nu (40 * xn + i)) = true := by unfold isS; rw [Bool.and_eq_true]; exact ⟨decide_eq_true (by omega), decide_eq_true (by omega)⟩
              refine lv_istore hx hb dX11_lays_58 hl (by decide) rfl (fun ls hl => ?_)
              refine lv_aload_n hx hb dX11_lays_60 rfl (lv_at hl 1 rfl) ?_
              refine gM_s S0 hG h dX11_lays_61 ?_
              refine lv_iconst (v := nI 2) hx hb dX11_lays_64 (by decide) ?_
              refine lv_iload hx hb dX11_lays_65 (lv_at hl 4 rfl) ?_
              refine n_add hx hb dX11_lays_67 ?_
              refine lv_iload hx hb dX11_lays_68 (lv_at hl 0 rfl) ?_
              refine n_zeq hx hb (by decide) (tgt := 89) dX11_lays_70 (by decide) (fun q => absurd q (by decide)) (fun _ => ?_)
              refine lv_aload_n hx hb dX11_lays_73 rfl (lv_at hl 1 rfl) ?_
              refine gM_numbers S0 hG h dX11_lays_74 ?_
              refine lv_bipush (v := nI 40) hx hb dX11_lays_77 (by decide) ?_
              refine lv_iload_n hx hb dX11_lays_79 rfl (lv_at hl 2 rfl) ?_
              refine n_mul hx hb dX11_lays_80 ?_
              refine lv_iload hx hb dX11_lays_81 (lv_at hl 4 rfl) ?_
              refine n_add hx hb dX11_lays_83 ?_
              refine rM_numbers S0 hG h (by omega) dX11_lays_84 ?_
              refine lv_l2i hx hb dX11_lays_85 rfl ?_
              refine tN (l2i_small (v := nu (40 * xn + i)) (by omega) (by omega)) ?_
              refine lv_goto (tgt := 98) hx hb dX11_lays_86 (by decide) ?_
              refine sM_s S0 hG h (by omega) dX11_lays_98 (fun H locs h => ?_)
              have l9 : va_up (layN f nu xn i) (2 + i) (nu (40 * xn + i)).toInt.toNat = layN f nu xn (i + 1) := by show _ = (if isS (nu (40 * xn + i)) = true then _ else _); rw [if_pos i9]
              refine lv_iload_n hx hb dX11_lays_99 rfl (lv_at hl 3 rfl) ?_
              refine lv_iload hx hb dX11_lays_100 (lv_at hl 0 rfl) ?_
              refine n_zeq hx hb (by decide) (tgt := 109) dX11_lays_102 (by decide) (fun q => absurd q (by decide)) (fun _ => ?_)
              refine lv_iconst (v := nI 1) hx hb dX11_lays_105 (by decide) ?_
              refine lv_goto (tgt := 110) hx hb dX11_lays_106 (by decide) ?_
              refine n_add hx hb dX11_lays_110 ?_
              refine tN (t := layC nu xn (i + 1)) (nI_cong (by show _ = layC nu xn i + _; first | rw [if_pos i9] | rw [if_neg i9])) ?_
              refine lv_istore_n hx hb dX11_lays_111 rfl hl (by decide) rfl (fun ls hl => ?_)
              refine lv_iinc hx hb dX11_lays_112 hl (k := 4) rfl (inc_1 _) (by decide) rfl (fun ls hl => ?_)
              refine lv_goto (tgt := 21) hx hb dX11_lays_115 (by decide) ?_
              exact ih21 (i + 1) _ _ _ (by omega) (by omega) (by omega) (h.eq (by rw [l9])) (lv_sub hl [3, 4, 1, 0] rfl)
            ·
              have i9 : ¬ isS (nu (40 * xn + i)) = true := fun z9 => by unfold isS at z9; rw [Bool.and_eq_true] at z9; have q1 := of_decide_eq_true z9.1; have q2 := of_decide_eq_true z9.2; exact b55 (by omega)
              refine lv_istore hx hb dX11_lays_58 hl (by decide) rfl (fun ls hl => ?_)
              refine lv_aload_n hx hb dX11_lays_60 rfl (lv_at hl 1 rfl) ?_
              refine gM_s S0 hG h dX11_lays_61 ?_
              refine lv_iconst (v := nI 2) hx hb dX11_lays_64 (by decide) ?_
              refine lv_iload hx hb dX11_lays_65 (lv_at hl 4 rfl) ?_
              refine n_add hx hb dX11_lays_67 ?_
              refine lv_iload hx hb dX11_lays_68 (lv_at hl 0 rfl) ?_
              refine n_zeq hx hb (by decide) (tgt := 89) dX11_lays_70 (by decide) (fun _ => ?_) (fun q => absurd q (by decide))
              refine lv_aload_n hx hb dX11_lays_89 rfl (lv_at hl 1 rfl) ?_
              refine gM_s S0 hG h dX11_lays_90 ?_
              refine lv_iconst (v := nI 2) hx hb dX11_lays_93 (by decide) ?_
              refine lv_iload hx hb dX11_lays_94 (lv_at hl 4 rfl) ?_
              refine n_add hx hb dX11_lays_96 ?_
              refine rM_s S0 hG h (by omega) dX11_lays_97 ?_
              refine sM_s S0 hG h (by omega) dX11_lays_98 (fun H locs h => ?_)
              have l9 : va_up (layN f nu xn i) (2 + i) (layN f nu xn i (2 + i)) = layN f nu xn (i + 1) := by show _ = (if isS (nu (40 * xn + i)) = true then _ else _); rw [if_neg i9, va_up_id]
              refine lv_iload_n hx hb dX11_lays_99 rfl (lv_at hl 3 rfl) ?_
              refine lv_iload hx hb dX11_lays_100 (lv_at hl 0 rfl) ?_
              refine n_zeq hx hb (by decide) (tgt := 109) dX11_lays_102 (by decide) (fun _ => ?_) (fun q => absurd q (by decide))
              refine lv_iconst (v := nI 0) hx hb dX11_lays_109 (by decide) ?_
              refine n_add hx hb dX11_lays_110 ?_
              refine tN (t := layC nu xn (i + 1)) (nI_cong (by show _ = layC nu xn i + _; first | rw [if_pos i9] | rw [if_neg i9])) ?_
              refine lv_istore_n hx hb dX11_lays_111 rfl hl (by decide) rfl (fun ls hl => ?_)
              refine lv_iinc hx hb dX11_lays_112 hl (k := 4) rfl (inc_1 _) (by decide) rfl (fun ls hl => ?_)
              refine lv_goto (tgt := 21) hx hb dX11_lays_115 (by decide) ?_
              exact ih21 (i + 1) _ _ _ (by omega) (by omega) (by omega) (h.eq (by rw [l9])) (lv_sub hl [3, 4, 1, 0] rfl)
    exact lp21 _ 0 _ _ _ (Nat.zero_le _) (by omega) (Nat.lt_succ_self _) h (lv_sub hl [3, 4, 1, 0] rfl)
set_option maxHeartbeats 4000000 in
set_option maxRecDepth 100000 in
theorem c_X11_book {x y : Int32} (hI : Inv f) (h9 : f 0 ≤ 99999) (hSh : ShI bi si) : Ki G l yX11_book cX11_book 5 (some .int) (RM 9 183) [.ref (a 0), .int x, .int y] (wM G a f g o d st du tb bi si nu mo kp it tn fr to vl wr) (fun u : (Nat → Int64) × (Nat → Nat) × (Nat → Nat) × (Nat → Nat) × Nat => wM G a f g o u.2.2.1 u.2.1 u.2.2.2.1 tb bi si u.1 mo kp u.2.2.2.2 tn fr to vl wr) (fun r u => P_book f bi si nu st x y r u.1 u.2.1) := by
  refine Ki.of (by decide) (Nat.le_of_ble_eq_true rfl) ?_
  intro p e s m args below meth c A Q ls hx hb S0 hG hA h hret hl
  have S0 : CF p m c cX11_book 5 s args RX11 := S0
  have hl : lv_has ls 5 [(0, .ref (a 0)), (1, .int x), (2, .int y)] := hl
  have h1 := hI.2.1
  refine lv_aload_n hx hb dX11_book_0 rfl (lv_at hl 0 rfl) ?_
  refine lv_iload_n hx hb dX11_book_1 rfl (lv_at hl 1 rfl) ?_
  refine cV_i0 S0 hG hA h hl.1 kw_RX11_287 kdV_X11_wrongSheet (c_X11_wrongSheet hSh) ⟨rfl, rfl, by decide, by decide, Nat.le_refl _, Nat.le_refl _⟩ rfl 11 0 rfl rfl rfl (Nat.le_of_ble_eq_true rfl) dX11_book_2 (fun _ => rfl) (fun r u H locs hq h => ?_)
  rcases hq with ⟨rfl, b2⟩ | ⟨rfl, b2, m2⟩ | ⟨rfl, b2, m2⟩
  ·
    refine lv_istore_n hx hb dX11_book_5 rfl hl (by decide) rfl (fun ls hl => ?_)
    refine lv_iload_n hx hb dX11_book_6 rfl (lv_at hl 0 rfl) ?_
    refine lv_if_eq hx hb (tgt := 16) dX11_book_7 (by decide) (fun c7 => absurd c7 (by decide)) (fun c7 => ?_)
    refine lv_aload_n hx hb dX11_book_10 rfl (lv_at hl 1 rfl) ?_
    refine lv_iload_n hx hb dX11_book_11 rfl (lv_at hl 0 rfl) ?_
    refine cV_i0 S0 hG hA h hl.1 kw_RX11_76 kdV_X11_finds (c_X11_finds (k := 0) (by decide) (by decide)) ⟨rfl, rfl, by decide, by decide, Nat.le_refl _, Nat.le_refl _⟩ rfl 11 0 rfl rfl rfl (Nat.le_of_ble_eq_true rfl) dX11_book_12 (fun _ => rfl) (fun r u H locs hq h => ?_)
    obtain rfl := hq
    exact hret _ (_, _, _, _, _) _ _ _ _ (Or.inl ⟨b2, rfl, rfl, rfl⟩) h dX11_book_15
  ·
    refine lv_istore_n hx hb dX11_book_5 rfl hl (by decide) rfl (fun ls hl => ?_)
    refine lv_iload_n hx hb dX11_book_6 rfl (lv_at hl 0 rfl) ?_
    refine lv_if_eq hx hb (tgt := 16) dX11_book_7 (by decide) (fun c7 => absurd c7 (by decide)) (fun c7 => ?_)
    refine lv_aload_n hx hb dX11_book_10 rfl (lv_at hl 1 rfl) ?_
    refine lv_iload_n hx hb dX11_book_11 rfl (lv_at hl 0 rfl) ?_
    refine cV_i0 S0 hG hA h hl.1 kw_RX11_76 kdV_X11_finds (c_X11_finds (k := 5) (by decide) (by decide)) ⟨rfl, rfl, by decide, by decide, Nat.le_refl _, Nat.le_refl _⟩ rfl 11 0 rfl rfl rfl (Nat.le_of_ble_eq_true rfl) dX11_book_12 (fun _ => rfl) (fun r u H locs hq h => ?_)
    obtain rfl := hq
    exact hret _ (_, _, _, _, _) _ _ _ _ (Or.inr (Or.inl ⟨⟨b2, m2⟩, rfl, rfl, rfl⟩)) h dX11_book_15
  ·
    obtain ⟨xn, rfl, xh, xq⟩ := inR_nat (x := x) ⟨Int.le_trans (by decide) b2.1, b2.2⟩
    have xr := (inR_n xq).mp b2
    rw [nt_nI xq] at m2
    have s9 := hSh xn (by omega)
    refine lv_istore_n hx hb dX11_book_5 rfl hl (by decide) rfl (fun ls hl => ?_)
    refine lv_iload_n hx hb dX11_book_6 rfl (lv_at hl 0 rfl) ?_
    refine n_zeq hx hb (by decide) (tgt := 16) dX11_book_7 (by decide) (fun _ => ?_) (fun q => absurd q (by decide))
    refine lv_aload_n hx hb dX11_book_16 rfl (lv_at hl 1 rfl) ?_
    refine lv_iload_n hx hb dX11_book_17 rfl (lv_at hl 3 rfl) ?_
    refine cV_i0 S0 hG hA h hl.1 kw_RX11_123 kdV_X11_isPerson (c_X11_isPerson (by omega)) ⟨rfl, rfl, by decide, by decide, Nat.le_refl _, Nat.le_refl _⟩ rfl 11 0 rfl rfl rfl (Nat.le_of_ble_eq_true rfl) dX11_book_18 (fun _ => rfl) (fun r u H locs hq h => ?_)
    rcases hq with ⟨rfl, b18⟩ | ⟨rfl, b18⟩
    ·
      obtain ⟨yn, rfl, yh, yq⟩ := inR_nat (x := y) ⟨Int.le_trans (by decide) b18.1, b18.2⟩
      have yr := (inR_n yq).mp b18
      refine n_zne hx hb (by decide) (tgt := 31) dX11_book_21 (by decide) (fun _ => ?_) (fun q => absurd q (by decide))
      refine lv_aload_n hx hb dX11_book_31 rfl (lv_at hl 1 rfl) ?_
      refine cV_v0 S0 hG hA h hl.1 kw_RX11_163 kdV_X11_laysAside (c_X11_laysAside) ⟨rfl, rfl, by decide, by decide, Nat.le_refl _, Nat.le_refl _⟩ rfl 11 0 rfl rfl rfl (Nat.le_of_ble_eq_true rfl) dX11_book_32 (fun _ => rfl) (fun u H locs hq h => ?_)
      refine lv_iconst (v := nI 0) hx hb dX11_book_35 (by decide) ?_
      refine lv_istore hx hb dX11_book_36 hl (by decide) rfl (fun ls hl => ?_)
      have lp38 : ∀ (kf : Nat) (i : Nat) (d2 : Nat → Nat) (t1 : Nat) (H : Heap) (locs : List Loc) (ls : Array Slot) (hi : i ≤ si xn), si xn - i < kf → WX G A s H locs (wM G a (goF f i) g o f st d2 tb bi si (bkN f nu xn yn i) mo kp t1 tn fr to vl wr) → lv_has ls 5 [(0, .ref (a 0)), (1, .int (nI xn)), (2, .int (nI yn)), (4, .int (nI i))] → W p l e (RM 9 183) s m args below meth c H locs 0 0 Q (F0 m 38 ls []) := by
        intro kf
        induction kf with
        | zero => intro i d2 t1 H locs ls hi hm; exact absurd hm (Nat.not_lt_zero _)
        | succ kf ih38 =>
          intro i d2 t1 H locs ls hi hm h hl
          have hI9 := goF_inv hI i (by omega)
          have g9 := goF_0 f i
          refine lv_iload hx hb dX11_book_38 (lv_at hl 3 rfl) ?_
          refine lv_aload_n hx hb dX11_book_40 rfl (lv_at hl 0 rfl) ?_
          refine gM_sizeOf S0 hG h dX11_book_41 ?_
          refine lv_iload_n hx hb dX11_book_44 rfl (lv_at hl 1 rfl) ?_
          refine rM_sizeOf S0 hG h (by omega) dX11_book_45 ?_
          refine n_cge hx hb (by omega) (by omega) (tgt := 87) dX11_book_46 (by decide) (fun c46 => ?_) (fun c46 => ?_)
          ·
            have e9 : i = si xn := by omega
            subst e9
            refine lv_aload_n hx hb dX11_book_87 rfl (lv_at hl 0 rfl) ?_
            refine lv_aload_n hx hb dX11_book_88 rfl (lv_at hl 0 rfl) ?_
            refine gM_sizeOf S0 hG h dX11_book_89 ?_
            refine lv_iload_n hx hb dX11_book_92 rfl (lv_at hl 1 rfl) ?_
            refine rM_sizeOf S0 hG h (by omega) dX11_book_93 ?_
            refine cV_i0 S0 hG hA h hl.1 kw_RX11_166 kdV_X11_takesBack (c_X11_takesBack) ⟨rfl, rfl, by decide, by decide, Nat.le_refl _, Nat.le_refl _⟩ rfl 11 0 rfl rfl rfl (Nat.le_of_ble_eq_true rfl) dX11_book_94 (fun _ => rfl) (fun r u H locs hq h => ?_)
            obtain rfl := hq
            exact hret _ (bkN f nu xn yn (si xn), st, _, _, _) _ _ _ _ (Or.inr (Or.inr ⟨⟨b2, by rw [nt_nI xq]; exact m2⟩, Or.inl ⟨b18, by rw [nt_nI xq], by rw [nt_nI xq, nt_nI yq], rfl⟩⟩)) h dX11_book_97
          ·
            refine lv_aload_n hx hb dX11_book_49 rfl (lv_at hl 0 rfl) ?_
            refine gM_numbers S0 hG h dX11_book_50 ?_
            refine lv_bipush (v := nI 40) hx hb dX11_book_53 (by decide) ?_
            refine lv_iload_n hx hb dX11_book_55 rfl (lv_at hl 1 rfl) ?_
            refine n_mul hx hb dX11_book_56 ?_
            refine lv_iload hx hb dX11_book_57 (lv_at hl 3 rfl) ?_
            refine n_add hx hb dX11_book_59 ?_
            refine lv_aload_n hx hb dX11_book_60 rfl (lv_at hl 0 rfl) ?_
            refine gM_bitsOf S0 hG h dX11_book_61 ?_
            refine lv_iload_n hx hb dX11_book_64 rfl (lv_at hl 1 rfl) ?_
            refine rM_bitsOf S0 hG h (by omega) dX11_book_65 ?_
            refine lv_aload_n hx hb dX11_book_66 rfl (lv_at hl 0 rfl) ?_
            refine lv_iload_n hx hb dX11_book_67 rfl (lv_at hl 2 rfl) ?_
            refine lv_iconst (v := nI 1) hx hb dX11_book_68 (by decide) ?_
            refine cV_i0 S0 hG hA h hl.1 kw_RX11_59 kdV_X11_its (c_X11_its (by omega) (by omega)) ⟨rfl, rfl, by decide, by decide, Nat.le_refl _, Nat.le_refl _⟩ rfl 11 0 rfl rfl rfl (Nat.le_of_ble_eq_true rfl) dX11_book_69 (fun _ => rfl) (fun r u H locs hq h => ?_)
            obtain rfl := hq
            refine lv_i2l hx hb dX11_book_72 rfl ?_
            have n5 := hI9.2.2.2.2 yn (by omega)
            refine cS_lE S0 hG hA h hl.1 kw_RX11_290 kdS_X11_narrowed (c_X11_narrowed (by omega)) ⟨rfl, rfl, by decide, by decide, Nat.le_refl _, Nat.le_refl _⟩ rfl rfl (Nat.le_of_ble_eq_true rfl) dX11_book_73 (fun r u H locs hq h => ?_)
            obtain rfl := hq
            refine tL _ (nar_small _ (by omega) _) ?_
            refine sM_numbers S0 hG h (by omega) dX11_book_76 (fun H locs h => ?_)
            refine lv_aload_n hx hb dX11_book_77 rfl (lv_at hl 0 rfl) ?_
            refine cV_v0 S0 hG hA h hl.1 kw_RX11_151 kdV_X11_minute (c_X11_minute hI9 (by omega)) ⟨rfl, rfl, by decide, by decide, Nat.le_refl _, Nat.le_refl _⟩ rfl 11 0 rfl rfl rfl (Nat.le_of_ble_eq_true rfl) dX11_book_78 (fun _ => rfl) (fun u H locs hq h => ?_)
            have h : WX G A s _ _ (wM G a (goF f (i + 1)) g o f st u.1 tb bi si (vp_updL (bkN f nu xn yn i) (40 * xn + i) (nI (its (goF f i) yn 1)).toInt64) mo kp u.2 tn fr to vl wr) := h
            obtain ⟨u1, u2⟩ := u
            obtain rfl : u2 = _ := hq
            refine lv_iinc hx hb dX11_book_81 hl (k := 3) rfl (inc_1 _) (by decide) rfl (fun ls hl => ?_)
            refine lv_goto (tgt := 38) hx hb dX11_book_84 (by decide) ?_
            exact ih38 (i + 1) _ _ _ _ _ (by omega) (by omega) h (lv_sub hl [1, 2, 3, 0] rfl)
      exact lp38 _ 0 _ _ _ _ _ (Nat.zero_le _) (Nat.lt_succ_self _) h (lv_sub hl [2, 3, 4, 0] rfl)
    ·
      refine n_zne hx hb (by decide) (tgt := 31) dX11_book_21 (by decide) (fun q => absurd q (by decide)) (fun _ => ?_)
      refine lv_aload_n hx hb dX11_book_24 rfl (lv_at hl 1 rfl) ?_
      refine lv_ldc (v := -1000000001) hx hb S0.2.2.2.1 (S0.2.2.2.2 _ (rin6 _ (List.mem_of_getElem? (i := 21) rfl))) dX11_book_25 ?_
      refine cV_i0 S0 hG hA h hl.1 kw_RX11_76 kdV_X11_finds (c_X11_finds (k := 0) (by decide) (by decide)) ⟨rfl, rfl, by decide, by decide, Nat.le_refl _, Nat.le_refl _⟩ rfl 11 0 rfl rfl rfl (Nat.le_of_ble_eq_true rfl) dX11_book_27 (fun _ => rfl) (fun r u H locs hq h => ?_)
      obtain rfl := hq
      exact hret _ (_, _, _, _, _) _ _ _ _ (Or.inr (Or.inr ⟨⟨b2, by rw [nt_nI xq]; exact m2⟩, Or.inr ⟨b18, rfl, rfl, rfl⟩⟩)) h dX11_book_30
set_option maxHeartbeats 4000000 in
set_option maxRecDepth 100000 in
theorem c_X11_isBook {x y : Nat} (hI : Inv f) (h9 : f 0 ≤ 150000) (hSh : ShI bi si) (hx1 : x < 4) (hy1 : y < 8) : Ki G l yX11_isBook cX11_isBook 4 (some .boolean) (RM 9 183) [.ref (a 0), .int (nI x), .int (nI y)] (wM G a f g o d st du tb bi si nu mo kp it tn fr to vl wr) (fun u : (Nat → Nat) × (Nat → Nat) × Nat => wM G a u.1 g o d st u.2.1 tb bi si nu mo kp u.2.2 tn fr to vl wr) (fun r u => (r = nI 1 ∧ isBk f nu x y (si x)) ∨ (r = nI 0 ∧ ¬ isBk f nu x y (si x))) := by
  refine Ki.ofz (by decide) (Nat.le_of_ble_eq_true rfl) ?_
  intro p e s m args below meth c A Q ls hx hb S0 hG hA h hret hl
  have S0 : CF p m c cX11_isBook 4 s args RX11 := S0
  have hl : lv_has ls 4 [(0, .ref (a 0)), (1, .int (nI x)), (2, .int (nI y))] := hl
  have s9 := hSh x hx1
  have lp2 : ∀ (kf : Nat) (i : Nat) (d2 : Nat → Nat) (t1 : Nat) (H : Heap) (locs : List Loc) (ls : Array Slot) (hi : i ≤ si x) (hn : ∀ j, j < i → nu (40 * x + j) = (nI (its (goF f j) y 1)).toInt64), si x - i < kf → WX G A s H locs (wM G a (goF f i) g o d st d2 tb bi si nu mo kp t1 tn fr to vl wr) → lv_has ls 4 [(0, .ref (a 0)), (1, .int (nI x)), (2, .int (nI y)), (3, .int (nI i))] → W p l e (RM 9 183) s m args below meth c H locs 0 0 Q (F0 m 2 ls []) := by
    intro kf
    induction kf with
    | zero => intro i d2 t1 H locs ls hi hn hm; exact absurd hm (Nat.not_lt_zero _)
    | succ kf ih2 =>
      intro i d2 t1 H locs ls hi hn hm h hl
      have hI9 := goF_inv hI i (by omega)
      have g9 := goF_0 f i
      refine lv_iload_n hx hb dX11_isBook_2 rfl (lv_at hl 3 rfl) ?_
      refine lv_aload_n hx hb dX11_isBook_3 rfl (lv_at hl 0 rfl) ?_
      refine gM_sizeOf S0 hG h dX11_isBook_4 ?_
      refine lv_iload_n hx hb dX11_isBook_7 rfl (lv_at hl 1 rfl) ?_
      refine rM_sizeOf S0 hG h (by omega) dX11_isBook_8 ?_
      refine n_cge hx hb (by omega) (by omega) (tgt := 46) dX11_isBook_9 (by decide) (fun c9 => ?_) (fun c9 => ?_)
      ·
        refine lv_iconst (v := nI 1) hx hb dX11_isBook_46 (by decide) ?_
        exact hret _ (_, _, _) _ _ _ _ (by decide) (Or.inl ⟨rfl, fun j hj => hn j (by omega)⟩) h dX11_isBook_47
      ·
        refine lv_aload_n hx hb dX11_isBook_12 rfl (lv_at hl 0 rfl) ?_
        refine gM_numbers S0 hG h dX11_isBook_13 ?_
        refine lv_bipush (v := nI 40) hx hb dX11_isBook_16 (by decide) ?_
        refine lv_iload_n hx hb dX11_isBook_18 rfl (lv_at hl 1 rfl) ?_
        refine n_mul hx hb dX11_isBook_19 ?_
        refine lv_iload_n hx hb dX11_isBook_20 rfl (lv_at hl 3 rfl) ?_
        refine n_add hx hb dX11_isBook_21 ?_
        refine rM_numbers S0 hG h (by omega) dX11_isBook_22 ?_
        refine lv_aload_n hx hb dX11_isBook_23 rfl (lv_at hl 0 rfl) ?_
        refine lv_iload_n hx hb dX11_isBook_24 rfl (lv_at hl 2 rfl) ?_
        refine lv_iconst (v := nI 1) hx hb dX11_isBook_25 (by decide) ?_
        refine cV_i0 S0 hG hA h hl.1 kw_RX11_59 kdV_X11_its (c_X11_its (by omega) (by omega)) ⟨rfl, rfl, by decide, by decide, Nat.le_refl _, Nat.le_refl _⟩ rfl 11 0 rfl rfl rfl (Nat.le_of_ble_eq_true rfl) dX11_isBook_26 (fun _ => rfl) (fun r u H locs hq h => ?_)
        obtain rfl := hq
        refine lv_i2l hx hb dX11_isBook_29 rfl ?_
        refine W.lcmp hx hb dX11_isBook_30 ?_
        refine lv_if_eq hx hb (tgt := 36) dX11_isBook_31 (by decide) (fun c31 => ?_) (fun c31 => ?_)
        ·
          have c31 := (lg_cmp_eq _ _).mp c31
          refine lv_aload_n hx hb dX11_isBook_36 rfl (lv_at hl 0 rfl) ?_
          refine cV_v0 S0 hG hA h hl.1 kw_RX11_151 kdV_X11_minute (c_X11_minute hI9 (by omega)) ⟨rfl, rfl, by decide, by decide, Nat.le_refl _, Nat.le_refl _⟩ rfl 11 0 rfl rfl rfl (Nat.le_of_ble_eq_true rfl) dX11_isBook_37 (fun _ => rfl) (fun u H locs hq h => ?_)
          have h : WX G A s _ _ (wM G a (goF f (i + 1)) g o d st u.1 tb bi si nu mo kp u.2 tn fr to vl wr) := h
          obtain ⟨u1, u2⟩ := u
          obtain rfl : u2 = _ := hq
          refine lv_iinc hx hb dX11_isBook_40 hl (k := 3) rfl (inc_1 _) (by decide) rfl (fun ls hl => ?_)
          refine lv_goto (tgt := 2) hx hb dX11_isBook_43 (by decide) ?_
          exact ih2 (i + 1) _ _ _ _ _ (by omega) (lt_s hn c31) (by omega) h (lv_sub hl [1, 2, 3, 0] rfl)
        ·
          have c31 := fun z9 => c31 ((lg_cmp_eq _ _).mpr z9)
          refine lv_iconst (v := nI 0) hx hb dX11_isBook_34 (by decide) ?_
          exact hret _ (_, _, _) _ _ _ _ (by decide) (Or.inr ⟨rfl, fun q => c31 (q i (by omega))⟩) h dX11_isBook_35
  refine lv_iconst (v := nI 0) hx hb dX11_isBook_0 (by decide) ?_
  refine lv_istore_n hx hb dX11_isBook_1 rfl hl (by decide) rfl (fun ls hl => ?_)
  exact lp2 _ 0 _ _ _ _ _ (Nat.zero_le _) (fun j q => absurd q (Nat.not_lt_zero _)) (Nat.lt_succ_self _) h (lv_sub hl [1, 2, 3, 0] rfl)
theorem kw_RX11_294 : GoodIn wsL_law (wsV RX11 294 RX11 yX11_isBook (WS yX11_isBook cX11_isBook 4 (some .boolean))) := gV (rin39 _ (List.mem_of_getElem? (i := 13) rfl)) (rin39 _ (List.mem_of_getElem? (i := 14) rfl)) (rin39 _ (List.mem_of_getElem? (i := 15) rfl)) (rin1 _ (List.mem_of_getElem? (i := 5) rfl)) (rin39 _ (List.mem_of_getElem? (i := 16) rfl))
theorem kdV_X11_isBook : yX11_isBook.cls = RX11 ∧ yX11_isBook.cls ≠ "java/lang/invoke/MethodHandle" ∧ yX11_isBook.cls ≠ "java/lang/invoke/VarHandle" ∧ (parseMethodDescriptor yX11_isBook.desc).map (fun d => d.parameters.length) = some 2 := ⟨rfl, by decide +kernel, by decide +kernel, by decide +kernel⟩
set_option maxHeartbeats 4000000 in
set_option maxRecDepth 100000 in
theorem c_X11_read {x y : Int32} (hI : Inv f) (h9 : f 0 ≤ 99999) (hSh : ShI bi si) : Ki G l yX11_read cX11_read 6 (some .int) (RM 10 206) [.ref (a 0), .int x, .int y] (wM G a f g o d st du tb bi si nu mo kp it tn fr to vl wr) (fun u : (Nat → Nat) × (Nat → Nat) × (Nat → Nat) × Nat => wM G a f g o u.2.1 u.1 u.2.2.1 tb bi si nu mo kp u.2.2.2 tn fr to vl wr) (fun r u => P_read f bi si nu st x y r u.1) := by
  refine Ki.of (by decide) (Nat.le_of_ble_eq_true rfl) ?_
  intro p e s m args below meth c A Q ls hx hb S0 hG hA h hret hl
  have S0 : CF p m c cX11_read 6 s args RX11 := S0
  have hl : lv_has ls 6 [(0, .ref (a 0)), (1, .int x), (2, .int y)] := hl
  have h1 := hI.2.1
  refine lv_aload_n hx hb dX11_read_0 rfl (lv_at hl 0 rfl) ?_
  refine lv_iload_n hx hb dX11_read_1 rfl (lv_at hl 1 rfl) ?_
  refine cV_i0 S0 hG hA h hl.1 kw_RX11_287 kdV_X11_wrongSheet (c_X11_wrongSheet hSh) ⟨rfl, rfl, by decide, by decide, Nat.le_refl _, Nat.le_refl _⟩ rfl 11 0 rfl rfl rfl (Nat.le_of_ble_eq_true rfl) dX11_read_2 (fun _ => rfl) (fun r u H locs hq h => ?_)
  rcases hq with ⟨rfl, b2⟩ | ⟨rfl, b2, m2⟩ | ⟨rfl, b2, m2⟩
  ·
    refine lv_istore_n hx hb dX11_read_5 rfl hl (by decide) rfl (fun ls hl => ?_)
    refine lv_iload_n hx hb dX11_read_6 rfl (lv_at hl 0 rfl) ?_
    refine lv_if_eq hx hb (tgt := 16) dX11_read_7 (by decide) (fun c7 => absurd c7 (by decide)) (fun c7 => ?_)
    refine lv_aload_n hx hb dX11_read_10 rfl (lv_at hl 1 rfl) ?_
    refine lv_iload_n hx hb dX11_read_11 rfl (lv_at hl 0 rfl) ?_
    refine cV_i0 S0 hG hA h hl.1 kw_RX11_76 kdV_X11_finds (c_X11_finds (k := 0) (by decide) (by decide)) ⟨rfl, rfl, by decide, by decide, Nat.le_refl _, Nat.le_refl _⟩ rfl 11 0 rfl rfl rfl (Nat.le_of_ble_eq_true rfl) dX11_read_12 (fun _ => rfl) (fun r u H locs hq h => ?_)
    obtain rfl := hq
    exact hret _ (_, _, _, _) _ _ _ _ (Or.inl ⟨b2, rfl, rfl⟩) h dX11_read_15
  ·
    refine lv_istore_n hx hb dX11_read_5 rfl hl (by decide) rfl (fun ls hl => ?_)
    refine lv_iload_n hx hb dX11_read_6 rfl (lv_at hl 0 rfl) ?_
    refine lv_if_eq hx hb (tgt := 16) dX11_read_7 (by decide) (fun c7 => absurd c7 (by decide)) (fun c7 => ?_)
    refine lv_aload_n hx hb dX11_read_10 rfl (lv_at hl 1 rfl) ?_
    refine lv_iload_n hx hb dX11_read_11 rfl (lv_at hl 0 rfl) ?_
    refine cV_i0 S0 hG hA h hl.1 kw_RX11_76 kdV_X11_finds (c_X11_finds (k := 5) (by decide) (by decide)) ⟨rfl, rfl, by decide, by decide, Nat.le_refl _, Nat.le_refl _⟩ rfl 11 0 rfl rfl rfl (Nat.le_of_ble_eq_true rfl) dX11_read_12 (fun _ => rfl) (fun r u H locs hq h => ?_)
    obtain rfl := hq
    exact hret _ (_, _, _, _) _ _ _ _ (Or.inr (Or.inl ⟨⟨b2, m2⟩, rfl, rfl⟩)) h dX11_read_15
  ·
    obtain ⟨xn, rfl, xh, xq⟩ := inR_nat (x := x) ⟨Int.le_trans (by decide) b2.1, b2.2⟩
    have xr := (inR_n xq).mp b2
    rw [nt_nI xq] at m2
    have s9 := hSh xn (by omega)
    refine lv_istore_n hx hb dX11_read_5 rfl hl (by decide) rfl (fun ls hl => ?_)
    refine lv_iload_n hx hb dX11_read_6 rfl (lv_at hl 0 rfl) ?_
    refine n_zeq hx hb (by decide) (tgt := 16) dX11_read_7 (by decide) (fun _ => ?_) (fun q => absurd q (by decide))
    refine lv_aload_n hx hb dX11_read_16 rfl (lv_at hl 1 rfl) ?_
    refine lv_iload_n hx hb dX11_read_17 rfl (lv_at hl 3 rfl) ?_
    refine cV_i0 S0 hG hA h hl.1 kw_RX11_123 kdV_X11_isPerson (c_X11_isPerson (by omega)) ⟨rfl, rfl, by decide, by decide, Nat.le_refl _, Nat.le_refl _⟩ rfl 11 0 rfl rfl rfl (Nat.le_of_ble_eq_true rfl) dX11_read_18 (fun _ => rfl) (fun r u H locs hq h => ?_)
    rcases hq with ⟨rfl, b18⟩ | ⟨rfl, b18⟩
    ·
      obtain ⟨yn, rfl, yh, yq⟩ := inR_nat (x := y) ⟨Int.le_trans (by decide) b18.1, b18.2⟩
      have yr := (inR_n yq).mp b18
      refine n_zne hx hb (by decide) (tgt := 31) dX11_read_21 (by decide) (fun _ => ?_) (fun q => absurd q (by decide))
      refine lv_aload_n hx hb dX11_read_31 rfl (lv_at hl 1 rfl) ?_
      refine cV_v0 S0 hG hA h hl.1 kw_RX11_163 kdV_X11_laysAside (c_X11_laysAside) ⟨rfl, rfl, by decide, by decide, Nat.le_refl _, Nat.le_refl _⟩ rfl 11 0 rfl rfl rfl (Nat.le_of_ble_eq_true rfl) dX11_read_32 (fun _ => rfl) (fun u H locs hq h => ?_)
      refine lv_iconst (v := nI 0) hx hb dX11_read_35 (by decide) ?_
      refine lv_istore hx hb dX11_read_36 hl (by decide) rfl (fun ls hl => ?_)
      refine lv_iconst (v := nI 0) hx hb dX11_read_38 (by decide) ?_
      refine lv_istore hx hb dX11_read_39 hl (by decide) rfl (fun ls hl => ?_)
      have lp41 : ∀ (kf : Nat) (i : Nat) (d2 : Nat → Nat) (t1 : Nat) (H : Heap) (locs : List Loc) (ls : Array Slot) (hi : i ≤ 24), 24 - i < kf → WX G A s H locs (wM G a f g o f st d2 tb bi si nu mo kp t1 tn fr to vl wr) → lv_has ls 6 [(0, .ref (a 0)), (1, .int (nI xn)), (2, .int (nI yn)), (4, .int (nI (prN f nu xn yn (si xn) i))), (5, .int (nI i))] → W p l e (RM 10 206) s m args below meth c H locs 0 0 Q (F0 m 41 ls []) := by
        intro kf
        induction kf with
        | zero => intro i d2 t1 H locs ls hi hm; exact absurd hm (Nat.not_lt_zero _)
        | succ kf ih41 =>
          intro i d2 t1 H locs ls hi hm h hl
          refine lv_iload hx hb dX11_read_41 (lv_at hl 4 rfl) ?_
          refine lv_bipush (v := nI 24) hx hb dX11_read_43 (by decide) ?_
          refine n_cge hx hb (by omega) (by omega) (tgt := 107) dX11_read_45 (by decide) (fun c45 => ?_) (fun c45 => ?_)
          ·
            refine lv_iload hx hb dX11_read_107 (lv_at hl 3 rfl) ?_
            obtain rfl : i = 24 := by omega
            exact hret _ (st, _, _, _) _ _ _ _ (Or.inr (Or.inr ⟨⟨b2, by rw [nt_nI xq]; exact m2⟩, Or.inl ⟨b18, by rw [nt_nI xq, nt_nI yq], rfl⟩⟩)) h dX11_read_109
          ·
            refine lv_aload_n hx hb dX11_read_48 rfl (lv_at hl 0 rfl) ?_
            refine gM_s S0 hG h dX11_read_49 ?_
            refine lv_iload_n hx hb dX11_read_52 rfl (lv_at hl 2 rfl) ?_
            refine lv_iconst (v := nI 0) hx hb dX11_read_53 (by decide) ?_
            refine cS_iE S0 hG hA h hl.1 kw_RX11_45 kdS_X11_spot (c_X11_spot) ⟨rfl, rfl, by decide, by decide, Nat.le_refl _, Nat.le_refl _⟩ rfl rfl (Nat.le_of_ble_eq_true rfl) dX11_read_54 (fun r u H locs hq h => ?_)
            obtain rfl := hq
            refine lv_iload hx hb dX11_read_57 (lv_at hl 4 rfl) ?_
            refine lv_iconst (v := nI 4) hx hb dX11_read_59 (by decide) ?_
            refine n_div hx hb (by omega) (by decide) (by decide) dX11_read_60 ?_
            refine sM_s S0 hG h (by omega) dX11_read_61 (fun H locs h => ?_)
            refine lv_aload_n hx hb dX11_read_62 rfl (lv_at hl 0 rfl) ?_
            refine gM_s S0 hG h dX11_read_63 ?_
            refine lv_iload_n hx hb dX11_read_66 rfl (lv_at hl 2 rfl) ?_
            refine lv_iconst (v := nI 2) hx hb dX11_read_67 (by decide) ?_
            refine cS_iE S0 hG hA h hl.1 kw_RX11_45 kdS_X11_spot (c_X11_spot) ⟨rfl, rfl, by decide, by decide, Nat.le_refl _, Nat.le_refl _⟩ rfl rfl (Nat.le_of_ble_eq_true rfl) dX11_read_68 (fun r u H locs hq h => ?_)
            obtain rfl := hq
            refine lv_iload hx hb dX11_read_71 (lv_at hl 4 rfl) ?_
            refine lv_iconst (v := nI 4) hx hb dX11_read_73 (by decide) ?_
            refine n_rem hx hb (by omega) (by decide) (by decide) dX11_read_74 ?_
            refine lv_iconst (v := nI 1) hx hb dX11_read_75 (by decide) ?_
            refine n_add hx hb dX11_read_76 ?_
            refine sM_s S0 hG h (by omega) dX11_read_77 (fun H locs h => ?_)
            have h : WX G A s _ _ (wM G a (asK f yn (i / 4) (i % 4 + 1)) g o f st d2 tb bi si nu mo kp t1 tn fr to vl wr) := h
            have k9 := asK_inv (p := yn) hI (show i / 4 ≤ 5 by omega) (show i % 4 + 1 ≤ 4 by omega)
            refine lv_aload_n hx hb dX11_read_78 rfl (lv_at hl 0 rfl) ?_
            refine lv_iload hx hb dX11_read_79 (lv_at hl 3 rfl) ?_
            refine lv_aload_n hx hb dX11_read_81 rfl (lv_at hl 0 rfl) ?_
            refine lv_iload_n hx hb dX11_read_82 rfl (lv_at hl 1 rfl) ?_
            refine lv_iload_n hx hb dX11_read_83 rfl (lv_at hl 2 rfl) ?_
            refine cV_i0 S0 hG hA h hl.1 kw_RX11_294 kdV_X11_isBook (c_X11_isBook k9 (by rw [asK_lo (by omega)]; omega) hSh (by omega) (by omega)) ⟨rfl, rfl, by decide, by decide, Nat.le_refl _, Nat.le_refl _⟩ rfl 11 0 rfl rfl rfl (Nat.le_of_ble_eq_true rfl) dX11_read_84 (fun _ => rfl) (fun r u H locs hq h => ?_)
            obtain ⟨u1, u2, u3⟩ := u
            rcases hq with ⟨rfl, b84⟩ | ⟨rfl, b84⟩
            ·
              refine n_zeq hx hb (by decide) (tgt := 94) dX11_read_87 (by decide) (fun q => absurd q (by decide)) (fun _ => ?_)
              refine lv_iconst (v := nI 1) hx hb dX11_read_90 (by decide) ?_
              refine lv_goto (tgt := 95) hx hb dX11_read_91 (by decide) ?_
              refine n_add hx hb dX11_read_95 ?_
              refine tN (t := prN f nu xn yn (si xn) (i + 1)) (nI_cong (by rw [prN_s]; first | rw [if_pos b84] | rw [if_neg b84])) ?_
              refine cV_i0 S0 hG hA h hl.1 kw_RX11_166 kdV_X11_takesBack (c_X11_takesBack) ⟨rfl, rfl, by decide, by decide, Nat.le_refl _, Nat.le_refl _⟩ rfl 11 0 rfl rfl rfl (Nat.le_of_ble_eq_true rfl) dX11_read_96 (fun _ => rfl) (fun r u H locs hq h => ?_)
              obtain rfl := hq
              refine tN rfl ?_
              refine lv_istore hx hb dX11_read_99 hl (by decide) rfl (fun ls hl => ?_)
              refine lv_iinc hx hb dX11_read_101 hl (k := 4) rfl (inc_1 _) (by decide) rfl (fun ls hl => ?_)
              refine lv_goto (tgt := 41) hx hb dX11_read_104 (by decide) ?_
              exact ih41 (i + 1) _ _ _ _ _ (by omega) (by omega) h (lv_sub hl [2, 3, 4, 1, 0] rfl)
            ·
              refine n_zeq hx hb (by decide) (tgt := 94) dX11_read_87 (by decide) (fun _ => ?_) (fun q => absurd q (by decide))
              refine lv_iconst (v := nI 0) hx hb dX11_read_94 (by decide) ?_
              refine n_add hx hb dX11_read_95 ?_
              refine tN (t := prN f nu xn yn (si xn) (i + 1)) (nI_cong (by rw [prN_s]; first | rw [if_pos b84] | rw [if_neg b84])) ?_
              refine cV_i0 S0 hG hA h hl.1 kw_RX11_166 kdV_X11_takesBack (c_X11_takesBack) ⟨rfl, rfl, by decide, by decide, Nat.le_refl _, Nat.le_refl _⟩ rfl 11 0 rfl rfl rfl (Nat.le_of_ble_eq_true rfl) dX11_read_96 (fun _ => rfl) (fun r u H locs hq h => ?_)
              obtain rfl := hq
              refine tN rfl ?_
              refine lv_istore hx hb dX11_read_99 hl (by decide) rfl (fun ls hl => ?_)
              refine lv_iinc hx hb dX11_read_101 hl (k := 4) rfl (inc_1 _) (by decide) rfl (fun ls hl => ?_)
              refine lv_goto (tgt := 41) hx hb dX11_read_104 (by decide) ?_
              exact ih41 (i + 1) _ _ _ _ _ (by omega) (by omega) h (lv_sub hl [2, 3, 4, 1, 0] rfl)
      exact lp41 _ 0 _ _ _ _ _ (by omega) (Nat.lt_succ_self _) h (lv_sub hl [3, 4, 5, 1, 0] rfl)
    ·
      refine n_zne hx hb (by decide) (tgt := 31) dX11_read_21 (by decide) (fun q => absurd q (by decide)) (fun _ => ?_)
      refine lv_aload_n hx hb dX11_read_24 rfl (lv_at hl 1 rfl) ?_
      refine lv_ldc (v := -1000000001) hx hb S0.2.2.2.1 (S0.2.2.2.2 _ (rin6 _ (List.mem_of_getElem? (i := 21) rfl))) dX11_read_25 ?_
      refine cV_i0 S0 hG hA h hl.1 kw_RX11_76 kdV_X11_finds (c_X11_finds (k := 0) (by decide) (by decide)) ⟨rfl, rfl, by decide, by decide, Nat.le_refl _, Nat.le_refl _⟩ rfl 11 0 rfl rfl rfl (Nat.le_of_ble_eq_true rfl) dX11_read_27 (fun _ => rfl) (fun r u H locs hq h => ?_)
      obtain rfl := hq
      exact hret _ (_, _, _, _) _ _ _ _ (Or.inr (Or.inr ⟨⟨b2, by rw [nt_nI xq]; exact m2⟩, Or.inr ⟨b18, rfl, rfl⟩⟩)) h dX11_read_30
