/-! the reference: set -/
variable {G : GT} {l : Launch} {a : Nat → Nat} {f g o d st du tb bi si : Nat → Nat} {nu mo : Nat → Int64} {kp it tn fr to vl wr : Nat}
set_option maxHeartbeats 4000000 in
set_option maxRecDepth 100000 in
theorem c_X11_set {x y z : Int32} (hI : Inv f) : Ki G l yX11_set cX11_set 5 (some .int) (RM 3 46) [.ref (a 0), .int x, .int y, .int z] (wM G a f g o d st du tb bi si nu mo kp it tn fr to vl wr) (fun u : (Nat → Nat) × (Nat → Nat) => wM G a u.1 g o d u.2 du tb bi si nu mo kp it tn fr to vl wr) (fun r u => P_set f st x y z r u.1 u.2) := by
  refine Ki.of (by decide) (Nat.le_of_ble_eq_true rfl) ?_
  intro p e s m args below meth c A Q ls hx hb S0 hG hA h hret hl
  have S0 : CF p m c cX11_set 5 s args RX11 := S0
  have hl : lv_has ls 5 [(0, .ref (a 0)), (1, .int x), (2, .int y), (3, .int z)] := hl
  have h1 := hI.2.1
  have e0 : (0 : Int64).toInt = 0 := rfl
  have e1 : (1 : Int64).toInt = 1 := rfl
  have e2 : (11 : Int64).toInt = 11 := rfl
  have e3 : (4 : Int64).toInt = 4 := rfl
  have e4 : (9999 : Int64).toInt = 9999 := rfl
  refine lv_iload_n hx hb dX11_set_0 rfl (lv_at hl 2 rfl) ?_
  refine lv_i2l hx hb dX11_set_1 rfl ?_
  refine lv_lconst (v := 1) hx hb dX11_set_2 (by decide) ?_
  refine lv_ldc2 (v := 4) hx hb S0.2.2.2.1 (S0.2.2.2.2 _ (rin19 _ (List.mem_of_getElem? (i := 9) rfl))) dX11_set_3 ?_
  refine cS_iE S0 hG hA h hl.1 kw_RX11_49 kdS_X11_in (c_X11_in) ⟨rfl, rfl, by decide, by decide, Nat.le_refl _, Nat.le_refl _⟩ rfl rfl (Nat.le_of_ble_eq_true rfl) dX11_set_6 (fun r u H locs hq h => ?_)
  rcases hq with ⟨rfl, b6⟩ | ⟨rfl, b6⟩
  ·
    have b6 : inR y 1 4 := by simpa [inR, i2l_toInt] using b6
    obtain ⟨yn, rfl, yh, yq⟩ := inR_nat (x := y) ⟨Int.le_trans (by decide) b6.1, b6.2⟩
    have yr := (inR_n yq).mp b6
    refine n_zeq hx hb (by decide) (tgt := 59) dX11_set_9 (by decide) (fun q => absurd q (by decide)) (fun _ => ?_)
    refine lv_iload_n hx hb dX11_set_12 rfl (lv_at hl 3 rfl) ?_
    refine lv_i2l hx hb dX11_set_13 rfl ?_
    refine lv_iload_n hx hb dX11_set_14 rfl (lv_at hl 2 rfl) ?_
    refine lv_iconst (v := nI 2) hx hb dX11_set_15 (by decide) ?_
    refine n_cne hx hb (by omega) (by omega) (tgt := 23) dX11_set_16 (by decide) (fun c16 => ?_) (fun c16 => ?_)
    ·
      refine lv_lconst (v := 0) hx hb dX11_set_23 (by decide) ?_
      refine lv_iload_n hx hb dX11_set_24 rfl (lv_at hl 2 rfl) ?_
      refine lv_iconst (v := nI 1) hx hb dX11_set_25 (by decide) ?_
      refine n_cne hx hb (by omega) (by omega) (tgt := 35) dX11_set_26 (by decide) (fun c26 => ?_) (fun c26 => ?_)
      ·
        refine lv_iload_n hx hb dX11_set_35 rfl (lv_at hl 2 rfl) ?_
        refine lv_iconst (v := nI 2) hx hb dX11_set_36 (by decide) ?_
        refine n_cne hx hb (by omega) (by omega) (tgt := 46) dX11_set_37 (by decide) (fun c37 => ?_) (fun c37 => ?_)
        ·
          refine lv_ldc2 (v := 9999) hx hb S0.2.2.2.1 (S0.2.2.2.2 _ (rin19 _ (List.mem_of_getElem? (i := 10) rfl))) dX11_set_46 ?_
          refine cS_iE S0 hG hA h hl.1 kw_RX11_49 kdS_X11_in (c_X11_in) ⟨rfl, rfl, by decide, by decide, Nat.le_refl _, Nat.le_refl _⟩ rfl rfl (Nat.le_of_ble_eq_true rfl) dX11_set_49 (fun r u H locs hq h => ?_)
          rcases hq with ⟨rfl, b49⟩ | ⟨rfl, b49⟩
          ·
            simp only [i2l_toInt] at b49
            refine n_zeq hx hb (by decide) (tgt := 59) dX11_set_52 (by decide) (fun q => absurd q (by decide)) (fun _ => ?_)
            refine lv_iconst (v := nI 1) hx hb dX11_set_55 (by decide) ?_
            refine lv_goto (tgt := 60) hx hb dX11_set_56 (by decide) ?_
            refine lv_istore hx hb dX11_set_60 hl (by decide) rfl (fun ls hl => ?_)
            refine lv_aload_n hx hb dX11_set_62 rfl (lv_at hl 1 rfl) ?_
            refine lv_iload_n hx hb dX11_set_63 rfl (lv_at hl 2 rfl) ?_
            refine cV_i0 S0 hG hA h hl.1 kw_RX11_123 kdV_X11_isPerson (c_X11_isPerson (by omega)) ⟨rfl, rfl, by decide, by decide, Nat.le_refl _, Nat.le_refl _⟩ rfl 11 0 rfl rfl rfl (Nat.le_of_ble_eq_true rfl) dX11_set_64 (fun _ => rfl) (fun r u H locs hq h => ?_)
            rcases hq with ⟨rfl, b64⟩ | ⟨rfl, b64⟩
            ·
              obtain ⟨xn, rfl, xh, xq⟩ := inR_nat (x := x) ⟨Int.le_trans (by decide) b64.1, b64.2⟩
              have xr := (inR_n xq).mp b64
              refine n_zeq hx hb (by decide) (tgt := 88) dX11_set_67 (by decide) (fun q => absurd q (by decide)) (fun _ => ?_)
              refine lv_iload hx hb dX11_set_70 (lv_at hl 0 rfl) ?_
              refine n_zeq hx hb (by decide) (tgt := 88) dX11_set_72 (by decide) (fun q => absurd q (by decide)) (fun _ => ?_)
              refine lv_aload_n hx hb dX11_set_75 rfl (lv_at hl 1 rfl) ?_
              refine lv_iload_n hx hb dX11_set_76 rfl (lv_at hl 2 rfl) ?_
              refine lv_iload_n hx hb dX11_set_77 rfl (lv_at hl 3 rfl) ?_
              refine cS_iE S0 hG hA h hl.1 kw_RX11_45 kdS_X11_spot (c_X11_spot) ⟨rfl, rfl, by decide, by decide, Nat.le_refl _, Nat.le_refl _⟩ rfl rfl (Nat.le_of_ble_eq_true rfl) dX11_set_78 (fun r u H locs hq h => ?_)
              obtain rfl := hq
              obtain ⟨zn, rfl, zh, zq⟩ : ∃ zn : Nat, z = nI zn ∧ (zn : Int) ≤ 9999 ∧ zn < 2147483648 := inR_nat (x := z) ⟨by omega, by omega⟩
              have z9 := nI_toInt zq
              have y9 := nI_toInt yq
              refine lv_iload_n hx hb dX11_set_81 rfl (lv_at hl 4 rfl) ?_
              refine cV_i0 S0 hG hA h hl.1 kw_RX11_73 kdV_X11_becomes (c_X11_becomes (by omega)) ⟨rfl, rfl, by decide, by decide, Nat.le_refl _, Nat.le_refl _⟩ rfl 11 0 rfl rfl rfl (Nat.le_of_ble_eq_true rfl) dX11_set_82 (fun _ => rfl) (fun r u H locs hq h => ?_)
              obtain rfl := hq
              refine lv_goto (tgt := 94) hx hb dX11_set_85 (by decide) ?_
              exact hret _ (va_up f (11 + 5 * xn + yn) zn, st) _ _ _ _ (Or.inl ⟨⟨b64, by unfold inR; omega⟩, by simp only [nt_nI xq, nt_nI yq]; rfl, by simp only [nt_nI xq, nt_nI yq, nt_nI zq], rfl⟩) h dX11_set_94
            ·
              refine n_zeq hx hb (by decide) (tgt := 88) dX11_set_67 (by decide) (fun _ => ?_) (fun q => absurd q (by decide))
              refine lv_aload_n hx hb dX11_set_88 rfl (lv_at hl 1 rfl) ?_
              refine lv_ldc (v := -1000000001) hx hb S0.2.2.2.1 (S0.2.2.2.2 _ (rin6 _ (List.mem_of_getElem? (i := 21) rfl))) dX11_set_89 ?_
              refine cV_i0 S0 hG hA h hl.1 kw_RX11_76 kdV_X11_finds (c_X11_finds (k := 0) (by decide) (by decide)) ⟨rfl, rfl, by decide, by decide, Nat.le_refl _, Nat.le_refl _⟩ rfl 11 0 rfl rfl rfl (Nat.le_of_ble_eq_true rfl) dX11_set_91 (fun _ => rfl) (fun r u H locs hq h => ?_)
              obtain rfl := hq
              exact hret _ (_, _) _ _ _ _ (Or.inr ⟨fun q => by obtain ⟨q1, q2⟩ := q; exact b64 q1, rfl, rfl, rfl⟩) h dX11_set_94
          ·
            simp only [i2l_toInt] at b49
            refine n_zeq hx hb (by decide) (tgt := 59) dX11_set_52 (by decide) (fun _ => ?_) (fun q => absurd q (by decide))
            refine lv_iconst (v := nI 0) hx hb dX11_set_59 (by decide) ?_
            refine lv_istore hx hb dX11_set_60 hl (by decide) rfl (fun ls hl => ?_)
            refine lv_aload_n hx hb dX11_set_62 rfl (lv_at hl 1 rfl) ?_
            refine lv_iload_n hx hb dX11_set_63 rfl (lv_at hl 2 rfl) ?_
            refine cV_i0 S0 hG hA h hl.1 kw_RX11_123 kdV_X11_isPerson (c_X11_isPerson (by omega)) ⟨rfl, rfl, by decide, by decide, Nat.le_refl _, Nat.le_refl _⟩ rfl 11 0 rfl rfl rfl (Nat.le_of_ble_eq_true rfl) dX11_set_64 (fun _ => rfl) (fun r u H locs hq h => ?_)
            rcases hq with ⟨rfl, b64⟩ | ⟨rfl, b64⟩
            ·
              obtain ⟨xn, rfl, xh, xq⟩ := inR_nat (x := x) ⟨Int.le_trans (by decide) b64.1, b64.2⟩
              have xr := (inR_n xq).mp b64
              refine n_zeq hx hb (by decide) (tgt := 88) dX11_set_67 (by decide) (fun q => absurd q (by decide)) (fun _ => ?_)
              refine lv_iload hx hb dX11_set_70 (lv_at hl 0 rfl) ?_
              refine n_zeq hx hb (by decide) (tgt := 88) dX11_set_72 (by decide) (fun _ => ?_) (fun q => absurd q (by decide))
              refine lv_aload_n hx hb dX11_set_88 rfl (lv_at hl 1 rfl) ?_
              refine lv_ldc (v := -1000000001) hx hb S0.2.2.2.1 (S0.2.2.2.2 _ (rin6 _ (List.mem_of_getElem? (i := 21) rfl))) dX11_set_89 ?_
              refine cV_i0 S0 hG hA h hl.1 kw_RX11_76 kdV_X11_finds (c_X11_finds (k := 0) (by decide) (by decide)) ⟨rfl, rfl, by decide, by decide, Nat.le_refl _, Nat.le_refl _⟩ rfl 11 0 rfl rfl rfl (Nat.le_of_ble_eq_true rfl) dX11_set_91 (fun _ => rfl) (fun r u H locs hq h => ?_)
              obtain rfl := hq
              exact hret _ (_, _) _ _ _ _ (Or.inr ⟨fun q => by obtain ⟨q1, q2⟩ := q; have y9 := nI_toInt yq; unfold inR at *; omega, rfl, rfl, rfl⟩) h dX11_set_94
            ·
              refine n_zeq hx hb (by decide) (tgt := 88) dX11_set_67 (by decide) (fun _ => ?_) (fun q => absurd q (by decide))
              refine lv_aload_n hx hb dX11_set_88 rfl (lv_at hl 1 rfl) ?_
              refine lv_ldc (v := -1000000001) hx hb S0.2.2.2.1 (S0.2.2.2.2 _ (rin6 _ (List.mem_of_getElem? (i := 21) rfl))) dX11_set_89 ?_
              refine cV_i0 S0 hG hA h hl.1 kw_RX11_76 kdV_X11_finds (c_X11_finds (k := 0) (by decide) (by decide)) ⟨rfl, rfl, by decide, by decide, Nat.le_refl _, Nat.le_refl _⟩ rfl 11 0 rfl rfl rfl (Nat.le_of_ble_eq_true rfl) dX11_set_91 (fun _ => rfl) (fun r u H locs hq h => ?_)
              obtain rfl := hq
              exact hret _ (_, _) _ _ _ _ (Or.inr ⟨fun q => by obtain ⟨q1, q2⟩ := q; exact b64 q1, rfl, rfl, rfl⟩) h dX11_set_94
        ·
          refine lv_ldc2 (v := 4) hx hb S0.2.2.2.1 (S0.2.2.2.2 _ (rin19 _ (List.mem_of_getElem? (i := 9) rfl))) dX11_set_40 ?_
          refine lv_goto (tgt := 49) hx hb dX11_set_43 (by decide) ?_
          refine cS_iE S0 hG hA h hl.1 kw_RX11_49 kdS_X11_in (c_X11_in) ⟨rfl, rfl, by decide, by decide, Nat.le_refl _, Nat.le_refl _⟩ rfl rfl (Nat.le_of_ble_eq_true rfl) dX11_set_49 (fun r u H locs hq h => ?_)
          rcases hq with ⟨rfl, b49⟩ | ⟨rfl, b49⟩
          ·
            simp only [i2l_toInt] at b49
            refine n_zeq hx hb (by decide) (tgt := 59) dX11_set_52 (by decide) (fun q => absurd q (by decide)) (fun _ => ?_)
            refine lv_iconst (v := nI 1) hx hb dX11_set_55 (by decide) ?_
            refine lv_goto (tgt := 60) hx hb dX11_set_56 (by decide) ?_
            refine lv_istore hx hb dX11_set_60 hl (by decide) rfl (fun ls hl => ?_)
            refine lv_aload_n hx hb dX11_set_62 rfl (lv_at hl 1 rfl) ?_
            refine lv_iload_n hx hb dX11_set_63 rfl (lv_at hl 2 rfl) ?_
            refine cV_i0 S0 hG hA h hl.1 kw_RX11_123 kdV_X11_isPerson (c_X11_isPerson (by omega)) ⟨rfl, rfl, by decide, by decide, Nat.le_refl _, Nat.le_refl _⟩ rfl 11 0 rfl rfl rfl (Nat.le_of_ble_eq_true rfl) dX11_set_64 (fun _ => rfl) (fun r u H locs hq h => ?_)
            rcases hq with ⟨rfl, b64⟩ | ⟨rfl, b64⟩
            ·
              obtain ⟨xn, rfl, xh, xq⟩ := inR_nat (x := x) ⟨Int.le_trans (by decide) b64.1, b64.2⟩
              have xr := (inR_n xq).mp b64
              refine n_zeq hx hb (by decide) (tgt := 88) dX11_set_67 (by decide) (fun q => absurd q (by decide)) (fun _ => ?_)
              refine lv_iload hx hb dX11_set_70 (lv_at hl 0 rfl) ?_
              refine n_zeq hx hb (by decide) (tgt := 88) dX11_set_72 (by decide) (fun q => absurd q (by decide)) (fun _ => ?_)
              refine lv_aload_n hx hb dX11_set_75 rfl (lv_at hl 1 rfl) ?_
              refine lv_iload_n hx hb dX11_set_76 rfl (lv_at hl 2 rfl) ?_
              refine lv_iload_n hx hb dX11_set_77 rfl (lv_at hl 3 rfl) ?_
              refine cS_iE S0 hG hA h hl.1 kw_RX11_45 kdS_X11_spot (c_X11_spot) ⟨rfl, rfl, by decide, by decide, Nat.le_refl _, Nat.le_refl _⟩ rfl rfl (Nat.le_of_ble_eq_true rfl) dX11_set_78 (fun r u H locs hq h => ?_)
              obtain rfl := hq
              obtain ⟨zn, rfl, zh, zq⟩ : ∃ zn : Nat, z = nI zn ∧ (zn : Int) ≤ 9999 ∧ zn < 2147483648 := inR_nat (x := z) ⟨by omega, by omega⟩
              have z9 := nI_toInt zq
              have y9 := nI_toInt yq
              refine lv_iload_n hx hb dX11_set_81 rfl (lv_at hl 4 rfl) ?_
              refine cV_i0 S0 hG hA h hl.1 kw_RX11_73 kdV_X11_becomes (c_X11_becomes (by omega)) ⟨rfl, rfl, by decide, by decide, Nat.le_refl _, Nat.le_refl _⟩ rfl 11 0 rfl rfl rfl (Nat.le_of_ble_eq_true rfl) dX11_set_82 (fun _ => rfl) (fun r u H locs hq h => ?_)
              obtain rfl := hq
              refine lv_goto (tgt := 94) hx hb dX11_set_85 (by decide) ?_
              exact hret _ (va_up f (11 + 5 * xn + yn) zn, st) _ _ _ _ (Or.inl ⟨⟨b64, by unfold inR; omega⟩, by simp only [nt_nI xq, nt_nI yq]; rfl, by simp only [nt_nI xq, nt_nI yq, nt_nI zq], rfl⟩) h dX11_set_94
            ·
              refine n_zeq hx hb (by decide) (tgt := 88) dX11_set_67 (by decide) (fun _ => ?_) (fun q => absurd q (by decide))
              refine lv_aload_n hx hb dX11_set_88 rfl (lv_at hl 1 rfl) ?_
              refine lv_ldc (v := -1000000001) hx hb S0.2.2.2.1 (S0.2.2.2.2 _ (rin6 _ (List.mem_of_getElem? (i := 21) rfl))) dX11_set_89 ?_
              refine cV_i0 S0 hG hA h hl.1 kw_RX11_76 kdV_X11_finds (c_X11_finds (k := 0) (by decide) (by decide)) ⟨rfl, rfl, by decide, by decide, Nat.le_refl _, Nat.le_refl _⟩ rfl 11 0 rfl rfl rfl (Nat.le_of_ble_eq_true rfl) dX11_set_91 (fun _ => rfl) (fun r u H locs hq h => ?_)
              obtain rfl := hq
              exact hret _ (_, _) _ _ _ _ (Or.inr ⟨fun q => by obtain ⟨q1, q2⟩ := q; exact b64 q1, rfl, rfl, rfl⟩) h dX11_set_94
          ·
            simp only [i2l_toInt] at b49
            refine n_zeq hx hb (by decide) (tgt := 59) dX11_set_52 (by decide) (fun _ => ?_) (fun q => absurd q (by decide))
            refine lv_iconst (v := nI 0) hx hb dX11_set_59 (by decide) ?_
            refine lv_istore hx hb dX11_set_60 hl (by decide) rfl (fun ls hl => ?_)
            refine lv_aload_n hx hb dX11_set_62 rfl (lv_at hl 1 rfl) ?_
            refine lv_iload_n hx hb dX11_set_63 rfl (lv_at hl 2 rfl) ?_
            refine cV_i0 S0 hG hA h hl.1 kw_RX11_123 kdV_X11_isPerson (c_X11_isPerson (by omega)) ⟨rfl, rfl, by decide, by decide, Nat.le_refl _, Nat.le_refl _⟩ rfl 11 0 rfl rfl rfl (Nat.le_of_ble_eq_true rfl) dX11_set_64 (fun _ => rfl) (fun r u H locs hq h => ?_)
            rcases hq with ⟨rfl, b64⟩ | ⟨rfl, b64⟩
            ·
              obtain ⟨xn, rfl, xh, xq⟩ := inR_nat (x := x) ⟨Int.le_trans (by decide) b64.1, b64.2⟩
              have xr := (inR_n xq).mp b64
              refine n_zeq hx hb (by decide) (tgt := 88) dX11_set_67 (by decide) (fun q => absurd q (by decide)) (fun _ => ?_)
              refine lv_iload hx hb dX11_set_70 (lv_at hl 0 rfl) ?_
              refine n_zeq hx hb (by decide) (tgt := 88) dX11_set_72 (by decide) (fun _ => ?_) (fun q => absurd q (by decide))
              refine lv_aload_n hx hb dX11_set_88 rfl (lv_at hl 1 rfl) ?_
              refine lv_ldc (v := -1000000001) hx hb S0.2.2.2.1 (S0.2.2.2.2 _ (rin6 _ (List.mem_of_getElem? (i := 21) rfl))) dX11_set_89 ?_
              refine cV_i0 S0 hG hA h hl.1 kw_RX11_76 kdV_X11_finds (c_X11_finds (k := 0) (by decide) (by decide)) ⟨rfl, rfl, by decide, by decide, Nat.le_refl _, Nat.le_refl _⟩ rfl 11 0 rfl rfl rfl (Nat.le_of_ble_eq_true rfl) dX11_set_91 (fun _ => rfl) (fun r u H locs hq h => ?_)
              obtain rfl := hq
              exact hret _ (_, _) _ _ _ _ (Or.inr ⟨fun q => by obtain ⟨q1, q2⟩ := q; have y9 := nI_toInt yq; unfold inR at *; omega, rfl, rfl, rfl⟩) h dX11_set_94
            ·
              refine n_zeq hx hb (by decide) (tgt := 88) dX11_set_67 (by decide) (fun _ => ?_) (fun q => absurd q (by decide))
              refine lv_aload_n hx hb dX11_set_88 rfl (lv_at hl 1 rfl) ?_
              refine lv_ldc (v := -1000000001) hx hb S0.2.2.2.1 (S0.2.2.2.2 _ (rin6 _ (List.mem_of_getElem? (i := 21) rfl))) dX11_set_89 ?_
              refine cV_i0 S0 hG hA h hl.1 kw_RX11_76 kdV_X11_finds (c_X11_finds (k := 0) (by decide) (by decide)) ⟨rfl, rfl, by decide, by decide, Nat.le_refl _, Nat.le_refl _⟩ rfl 11 0 rfl rfl rfl (Nat.le_of_ble_eq_true rfl) dX11_set_91 (fun _ => rfl) (fun r u H locs hq h => ?_)
              obtain rfl := hq
              exact hret _ (_, _) _ _ _ _ (Or.inr ⟨fun q => by obtain ⟨q1, q2⟩ := q; exact b64 q1, rfl, rfl, rfl⟩) h dX11_set_94
      ·
        refine lv_ldc2 (v := 11) hx hb S0.2.2.2.1 (S0.2.2.2.2 _ (rin7 _ (List.mem_of_getElem? (i := 8) rfl))) dX11_set_29 ?_
        refine lv_goto (tgt := 49) hx hb dX11_set_32 (by decide) ?_
        refine cS_iE S0 hG hA h hl.1 kw_RX11_49 kdS_X11_in (c_X11_in) ⟨rfl, rfl, by decide, by decide, Nat.le_refl _, Nat.le_refl _⟩ rfl rfl (Nat.le_of_ble_eq_true rfl) dX11_set_49 (fun r u H locs hq h => ?_)
        rcases hq with ⟨rfl, b49⟩ | ⟨rfl, b49⟩
        ·
          simp only [i2l_toInt] at b49
          refine n_zeq hx hb (by decide) (tgt := 59) dX11_set_52 (by decide) (fun q => absurd q (by decide)) (fun _ => ?_)
          refine lv_iconst (v := nI 1) hx hb dX11_set_55 (by decide) ?_
          refine lv_goto (tgt := 60) hx hb dX11_set_56 (by decide) ?_
          refine lv_istore hx hb dX11_set_60 hl (by decide) rfl (fun ls hl => ?_)
          refine lv_aload_n hx hb dX11_set_62 rfl (lv_at hl 1 rfl) ?_
          refine lv_iload_n hx hb dX11_set_63 rfl (lv_at hl 2 rfl) ?_
          refine cV_i0 S0 hG hA h hl.1 kw_RX11_123 kdV_X11_isPerson (c_X11_isPerson (by omega)) ⟨rfl, rfl, by decide, by decide, Nat.le_refl _, Nat.le_refl _⟩ rfl 11 0 rfl rfl rfl (Nat.le_of_ble_eq_true rfl) dX11_set_64 (fun _ => rfl) (fun r u H locs hq h => ?_)
          rcases hq with ⟨rfl, b64⟩ | ⟨rfl, b64⟩
          ·
            obtain ⟨xn, rfl, xh, xq⟩ := inR_nat (x := x) ⟨Int.le_trans (by decide) b64.1, b64.2⟩
            have xr := (inR_n xq).mp b64
            refine n_zeq hx hb (by decide) (tgt := 88) dX11_set_67 (by decide) (fun q => absurd q (by decide)) (fun _ => ?_)
            refine lv_iload hx hb dX11_set_70 (lv_at hl 0 rfl) ?_
            refine n_zeq hx hb (by decide) (tgt := 88) dX11_set_72 (by decide) (fun q => absurd q (by decide)) (fun _ => ?_)
            refine lv_aload_n hx hb dX11_set_75 rfl (lv_at hl 1 rfl) ?_
            refine lv_iload_n hx hb dX11_set_76 rfl (lv_at hl 2 rfl) ?_
            refine lv_iload_n hx hb dX11_set_77 rfl (lv_at hl 3 rfl) ?_
            refine cS_iE S0 hG hA h hl.1 kw_RX11_45 kdS_X11_spot (c_X11_spot) ⟨rfl, rfl, by decide, by decide, Nat.le_refl _, Nat.le_refl _⟩ rfl rfl (Nat.le_of_ble_eq_true rfl) dX11_set_78 (fun r u H locs hq h => ?_)
            obtain rfl := hq
            obtain ⟨zn, rfl, zh, zq⟩ : ∃ zn : Nat, z = nI zn ∧ (zn : Int) ≤ 9999 ∧ zn < 2147483648 := inR_nat (x := z) ⟨by omega, by omega⟩
            have z9 := nI_toInt zq
            have y9 := nI_toInt yq
            refine lv_iload_n hx hb dX11_set_81 rfl (lv_at hl 4 rfl) ?_
            refine cV_i0 S0 hG hA h hl.1 kw_RX11_73 kdV_X11_becomes (c_X11_becomes (by omega)) ⟨rfl, rfl, by decide, by decide, Nat.le_refl _, Nat.le_refl _⟩ rfl 11 0 rfl rfl rfl (Nat.le_of_ble_eq_true rfl) dX11_set_82 (fun _ => rfl) (fun r u H locs hq h => ?_)
            obtain rfl := hq
            refine lv_goto (tgt := 94) hx hb dX11_set_85 (by decide) ?_
            exact hret _ (va_up f (11 + 5 * xn + yn) zn, st) _ _ _ _ (Or.inl ⟨⟨b64, by unfold inR; omega⟩, by simp only [nt_nI xq, nt_nI yq]; rfl, by simp only [nt_nI xq, nt_nI yq, nt_nI zq], rfl⟩) h dX11_set_94
          ·
            refine n_zeq hx hb (by decide) (tgt := 88) dX11_set_67 (by decide) (fun _ => ?_) (fun q => absurd q (by decide))
            refine lv_aload_n hx hb dX11_set_88 rfl (lv_at hl 1 rfl) ?_
            refine lv_ldc (v := -1000000001) hx hb S0.2.2.2.1 (S0.2.2.2.2 _ (rin6 _ (List.mem_of_getElem? (i := 21) rfl))) dX11_set_89 ?_
            refine cV_i0 S0 hG hA h hl.1 kw_RX11_76 kdV_X11_finds (c_X11_finds (k := 0) (by decide) (by decide)) ⟨rfl, rfl, by decide, by decide, Nat.le_refl _, Nat.le_refl _⟩ rfl 11 0 rfl rfl rfl (Nat.le_of_ble_eq_true rfl) dX11_set_91 (fun _ => rfl) (fun r u H locs hq h => ?_)
            obtain rfl := hq
            exact hret _ (_, _) _ _ _ _ (Or.inr ⟨fun q => by obtain ⟨q1, q2⟩ := q; exact b64 q1, rfl, rfl, rfl⟩) h dX11_set_94
        ·
          simp only [i2l_toInt] at b49
          refine n_zeq hx hb (by decide) (tgt := 59) dX11_set_52 (by decide) (fun _ => ?_) (fun q => absurd q (by decide))
          refine lv_iconst (v := nI 0) hx hb dX11_set_59 (by decide) ?_
          refine lv_istore hx hb dX11_set_60 hl (by decide) rfl (fun ls hl => ?_)
          refine lv_aload_n hx hb dX11_set_62 rfl (lv_at hl 1 rfl) ?_
          refine lv_iload_n hx hb dX11_set_63 rfl (lv_at hl 2 rfl) ?_
          refine cV_i0 S0 hG hA h hl.1 kw_RX11_123 kdV_X11_isPerson (c_X11_isPerson (by omega)) ⟨rfl, rfl, by decide, by decide, Nat.le_refl _, Nat.le_refl _⟩ rfl 11 0 rfl rfl rfl (Nat.le_of_ble_eq_true rfl) dX11_set_64 (fun _ => rfl) (fun r u H locs hq h => ?_)
          rcases hq with ⟨rfl, b64⟩ | ⟨rfl, b64⟩
          ·
            obtain ⟨xn, rfl, xh, xq⟩ := inR_nat (x := x) ⟨Int.le_trans (by decide) b64.1, b64.2⟩
            have xr := (inR_n xq).mp b64
            refine n_zeq hx hb (by decide) (tgt := 88) dX11_set_67 (by decide) (fun q => absurd q (by decide)) (fun _ => ?_)
            refine lv_iload hx hb dX11_set_70 (lv_at hl 0 rfl) ?_
            refine n_zeq hx hb (by decide) (tgt := 88) dX11_set_72 (by decide) (fun _ => ?_) (fun q => absurd q (by decide))
            refine lv_aload_n hx hb dX11_set_88 rfl (lv_at hl 1 rfl) ?_
            refine lv_ldc (v := -1000000001) hx hb S0.2.2.2.1 (S0.2.2.2.2 _ (rin6 _ (List.mem_of_getElem? (i := 21) rfl))) dX11_set_89 ?_
            refine cV_i0 S0 hG hA h hl.1 kw_RX11_76 kdV_X11_finds (c_X11_finds (k := 0) (by decide) (by decide)) ⟨rfl, rfl, by decide, by decide, Nat.le_refl _, Nat.le_refl _⟩ rfl 11 0 rfl rfl rfl (Nat.le_of_ble_eq_true rfl) dX11_set_91 (fun _ => rfl) (fun r u H locs hq h => ?_)
            obtain rfl := hq
            exact hret _ (_, _) _ _ _ _ (Or.inr ⟨fun q => by obtain ⟨q1, q2⟩ := q; have y9 := nI_toInt yq; unfold inR at *; omega, rfl, rfl, rfl⟩) h dX11_set_94
          ·
            refine n_zeq hx hb (by decide) (tgt := 88) dX11_set_67 (by decide) (fun _ => ?_) (fun q => absurd q (by decide))
            refine lv_aload_n hx hb dX11_set_88 rfl (lv_at hl 1 rfl) ?_
            refine lv_ldc (v := -1000000001) hx hb S0.2.2.2.1 (S0.2.2.2.2 _ (rin6 _ (List.mem_of_getElem? (i := 21) rfl))) dX11_set_89 ?_
            refine cV_i0 S0 hG hA h hl.1 kw_RX11_76 kdV_X11_finds (c_X11_finds (k := 0) (by decide) (by decide)) ⟨rfl, rfl, by decide, by decide, Nat.le_refl _, Nat.le_refl _⟩ rfl 11 0 rfl rfl rfl (Nat.le_of_ble_eq_true rfl) dX11_set_91 (fun _ => rfl) (fun r u H locs hq h => ?_)
            obtain rfl := hq
            exact hret _ (_, _) _ _ _ _ (Or.inr ⟨fun q => by obtain ⟨q1, q2⟩ := q; exact b64 q1, rfl, rfl, rfl⟩) h dX11_set_94
    ·
      refine lv_lconst (v := 1) hx hb dX11_set_19 (by decide) ?_
      refine lv_goto (tgt := 24) hx hb dX11_set_20 (by decide) ?_
      refine lv_iload_n hx hb dX11_set_24 rfl (lv_at hl 2 rfl) ?_
      refine lv_iconst (v := nI 1) hx hb dX11_set_25 (by decide) ?_
      refine n_cne hx hb (by omega) (by omega) (tgt := 35) dX11_set_26 (by decide) (fun c26 => ?_) (fun c26 => ?_)
      ·
        refine lv_iload_n hx hb dX11_set_35 rfl (lv_at hl 2 rfl) ?_
        refine lv_iconst (v := nI 2) hx hb dX11_set_36 (by decide) ?_
        refine n_cne hx hb (by omega) (by omega) (tgt := 46) dX11_set_37 (by decide) (fun c37 => ?_) (fun c37 => ?_)
        ·
          refine lv_ldc2 (v := 9999) hx hb S0.2.2.2.1 (S0.2.2.2.2 _ (rin19 _ (List.mem_of_getElem? (i := 10) rfl))) dX11_set_46 ?_
          refine cS_iE S0 hG hA h hl.1 kw_RX11_49 kdS_X11_in (c_X11_in) ⟨rfl, rfl, by decide, by decide, Nat.le_refl _, Nat.le_refl _⟩ rfl rfl (Nat.le_of_ble_eq_true rfl) dX11_set_49 (fun r u H locs hq h => ?_)
          rcases hq with ⟨rfl, b49⟩ | ⟨rfl, b49⟩
          ·
            simp only [i2l_toInt] at b49
            refine n_zeq hx hb (by decide) (tgt := 59) dX11_set_52 (by decide) (fun q => absurd q (by decide)) (fun _ => ?_)
            refine lv_iconst (v := nI 1) hx hb dX11_set_55 (by decide) ?_
            refine lv_goto (tgt := 60) hx hb dX11_set_56 (by decide) ?_
            refine lv_istore hx hb dX11_set_60 hl (by decide) rfl (fun ls hl => ?_)
            refine lv_aload_n hx hb dX11_set_62 rfl (lv_at hl 1 rfl) ?_
            refine lv_iload_n hx hb dX11_set_63 rfl (lv_at hl 2 rfl) ?_
            refine cV_i0 S0 hG hA h hl.1 kw_RX11_123 kdV_X11_isPerson (c_X11_isPerson (by omega)) ⟨rfl, rfl, by decide, by decide, Nat.le_refl _, Nat.le_refl _⟩ rfl 11 0 rfl rfl rfl (Nat.le_of_ble_eq_true rfl) dX11_set_64 (fun _ => rfl) (fun r u H locs hq h => ?_)
            rcases hq with ⟨rfl, b64⟩ | ⟨rfl, b64⟩
            ·
              obtain ⟨xn, rfl, xh, xq⟩ := inR_nat (x := x) ⟨Int.le_trans (by decide) b64.1, b64.2⟩
              have xr := (inR_n xq).mp b64
              refine n_zeq hx hb (by decide) (tgt := 88) dX11_set_67 (by decide) (fun q => absurd q (by decide)) (fun _ => ?_)
              refine lv_iload hx hb dX11_set_70 (lv_at hl 0 rfl) ?_
              refine n_zeq hx hb (by decide) (tgt := 88) dX11_set_72 (by decide) (fun q => absurd q (by decide)) (fun _ => ?_)
              refine lv_aload_n hx hb dX11_set_75 rfl (lv_at hl 1 rfl) ?_
              refine lv_iload_n hx hb dX11_set_76 rfl (lv_at hl 2 rfl) ?_
              refine lv_iload_n hx hb dX11_set_77 rfl (lv_at hl 3 rfl) ?_
              refine cS_iE S0 hG hA h hl.1 kw_RX11_45 kdS_X11_spot (c_X11_spot) ⟨rfl, rfl, by decide, by decide, Nat.le_refl _, Nat.le_refl _⟩ rfl rfl (Nat.le_of_ble_eq_true rfl) dX11_set_78 (fun r u H locs hq h => ?_)
              obtain rfl := hq
              obtain ⟨zn, rfl, zh, zq⟩ : ∃ zn : Nat, z = nI zn ∧ (zn : Int) ≤ 9999 ∧ zn < 2147483648 := inR_nat (x := z) ⟨by omega, by omega⟩
              have z9 := nI_toInt zq
              have y9 := nI_toInt yq
              refine lv_iload_n hx hb dX11_set_81 rfl (lv_at hl 4 rfl) ?_
              refine cV_i0 S0 hG hA h hl.1 kw_RX11_73 kdV_X11_becomes (c_X11_becomes (by omega)) ⟨rfl, rfl, by decide, by decide, Nat.le_refl _, Nat.le_refl _⟩ rfl 11 0 rfl rfl rfl (Nat.le_of_ble_eq_true rfl) dX11_set_82 (fun _ => rfl) (fun r u H locs hq h => ?_)
              obtain rfl := hq
              refine lv_goto (tgt := 94) hx hb dX11_set_85 (by decide) ?_
              exact hret _ (va_up f (11 + 5 * xn + yn) zn, st) _ _ _ _ (Or.inl ⟨⟨b64, by unfold inR; omega⟩, by simp only [nt_nI xq, nt_nI yq]; rfl, by simp only [nt_nI xq, nt_nI yq, nt_nI zq], rfl⟩) h dX11_set_94
            ·
              refine n_zeq hx hb (by decide) (tgt := 88) dX11_set_67 (by decide) (fun _ => ?_) (fun q => absurd q (by decide))
              refine lv_aload_n hx hb dX11_set_88 rfl (lv_at hl 1 rfl) ?_
              refine lv_ldc (v := -1000000001) hx hb S0.2.2.2.1 (S0.2.2.2.2 _ (rin6 _ (List.mem_of_getElem? (i := 21) rfl))) dX11_set_89 ?_
              refine cV_i0 S0 hG hA h hl.1 kw_RX11_76 kdV_X11_finds (c_X11_finds (k := 0) (by decide) (by decide)) ⟨rfl, rfl, by decide, by decide, Nat.le_refl _, Nat.le_refl _⟩ rfl 11 0 rfl rfl rfl (Nat.le_of_ble_eq_true rfl) dX11_set_91 (fun _ => rfl) (fun r u H locs hq h => ?_)
              obtain rfl := hq
              exact hret _ (_, _) _ _ _ _ (Or.inr ⟨fun q => by obtain ⟨q1, q2⟩ := q; exact b64 q1, rfl, rfl, rfl⟩) h dX11_set_94
          ·
            simp only [i2l_toInt] at b49
            refine n_zeq hx hb (by decide) (tgt := 59) dX11_set_52 (by decide) (fun _ => ?_) (fun q => absurd q (by decide))
            refine lv_iconst (v := nI 0) hx hb dX11_set_59 (by decide) ?_
            refine lv_istore hx hb dX11_set_60 hl (by decide) rfl (fun ls hl => ?_)
            refine lv_aload_n hx hb dX11_set_62 rfl (lv_at hl 1 rfl) ?_
            refine lv_iload_n hx hb dX11_set_63 rfl (lv_at hl 2 rfl) ?_
            refine cV_i0 S0 hG hA h hl.1 kw_RX11_123 kdV_X11_isPerson (c_X11_isPerson (by omega)) ⟨rfl, rfl, by decide, by decide, Nat.le_refl _, Nat.le_refl _⟩ rfl 11 0 rfl rfl rfl (Nat.le_of_ble_eq_true rfl) dX11_set_64 (fun _ => rfl) (fun r u H locs hq h => ?_)
            rcases hq with ⟨rfl, b64⟩ | ⟨rfl, b64⟩
            ·
              obtain ⟨xn, rfl, xh, xq⟩ := inR_nat (x := x) ⟨Int.le_trans (by decide) b64.1, b64.2⟩
              have xr := (inR_n xq).mp b64
              refine n_zeq hx hb (by decide) (tgt := 88) dX11_set_67 (by decide) (fun q => absurd q (by decide)) (fun _ => ?_)
              refine lv_iload hx hb dX11_set_70 (lv_at hl 0 rfl) ?_
              refine n_zeq hx hb (by decide) (tgt := 88) dX11_set_72 (by decide) (fun _ => ?_) (fun q => absurd q (by decide))
              refine lv_aload_n hx hb dX11_set_88 rfl (lv_at hl 1 rfl) ?_
              refine lv_ldc (v := -1000000001) hx hb S0.2.2.2.1 (S0.2.2.2.2 _ (rin6 _ (List.mem_of_getElem? (i := 21) rfl))) dX11_set_89 ?_
              refine cV_i0 S0 hG hA h hl.1 kw_RX11_76 kdV_X11_finds (c_X11_finds (k := 0) (by decide) (by decide)) ⟨rfl, rfl, by decide, by decide, Nat.le_refl _, Nat.le_refl _⟩ rfl 11 0 rfl rfl rfl (Nat.le_of_ble_eq_true rfl) dX11_set_91 (fun _ => rfl) (fun r u H locs hq h => ?_)
              obtain rfl := hq
              exact hret _ (_, _) _ _ _ _ (Or.inr ⟨fun q => by obtain ⟨q1, q2⟩ := q; have y9 := nI_toInt yq; unfold inR at *; omega, rfl, rfl, rfl⟩) h dX11_set_94
            ·
              refine n_zeq hx hb (by decide) (tgt := 88) dX11_set_67 (by decide) (fun _ => ?_) (fun q => absurd q (by decide))
              refine lv_aload_n hx hb dX11_set_88 rfl (lv_at hl 1 rfl) ?_
              refine lv_ldc (v := -1000000001) hx hb S0.2.2.2.1 (S0.2.2.2.2 _ (rin6 _ (List.mem_of_getElem? (i := 21) rfl))) dX11_set_89 ?_
              refine cV_i0 S0 hG hA h hl.1 kw_RX11_76 kdV_X11_finds (c_X11_finds (k := 0) (by decide) (by decide)) ⟨rfl, rfl, by decide, by decide, Nat.le_refl _, Nat.le_refl _⟩ rfl 11 0 rfl rfl rfl (Nat.le_of_ble_eq_true rfl) dX11_set_91 (fun _ => rfl) (fun r u H locs hq h => ?_)
              obtain rfl := hq
              exact hret _ (_, _) _ _ _ _ (Or.inr ⟨fun q => by obtain ⟨q1, q2⟩ := q; exact b64 q1, rfl, rfl, rfl⟩) h dX11_set_94
        ·
          refine lv_ldc2 (v := 4) hx hb S0.2.2.2.1 (S0.2.2.2.2 _ (rin19 _ (List.mem_of_getElem? (i := 9) rfl))) dX11_set_40 ?_
          refine lv_goto (tgt := 49) hx hb dX11_set_43 (by decide) ?_
          refine cS_iE S0 hG hA h hl.1 kw_RX11_49 kdS_X11_in (c_X11_in) ⟨rfl, rfl, by decide, by decide, Nat.le_refl _, Nat.le_refl _⟩ rfl rfl (Nat.le_of_ble_eq_true rfl) dX11_set_49 (fun r u H locs hq h => ?_)
          rcases hq with ⟨rfl, b49⟩ | ⟨rfl, b49⟩
          ·
            simp only [i2l_toInt] at b49
            refine n_zeq hx hb (by decide) (tgt := 59) dX11_set_52 (by decide) (fun q => absurd q (by decide)) (fun _ => ?_)
            refine lv_iconst (v := nI 1) hx hb dX11_set_55 (by decide) ?_
            refine lv_goto (tgt := 60) hx hb dX11_set_56 (by decide) ?_
            refine lv_istore hx hb dX11_set_60 hl (by decide) rfl (fun ls hl => ?_)
            refine lv_aload_n hx hb dX11_set_62 rfl (lv_at hl 1 rfl) ?_
            refine lv_iload_n hx hb dX11_set_63 rfl (lv_at hl 2 rfl) ?_
            refine cV_i0 S0 hG hA h hl.1 kw_RX11_123 kdV_X11_isPerson (c_X11_isPerson (by omega)) ⟨rfl, rfl, by decide, by decide, Nat.le_refl _, Nat.le_refl _⟩ rfl 11 0 rfl rfl rfl (Nat.le_of_ble_eq_true rfl) dX11_set_64 (fun _ => rfl) (fun r u H locs hq h => ?_)
            rcases hq with ⟨rfl, b64⟩ | ⟨rfl, b64⟩
            ·
              obtain ⟨xn, rfl, xh, xq⟩ := inR_nat (x := x) ⟨Int.le_trans (by decide) b64.1, b64.2⟩
              have xr := (inR_n xq).mp b64
              refine n_zeq hx hb (by decide) (tgt := 88) dX11_set_67 (by decide) (fun q => absurd q (by decide)) (fun _ => ?_)
              refine lv_iload hx hb dX11_set_70 (lv_at hl 0 rfl) ?_
              refine n_zeq hx hb (by decide) (tgt := 88) dX11_set_72 (by decide) (fun q => absurd q (by decide)) (fun _ => ?_)
              refine lv_aload_n hx hb dX11_set_75 rfl (lv_at hl 1 rfl) ?_
              refine lv_iload_n hx hb dX11_set_76 rfl (lv_at hl 2 rfl) ?_
              refine lv_iload_n hx hb dX11_set_77 rfl (lv_at hl 3 rfl) ?_
              refine cS_iE S0 hG hA h hl.1 kw_RX11_45 kdS_X11_spot (c_X11_spot) ⟨rfl, rfl, by decide, by decide, Nat.le_refl _, Nat.le_refl _⟩ rfl rfl (Nat.le_of_ble_eq_true rfl) dX11_set_78 (fun r u H locs hq h => ?_)
              obtain rfl := hq
              obtain ⟨zn, rfl, zh, zq⟩ : ∃ zn : Nat, z = nI zn ∧ (zn : Int) ≤ 9999 ∧ zn < 2147483648 := inR_nat (x := z) ⟨by omega, by omega⟩
              have z9 := nI_toInt zq
              have y9 := nI_toInt yq
              refine lv_iload_n hx hb dX11_set_81 rfl (lv_at hl 4 rfl) ?_
              refine cV_i0 S0 hG hA h hl.1 kw_RX11_73 kdV_X11_becomes (c_X11_becomes (by omega)) ⟨rfl, rfl, by decide, by decide, Nat.le_refl _, Nat.le_refl _⟩ rfl 11 0 rfl rfl rfl (Nat.le_of_ble_eq_true rfl) dX11_set_82 (fun _ => rfl) (fun r u H locs hq h => ?_)
              obtain rfl := hq
              refine lv_goto (tgt := 94) hx hb dX11_set_85 (by decide) ?_
              exact hret _ (va_up f (11 + 5 * xn + yn) zn, st) _ _ _ _ (Or.inl ⟨⟨b64, by unfold inR; omega⟩, by simp only [nt_nI xq, nt_nI yq]; rfl, by simp only [nt_nI xq, nt_nI yq, nt_nI zq], rfl⟩) h dX11_set_94
            ·
              refine n_zeq hx hb (by decide) (tgt := 88) dX11_set_67 (by decide) (fun _ => ?_) (fun q => absurd q (by decide))
              refine lv_aload_n hx hb dX11_set_88 rfl (lv_at hl 1 rfl) ?_
              refine lv_ldc (v := -1000000001) hx hb S0.2.2.2.1 (S0.2.2.2.2 _ (rin6 _ (List.mem_of_getElem? (i := 21) rfl))) dX11_set_89 ?_
              refine cV_i0 S0 hG hA h hl.1 kw_RX11_76 kdV_X11_finds (c_X11_finds (k := 0) (by decide) (by decide)) ⟨rfl, rfl, by decide, by decide, Nat.le_refl _, Nat.le_refl _⟩ rfl 11 0 rfl rfl rfl (Nat.le_of_ble_eq_true rfl) dX11_set_91 (fun _ => rfl) (fun r u H locs hq h => ?_)
              obtain rfl := hq
              exact hret _ (_, _) _ _ _ _ (Or.inr ⟨fun q => by obtain ⟨q1, q2⟩ := q; exact b64 q1, rfl, rfl, rfl⟩) h dX11_set_94
          ·
            simp only [i2l_toInt] at b49
            refine n_zeq hx hb (by decide) (tgt := 59) dX11_set_52 (by decide) (fun _ => ?_) (fun q => absurd q (by decide))
            refine lv_iconst (v := nI 0) hx hb dX11_set_59 (by decide) ?_
            refine lv_istore hx hb dX11_set_60 hl (by decide) rfl (fun ls hl => ?_)
            refine lv_aload_n hx hb dX11_set_62 rfl (lv_at hl 1 rfl) ?_
            refine lv_iload_n hx hb dX11_set_63 rfl (lv_at hl 2 rfl) ?_
            refine cV_i0 S0 hG hA h hl.1 kw_RX11_123 kdV_X11_isPerson (c_X11_isPerson (by omega)) ⟨rfl, rfl, by decide, by decide, Nat.le_refl _, Nat.le_refl _⟩ rfl 11 0 rfl rfl rfl (Nat.le_of_ble_eq_true rfl) dX11_set_64 (fun _ => rfl) (fun r u H locs hq h => ?_)
            rcases hq with ⟨rfl, b64⟩ | ⟨rfl, b64⟩
            ·
              obtain ⟨xn, rfl, xh, xq⟩ := inR_nat (x := x) ⟨Int.le_trans (by decide) b64.1, b64.2⟩
              have xr := (inR_n xq).mp b64
              refine n_zeq hx hb (by decide) (tgt := 88) dX11_set_67 (by decide) (fun q => absurd q (by decide)) (fun _ => ?_)
              refine lv_iload hx hb dX11_set_70 (lv_at hl 0 rfl) ?_
              refine n_zeq hx hb (by decide) (tgt := 88) dX11_set_72 (by decide) (fun _ => ?_) (fun q => absurd q (by decide))
              refine lv_aload_n hx hb dX11_set_88 rfl (lv_at hl 1 rfl) ?_
              refine lv_ldc (v := -1000000001) hx hb S0.2.2.2.1 (S0.2.2.2.2 _ (rin6 _ (List.mem_of_getElem? (i := 21) rfl))) dX11_set_89 ?_
              refine cV_i0 S0 hG hA h hl.1 kw_RX11_76 kdV_X11_finds (c_X11_finds (k := 0) (by decide) (by decide)) ⟨rfl, rfl, by decide, by decide, Nat.le_refl _, Nat.le_refl _⟩ rfl 11 0 rfl rfl rfl (Nat.le_of_ble_eq_true rfl) dX11_set_91 (fun _ => rfl) (fun r u H locs hq h => ?_)
              obtain rfl := hq
              exact hret _ (_, _) _ _ _ _ (Or.inr ⟨fun q => by obtain ⟨q1, q2⟩ := q; have y9 := nI_toInt yq; unfold inR at *; omega, rfl, rfl, rfl⟩) h dX11_set_94
            ·
              refine n_zeq hx hb (by decide) (tgt := 88) dX11_set_67 (by decide) (fun _ => ?_) (fun q => absurd q (by decide))
              refine lv_aload_n hx hb dX11_set_88 rfl (lv_at hl 1 rfl) ?_
              refine lv_ldc (v := -1000000001) hx hb S0.2.2.2.1 (S0.2.2.2.2 _ (rin6 _ (List.mem_of_getElem? (i := 21) rfl))) dX11_set_89 ?_
              refine cV_i0 S0 hG hA h hl.1 kw_RX11_76 kdV_X11_finds (c_X11_finds (k := 0) (by decide) (by decide)) ⟨rfl, rfl, by decide, by decide, Nat.le_refl _, Nat.le_refl _⟩ rfl 11 0 rfl rfl rfl (Nat.le_of_ble_eq_true rfl) dX11_set_91 (fun _ => rfl) (fun r u H locs hq h => ?_)
              obtain rfl := hq
              exact hret _ (_, _) _ _ _ _ (Or.inr ⟨fun q => by obtain ⟨q1, q2⟩ := q; exact b64 q1, rfl, rfl, rfl⟩) h dX11_set_94
      ·
        refine lv_ldc2 (v := 11) hx hb S0.2.2.2.1 (S0.2.2.2.2 _ (rin7 _ (List.mem_of_getElem? (i := 8) rfl))) dX11_set_29 ?_
        refine lv_goto (tgt := 49) hx hb dX11_set_32 (by decide) ?_
        refine cS_iE S0 hG hA h hl.1 kw_RX11_49 kdS_X11_in (c_X11_in) ⟨rfl, rfl, by decide, by decide, Nat.le_refl _, Nat.le_refl _⟩ rfl rfl (Nat.le_of_ble_eq_true rfl) dX11_set_49 (fun r u H locs hq h => ?_)
        rcases hq with ⟨rfl, b49⟩ | ⟨rfl, b49⟩
        ·
          simp only [i2l_toInt] at b49
          refine n_zeq hx hb (by decide) (tgt := 59) dX11_set_52 (by decide) (fun q => absurd q (by decide)) (fun _ => ?_)
          refine lv_iconst (v := nI 1) hx hb dX11_set_55 (by decide) ?_
          refine lv_goto (tgt := 60) hx hb dX11_set_56 (by decide) ?_
          refine lv_istore hx hb dX11_set_60 hl (by decide) rfl (fun ls hl => ?_)
          refine lv_aload_n hx hb dX11_set_62 rfl (lv_at hl 1 rfl) ?_
          refine lv_iload_n hx hb dX11_set_63 rfl (lv_at hl 2 rfl) ?_
          refine cV_i0 S0 hG hA h hl.1 kw_RX11_123 kdV_X11_isPerson (c_X11_isPerson (by omega)) ⟨rfl, rfl, by decide, by decide, Nat.le_refl _, Nat.le_refl _⟩ rfl 11 0 rfl rfl rfl (Nat.le_of_ble_eq_true rfl) dX11_set_64 (fun _ => rfl) (fun r u H locs hq h => ?_)
          rcases hq with ⟨rfl, b64⟩ | ⟨rfl, b64⟩
          ·
            obtain ⟨xn, rfl, xh, xq⟩ := inR_nat (x := x) ⟨Int.le_trans (by decide) b64.1, b64.2⟩
            have xr := (inR_n xq).mp b64
            refine n_zeq hx hb (by decide) (tgt := 88) dX11_set_67 (by decide) (fun q => absurd q (by decide)) (fun _ => ?_)
            refine lv_iload hx hb dX11_set_70 (lv_at hl 0 rfl) ?_
            refine n_zeq hx hb (by decide) (tgt := 88) dX11_set_72 (by decide) (fun q => absurd q (by decide)) (fun _ => ?_)
            refine lv_aload_n hx hb dX11_set_75 rfl (lv_at hl 1 rfl) ?_
            refine lv_iload_n hx hb dX11_set_76 rfl (lv_at hl 2 rfl) ?_
            refine lv_iload_n hx hb dX11_set_77 rfl (lv_at hl 3 rfl) ?_
            refine cS_iE S0 hG hA h hl.1 kw_RX11_45 kdS_X11_spot (c_X11_spot) ⟨rfl, rfl, by decide, by decide, Nat.le_refl _, Nat.le_refl _⟩ rfl rfl (Nat.le_of_ble_eq_true rfl) dX11_set_78 (fun r u H locs hq h => ?_)
            obtain rfl := hq
            obtain ⟨zn, rfl, zh, zq⟩ : ∃ zn : Nat, z = nI zn ∧ (zn : Int) ≤ 9999 ∧ zn < 2147483648 := inR_nat (x := z) ⟨by omega, by omega⟩
            have z9 := nI_toInt zq
            have y9 := nI_toInt yq
            refine lv_iload_n hx hb dX11_set_81 rfl (lv_at hl 4 rfl) ?_
            refine cV_i0 S0 hG hA h hl.1 kw_RX11_73 kdV_X11_becomes (c_X11_becomes (by omega)) ⟨rfl, rfl, by decide, by decide, Nat.le_refl _, Nat.le_refl _⟩ rfl 11 0 rfl rfl rfl (Nat.le_of_ble_eq_true rfl) dX11_set_82 (fun _ => rfl) (fun r u H locs hq h => ?_)
            obtain rfl := hq
            refine lv_goto (tgt := 94) hx hb dX11_set_85 (by decide) ?_
            exact hret _ (va_up f (11 + 5 * xn + yn) zn, st) _ _ _ _ (Or.inl ⟨⟨b64, by unfold inR; omega⟩, by simp only [nt_nI xq, nt_nI yq]; rfl, by simp only [nt_nI xq, nt_nI yq, nt_nI zq], rfl⟩) h dX11_set_94
          ·
            refine n_zeq hx hb (by decide) (tgt := 88) dX11_set_67 (by decide) (fun _ => ?_) (fun q => absurd q (by decide))
            refine lv_aload_n hx hb dX11_set_88 rfl (lv_at hl 1 rfl) ?_
            refine lv_ldc (v := -1000000001) hx hb S0.2.2.2.1 (S0.2.2.2.2 _ (rin6 _ (List.mem_of_getElem? (i := 21) rfl))) dX11_set_89 ?_
            refine cV_i0 S0 hG hA h hl.1 kw_RX11_76 kdV_X11_finds (c_X11_finds (k := 0) (by decide) (by decide)) ⟨rfl, rfl, by decide, by decide, Nat.le_refl _, Nat.le_refl _⟩ rfl 11 0 rfl rfl rfl (Nat.le_of_ble_eq_true rfl) dX11_set_91 (fun _ => rfl) (fun r u H locs hq h => ?_)
            obtain rfl := hq
            exact hret _ (_, _) _ _ _ _ (Or.inr ⟨fun q => by obtain ⟨q1, q2⟩ := q; exact b64 q1, rfl, rfl, rfl⟩) h dX11_set_94
        ·
          simp only [i2l_toInt] at b49
          refine n_zeq hx hb (by decide) (tgt := 59) dX11_set_52 (by decide) (fun _ => ?_) (fun q => absurd q (by decide))
          refine lv_iconst (v := nI 0) hx hb dX11_set_59 (by decide) ?_
          refine lv_istore hx hb dX11_set_60 hl (by decide) rfl (fun ls hl => ?_)
          refine lv_aload_n hx hb dX11_set_62 rfl (lv_at hl 1 rfl) ?_
          refine lv_iload_n hx hb dX11_set_63 rfl (lv_at hl 2 rfl) ?_
          refine cV_i0 S0 hG hA h hl.1 kw_RX11_123 kdV_X11_isPerson (c_X11_isPerson (by omega)) ⟨rfl, rfl, by decide, by decide, Nat.le_refl _, Nat.le_refl _⟩ rfl 11 0 rfl rfl rfl (Nat.le_of_ble_eq_true rfl) dX11_set_64 (fun _ => rfl) (fun r u H locs hq h => ?_)
          rcases hq with ⟨rfl, b64⟩ | ⟨rfl, b64⟩
          ·
            obtain ⟨xn, rfl, xh, xq⟩ := inR_nat (x := x) ⟨Int.le_trans (by decide) b64.1, b64.2⟩
            have xr := (inR_n xq).mp b64
            refine n_zeq hx hb (by decide) (tgt := 88) dX11_set_67 (by decide) (fun q => absurd q (by decide)) (fun _ => ?_)
            refine lv_iload hx hb dX11_set_70 (lv_at hl 0 rfl) ?_
            refine n_zeq hx hb (by decide) (tgt := 88) dX11_set_72 (by decide) (fun _ => ?_) (fun q => absurd q (by decide))
            refine lv_aload_n hx hb dX11_set_88 rfl (lv_at hl 1 rfl) ?_
            refine lv_ldc (v := -1000000001) hx hb S0.2.2.2.1 (S0.2.2.2.2 _ (rin6 _ (List.mem_of_getElem? (i := 21) rfl))) dX11_set_89 ?_
            refine cV_i0 S0 hG hA h hl.1 kw_RX11_76 kdV_X11_finds (c_X11_finds (k := 0) (by decide) (by decide)) ⟨rfl, rfl, by decide, by decide, Nat.le_refl _, Nat.le_refl _⟩ rfl 11 0 rfl rfl rfl (Nat.le_of_ble_eq_true rfl) dX11_set_91 (fun _ => rfl) (fun r u H locs hq h => ?_)
            obtain rfl := hq
            exact hret _ (_, _) _ _ _ _ (Or.inr ⟨fun q => by obtain ⟨q1, q2⟩ := q; have y9 := nI_toInt yq; unfold inR at *; omega, rfl, rfl, rfl⟩) h dX11_set_94
          ·
            refine n_zeq hx hb (by decide) (tgt := 88) dX11_set_67 (by decide) (fun _ => ?_) (fun q => absurd q (by decide))
            refine lv_aload_n hx hb dX11_set_88 rfl (lv_at hl 1 rfl) ?_
            refine lv_ldc (v := -1000000001) hx hb S0.2.2.2.1 (S0.2.2.2.2 _ (rin6 _ (List.mem_of_getElem? (i := 21) rfl))) dX11_set_89 ?_
            refine cV_i0 S0 hG hA h hl.1 kw_RX11_76 kdV_X11_finds (c_X11_finds (k := 0) (by decide) (by decide)) ⟨rfl, rfl, by decide, by decide, Nat.le_refl _, Nat.le_refl _⟩ rfl 11 0 rfl rfl rfl (Nat.le_of_ble_eq_true rfl) dX11_set_91 (fun _ => rfl) (fun r u H locs hq h => ?_)
            obtain rfl := hq
            exact hret _ (_, _) _ _ _ _ (Or.inr ⟨fun q => by obtain ⟨q1, q2⟩ := q; exact b64 q1, rfl, rfl, rfl⟩) h dX11_set_94
  ·
    have b6 : ¬ inR y 1 4 := by simpa [inR, i2l_toInt] using b6
    refine n_zeq hx hb (by decide) (tgt := 59) dX11_set_9 (by decide) (fun _ => ?_) (fun q => absurd q (by decide))
    refine lv_iconst (v := nI 0) hx hb dX11_set_59 (by decide) ?_
    refine lv_istore hx hb dX11_set_60 hl (by decide) rfl (fun ls hl => ?_)
    refine lv_aload_n hx hb dX11_set_62 rfl (lv_at hl 1 rfl) ?_
    refine lv_iload_n hx hb dX11_set_63 rfl (lv_at hl 2 rfl) ?_
    refine cV_i0 S0 hG hA h hl.1 kw_RX11_123 kdV_X11_isPerson (c_X11_isPerson (by omega)) ⟨rfl, rfl, by decide, by decide, Nat.le_refl _, Nat.le_refl _⟩ rfl 11 0 rfl rfl rfl (Nat.le_of_ble_eq_true rfl) dX11_set_64 (fun _ => rfl) (fun r u H locs hq h => ?_)
    rcases hq with ⟨rfl, b64⟩ | ⟨rfl, b64⟩
    ·
      obtain ⟨xn, rfl, xh, xq⟩ := inR_nat (x := x) ⟨Int.le_trans (by decide) b64.1, b64.2⟩
      have xr := (inR_n xq).mp b64
      refine n_zeq hx hb (by decide) (tgt := 88) dX11_set_67 (by decide) (fun q => absurd q (by decide)) (fun _ => ?_)
      refine lv_iload hx hb dX11_set_70 (lv_at hl 0 rfl) ?_
      refine n_zeq hx hb (by decide) (tgt := 88) dX11_set_72 (by decide) (fun _ => ?_) (fun q => absurd q (by decide))
      refine lv_aload_n hx hb dX11_set_88 rfl (lv_at hl 1 rfl) ?_
      refine lv_ldc (v := -1000000001) hx hb S0.2.2.2.1 (S0.2.2.2.2 _ (rin6 _ (List.mem_of_getElem? (i := 21) rfl))) dX11_set_89 ?_
      refine cV_i0 S0 hG hA h hl.1 kw_RX11_76 kdV_X11_finds (c_X11_finds (k := 0) (by decide) (by decide)) ⟨rfl, rfl, by decide, by decide, Nat.le_refl _, Nat.le_refl _⟩ rfl 11 0 rfl rfl rfl (Nat.le_of_ble_eq_true rfl) dX11_set_91 (fun _ => rfl) (fun r u H locs hq h => ?_)
      obtain rfl := hq
      exact hret _ (_, _) _ _ _ _ (Or.inr ⟨fun q => by obtain ⟨q1, q2⟩ := q; unfold inR at *; omega, rfl, rfl, rfl⟩) h dX11_set_94
    ·
      refine n_zeq hx hb (by decide) (tgt := 88) dX11_set_67 (by decide) (fun _ => ?_) (fun q => absurd q (by decide))
      refine lv_aload_n hx hb dX11_set_88 rfl (lv_at hl 1 rfl) ?_
      refine lv_ldc (v := -1000000001) hx hb S0.2.2.2.1 (S0.2.2.2.2 _ (rin6 _ (List.mem_of_getElem? (i := 21) rfl))) dX11_set_89 ?_
      refine cV_i0 S0 hG hA h hl.1 kw_RX11_76 kdV_X11_finds (c_X11_finds (k := 0) (by decide) (by decide)) ⟨rfl, rfl, by decide, by decide, Nat.le_refl _, Nat.le_refl _⟩ rfl 11 0 rfl rfl rfl (Nat.le_of_ble_eq_true rfl) dX11_set_91 (fun _ => rfl) (fun r u H locs hq h => ?_)
      obtain rfl := hq
      exact hret _ (_, _) _ _ _ _ (Or.inr ⟨fun q => by obtain ⟨q1, q2⟩ := q; exact b64 q1, rfl, rfl, rfl⟩) h dX11_set_94
