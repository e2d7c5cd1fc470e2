/-! the reference: quick, worst -/
variable {G : GT} {l : Launch} {a : Nat → Nat} {f g o d st du tb bi si : Nat → Nat} {nu mo : Nat → Int64} {kp it tn fr to vl wr : Nat}
set_option maxHeartbeats 4000000 in
set_option maxRecDepth 100000 in
theorem c_X11_quick {x y z : Int32} (hI : Inv f) (h9 : f 0 ≤ 99999) : Ki G l yX11_quick cX11_quick 8 (some .int) (RM 11 227) [.ref (a 0), .int x, .int y, .int z] (wM G a f g o d st du tb bi si nu mo kp it tn fr to vl wr) (fun u : (Nat → Nat) × (Nat → Nat) × (Nat → Nat) × Nat => wM G a f g o u.2.1 u.1 u.2.2.1 tb bi si nu mo kp u.2.2.2 tn fr to vl wr) (fun r u => P_quick f st x y z r u.1) := by
  refine Ki.of (by decide) (Nat.le_of_ble_eq_true rfl) ?_
  intro p e s m args below meth c A Q ls hx hb S0 hG hA h hret hl
  have S0 : CF p m c cX11_quick 8 s args RX11 := S0
  have hl : lv_has ls 8 [(0, .ref (a 0)), (1, .int x), (2, .int y), (3, .int z)] := hl
  have h1 := hI.2.1
  refine lv_aload_n hx hb dX11_quick_0 rfl (lv_at hl 0 rfl) ?_
  refine lv_iload_n hx hb dX11_quick_1 rfl (lv_at hl 1 rfl) ?_
  refine cV_i0 S0 hG hA h hl.1 kw_RX11_123 kdV_X11_isPerson (c_X11_isPerson (by omega)) ⟨rfl, rfl, by decide, by decide, Nat.le_refl _, Nat.le_refl _⟩ rfl 11 0 rfl rfl rfl (Nat.le_of_ble_eq_true rfl) dX11_quick_2 (fun _ => rfl) (fun r u H locs hq h => ?_)
  rcases hq with ⟨rfl, b2⟩ | ⟨rfl, b2⟩
  ·
    obtain ⟨xn, rfl, xh, xq⟩ := inR_nat (x := x) ⟨Int.le_trans (by decide) b2.1, b2.2⟩
    have xr := (inR_n xq).mp b2
    refine n_zeq hx hb (by decide) (tgt := 27) dX11_quick_5 (by decide) (fun q => absurd q (by decide)) (fun _ => ?_)
    refine lv_iload_n hx hb dX11_quick_8 rfl (lv_at hl 2 rfl) ?_
    refine cS_iE S0 hG hA h hl.1 kw_RX11_182 kdS_X11_isSoon (c_X11_isSoon) ⟨rfl, rfl, by decide, by decide, Nat.le_refl _, Nat.le_refl _⟩ rfl rfl (Nat.le_of_ble_eq_true rfl) dX11_quick_9 (fun r u H locs hq h => ?_)
    rcases hq with ⟨rfl, b9⟩ | ⟨rfl, b9⟩
    ·
      obtain ⟨yn, rfl, yh, yq⟩ := inR_nat (x := y) ⟨Int.le_trans (by decide) b9.1, b9.2⟩
      have yr := (inR_n yq).mp b9
      refine n_zeq hx hb (by decide) (tgt := 27) dX11_quick_12 (by decide) (fun q => absurd q (by decide)) (fun _ => ?_)
      refine lv_iload_n hx hb dX11_quick_15 rfl (lv_at hl 3 rfl) ?_
      refine lv_i2l hx hb dX11_quick_16 rfl ?_
      refine lv_lconst (v := 0) hx hb dX11_quick_17 (by decide) ?_
      refine lv_ldc2 (v := 9999) hx hb S0.2.2.2.1 (S0.2.2.2.2 _ (rin19 _ (List.mem_of_getElem? (i := 10) rfl))) dX11_quick_18 ?_
      refine cS_iE S0 hG hA h hl.1 kw_RX11_49 kdS_X11_in (c_X11_in) ⟨rfl, rfl, by decide, by decide, Nat.le_refl _, Nat.le_refl _⟩ rfl rfl (Nat.le_of_ble_eq_true rfl) dX11_quick_21 (fun r u H locs hq h => ?_)
      rcases hq with ⟨rfl, b21⟩ | ⟨rfl, b21⟩
      ·
        have b21 : inR z 0 9999 := by simpa [inR, i2l_toInt] using b21
        obtain ⟨zn, rfl, zh, zq⟩ := inR_nat (x := z) ⟨Int.le_trans (by decide) b21.1, b21.2⟩
        have zr := (inR_n zq).mp b21
        refine n_zne hx hb (by decide) (tgt := 34) dX11_quick_24 (by decide) (fun _ => ?_) (fun q => absurd q (by decide))
        refine lv_iload_n hx hb dX11_quick_34 rfl (lv_at hl 1 rfl) ?_
        refine lv_iconst (v := nI 2) hx hb dX11_quick_35 (by decide) ?_
        refine cS_iE S0 hG hA h hl.1 kw_RX11_45 kdS_X11_spot (c_X11_spot) ⟨rfl, rfl, by decide, by decide, Nat.le_refl _, Nat.le_refl _⟩ rfl rfl (Nat.le_of_ble_eq_true rfl) dX11_quick_36 (fun r u H locs hq h => ?_)
        obtain rfl := hq
        refine lv_istore hx hb dX11_quick_39 hl (by decide) rfl (fun ls hl => ?_)
        refine lv_aload_n hx hb dX11_quick_41 rfl (lv_at hl 1 rfl) ?_
        refine gM_s S0 hG h dX11_quick_42 ?_
        refine lv_iload hx hb dX11_quick_45 (lv_at hl 0 rfl) ?_
        refine rM_s S0 hG h (by omega) dX11_quick_47 ?_
        refine lv_istore hx hb dX11_quick_48 hl (by decide) rfl (fun ls hl => ?_)
        refine lv_iconst (v := nI 0) hx hb dX11_quick_50 (by decide) ?_
        refine lv_istore hx hb dX11_quick_51 hl (by decide) rfl (fun ls hl => ?_)
        refine lv_iconst (v := nI 1) hx hb dX11_quick_53 (by decide) ?_
        refine lv_istore hx hb dX11_quick_54 hl (by decide) rfl (fun ls hl => ?_)
        have lp56 : ∀ (kf : Nat) (k fd : Nat) (fv d1 d2 : Nat → Nat) (t1 : Nat) (H : Heap) (locs : List Loc) (ls : Array Slot) (hk1 : 1 ≤ k) (hk : k ≤ 5) (hfd : (fd = 0 ∧ ∀ j, 1 ≤ j → j < k → ¬ qOk f xn yn zn j) ∨ (1 ≤ fd ∧ fd ≤ 4 ∧ (∀ j, 1 ≤ j → j < fd → ¬ qOk f xn yn zn j) ∧ qOk f xn yn zn fd)) (hfk : fd < k) (hf : ∀ z, va_up fv (11 + 5 * xn + 2) z = va_up f (11 + 5 * xn + 2) z), 5 - k < kf → WX G A s H locs (wM G a fv g o d1 st d2 tb bi si nu mo kp t1 tn fr to vl wr) → lv_has ls 8 [(0, .ref (a 0)), (1, .int (nI xn)), (2, .int (nI yn)), (3, .int (nI zn)), (4, .int (nI (11 + 5 * xn + 2))), (5, .int (nI (f (11 + 5 * xn + 2)))), (6, .int (nI fd)), (7, .int (nI k))] → W p l e (RM 11 227) s m args below meth c H locs 0 0 Q (F0 m 56 ls []) := by
          intro kf
          induction kf with
          | zero => intro k fd fv d1 d2 t1 H locs ls hk1 hk hfd hfk hf hm; exact absurd hm (Nat.not_lt_zero _)
          | succ kf ih56 =>
            intro k fd fv d1 d2 t1 H locs ls hk1 hk hfd hfk hf hm h hl
            refine lv_iload hx hb dX11_quick_56 (lv_at hl 7 rfl) ?_
            refine lv_iconst (v := nI 4) hx hb dX11_quick_58 (by decide) ?_
            refine n_cgt hx hb (by omega) (by omega) (tgt := 104) dX11_quick_59 (by decide) (fun c59 => ?_) (fun c59 => ?_)
            ·
              refine lv_aload_n hx hb dX11_quick_104 rfl (lv_at hl 0 rfl) ?_
              refine gM_s S0 hG h dX11_quick_105 ?_
              refine lv_iload hx hb dX11_quick_108 (lv_at hl 4 rfl) ?_
              refine lv_iload hx hb dX11_quick_110 (lv_at hl 5 rfl) ?_
              refine sM_s S0 hG h (by omega) dX11_quick_112 (fun H locs h => ?_)
              rw [hf, va_up_id] at h
              refine lv_iload hx hb dX11_quick_113 (lv_at hl 6 rfl) ?_
              refine n_zne hx hb (by omega) (tgt := 127) dX11_quick_115 (by decide) (fun c115 => ?_) (fun c115 => ?_)
              ·
                refine lv_iload hx hb dX11_quick_127 (lv_at hl 6 rfl) ?_
                exact hret _ (_, _, _, _) _ _ _ _ (Or.inl ⟨⟨b2, b9, b21⟩, by rw [nt_nI xq, nt_nI yq, nt_nI zq]; exact Or.inl ⟨fd, by omega, by omega, (hfd.resolve_left (by omega)).2.2.1, (hfd.resolve_left (by omega)).2.2.2, rfl, rfl⟩⟩) h dX11_quick_129
              ·
                refine lv_aload_n hx hb dX11_quick_118 rfl (lv_at hl 0 rfl) ?_
                refine lv_ldc (v := -1000000004) hx hb S0.2.2.2.1 (S0.2.2.2.2 _ (rin24 _ (List.mem_of_getElem? (i := 16) rfl))) dX11_quick_119 ?_
                refine cV_i0 S0 hG hA h hl.1 kw_RX11_76 kdV_X11_finds (c_X11_finds (k := 3) (by decide) (by decide)) ⟨rfl, rfl, by decide, by decide, Nat.le_refl _, Nat.le_refl _⟩ rfl 11 0 rfl rfl rfl (Nat.le_of_ble_eq_true rfl) dX11_quick_121 (fun _ => rfl) (fun r u H locs hq h => ?_)
                obtain rfl := hq
                refine lv_goto (tgt := 129) hx hb dX11_quick_124 (by decide) ?_
                exact hret _ (_, _, _, _) _ _ _ _ (Or.inl ⟨⟨b2, b9, b21⟩, by rw [nt_nI xq, nt_nI yq, nt_nI zq]; exact Or.inr ⟨fun j q1 q2 => (hfd.resolve_right (by omega)).2 j q1 (by omega), rfl, rfl⟩⟩) h dX11_quick_129
            ·
              refine lv_iload hx hb dX11_quick_62 (lv_at hl 6 rfl) ?_
              refine n_zne hx hb (by omega) (tgt := 104) dX11_quick_64 (by decide) (fun c64 => ?_) (fun c64 => ?_)
              ·
                refine lv_aload_n hx hb dX11_quick_104 rfl (lv_at hl 0 rfl) ?_
                refine gM_s S0 hG h dX11_quick_105 ?_
                refine lv_iload hx hb dX11_quick_108 (lv_at hl 4 rfl) ?_
                refine lv_iload hx hb dX11_quick_110 (lv_at hl 5 rfl) ?_
                refine sM_s S0 hG h (by omega) dX11_quick_112 (fun H locs h => ?_)
                rw [hf, va_up_id] at h
                refine lv_iload hx hb dX11_quick_113 (lv_at hl 6 rfl) ?_
                refine n_zne hx hb (by omega) (tgt := 127) dX11_quick_115 (by decide) (fun c115 => ?_) (fun c115 => ?_)
                ·
                  refine lv_iload hx hb dX11_quick_127 (lv_at hl 6 rfl) ?_
                  exact hret _ (_, _, _, _) _ _ _ _ (Or.inl ⟨⟨b2, b9, b21⟩, by rw [nt_nI xq, nt_nI yq, nt_nI zq]; exact Or.inl ⟨fd, by omega, by omega, (hfd.resolve_left (by omega)).2.2.1, (hfd.resolve_left (by omega)).2.2.2, rfl, rfl⟩⟩) h dX11_quick_129
                ·
                  refine lv_aload_n hx hb dX11_quick_118 rfl (lv_at hl 0 rfl) ?_
                  refine lv_ldc (v := -1000000004) hx hb S0.2.2.2.1 (S0.2.2.2.2 _ (rin24 _ (List.mem_of_getElem? (i := 16) rfl))) dX11_quick_119 ?_
                  refine cV_i0 S0 hG hA h hl.1 kw_RX11_76 kdV_X11_finds (c_X11_finds (k := 3) (by decide) (by decide)) ⟨rfl, rfl, by decide, by decide, Nat.le_refl _, Nat.le_refl _⟩ rfl 11 0 rfl rfl rfl (Nat.le_of_ble_eq_true rfl) dX11_quick_121 (fun _ => rfl) (fun r u H locs hq h => ?_)
                  obtain rfl := hq
                  refine lv_goto (tgt := 129) hx hb dX11_quick_124 (by decide) ?_
                  exact hret _ (_, _, _, _) _ _ _ _ (Or.inl ⟨⟨b2, b9, b21⟩, by rw [nt_nI xq, nt_nI yq, nt_nI zq]; exact Or.inr ⟨fun j q1 q2 => (hfd.resolve_right (by omega)).2 j q1 (by omega), rfl, rfl⟩⟩) h dX11_quick_129
              ·
                refine lv_aload_n hx hb dX11_quick_67 rfl (lv_at hl 0 rfl) ?_
                refine gM_s S0 hG h dX11_quick_68 ?_
                refine lv_iload hx hb dX11_quick_71 (lv_at hl 4 rfl) ?_
                refine lv_iload hx hb dX11_quick_73 (lv_at hl 7 rfl) ?_
                refine sM_s S0 hG h (by omega) dX11_quick_75 (fun H locs h => ?_)
                rw [hf k] at h
                have q9 := its_goF_le (f := va_up f (11 + 5 * xn + 2) k) (n := yn) (p := xn) (w := 3) (Inv_set hI (w := 2) (by omega) (by simp [bnd]; omega)) (by rw [va_up_n _ _ (by omega)]; omega) (by omega) (by omega)
                unfold its at q9
                refine lv_aload_n hx hb dX11_quick_76 rfl (lv_at hl 0 rfl) ?_
                refine lv_iload_n hx hb dX11_quick_77 rfl (lv_at hl 1 rfl) ?_
                refine lv_iconst (v := nI 3) hx hb dX11_quick_78 (by decide) ?_
                refine cS_iE S0 hG hA h hl.1 kw_RX11_45 kdS_X11_spot (c_X11_spot) ⟨rfl, rfl, by decide, by decide, Nat.le_refl _, Nat.le_refl _⟩ rfl rfl (Nat.le_of_ble_eq_true rfl) dX11_quick_79 (fun r u H locs hq h => ?_)
                obtain rfl := hq
                refine lv_iload_n hx hb dX11_quick_82 rfl (lv_at hl 2 rfl) ?_
                refine cV_i0 S0 hG hA h hl.1 kw_RX11_172 kdV_X11_behind (c_X11_behind (Inv_set hI (w := 2) (by omega) (by simp [bnd]; omega)) (by rw [va_up_n _ _ (by omega)]; omega) (Or.inr ⟨_, rfl, by omega⟩)) ⟨rfl, rfl, by decide, by decide, Nat.le_refl _, Nat.le_refl _⟩ rfl 11 0 rfl rfl rfl (Nat.le_of_ble_eq_true rfl) dX11_quick_83 (fun _ => rfl) (fun r u H locs hq h => ?_)
                obtain ⟨u1, u2⟩ := u
                obtain rfl := hq
                refine tN (valB_w _ (by omega)) ?_
                refine lv_iload_n hx hb dX11_quick_86 rfl (lv_at hl 3 rfl) ?_
                refine n_clt hx hb (by omega) (by omega) (tgt := 95) dX11_quick_87 (by decide) (fun c87 => ?_) (fun c87 => ?_)
                ·
                  refine lv_iconst (v := nI 0) hx hb dX11_quick_95 (by decide) ?_
                  refine lv_istore hx hb dX11_quick_96 hl (by decide) rfl (fun ls hl => ?_)
                  refine lv_iinc hx hb dX11_quick_98 hl (k := 7) rfl (inc_1 _) (by decide) rfl (fun ls hl => ?_)
                  refine lv_goto (tgt := 56) hx hb dX11_quick_101 (by decide) ?_
                  exact ih56 (k + 1) _ _ _ _ _ _ _ _ (by omega) (by omega) (Or.inl ⟨rfl, fun j q1 q2 => by rcases Nat.lt_or_ge j k with z | z; exact (hfd.resolve_right (by omega)).2 j q1 z; obtain rfl : j = k := (by omega); exact fun z9 => absurd z9 (Nat.not_le.mpr c87)⟩) (by omega) (fun z => bx_uu f _ k z) (by omega) h (lv_sub hl [2, 3, 4, 5, 6, 7, 1, 0] rfl)
                ·
                  refine lv_iload hx hb dX11_quick_90 (lv_at hl 7 rfl) ?_
                  refine lv_goto (tgt := 96) hx hb dX11_quick_92 (by decide) ?_
                  refine lv_istore hx hb dX11_quick_96 hl (by decide) rfl (fun ls hl => ?_)
                  refine lv_iinc hx hb dX11_quick_98 hl (k := 7) rfl (inc_1 _) (by decide) rfl (fun ls hl => ?_)
                  refine lv_goto (tgt := 56) hx hb dX11_quick_101 (by decide) ?_
                  exact ih56 (k + 1) _ _ _ _ _ _ _ _ (by omega) (by omega) (Or.inr ⟨by omega, by omega, fun j q1 q2 => (hfd.resolve_right (by omega)).2 j q1 q2, c87⟩) (by omega) (fun z => bx_uu f _ k z) (by omega) h (lv_sub hl [2, 3, 4, 5, 6, 7, 1, 0] rfl)
        exact lp56 _ 1 0 _ _ _ _ _ _ _ (by omega) (by omega) (Or.inl ⟨rfl, fun j q1 q2 => absurd q2 (by omega)⟩) (by omega) (fun _ => rfl) (Nat.lt_succ_self _) h (lv_sub hl [4, 5, 6, 7, 3, 2, 1, 0] rfl)
      ·
        have b21 : ¬ inR z 0 9999 := by simpa [inR, i2l_toInt] using b21
        refine n_zne hx hb (by decide) (tgt := 34) dX11_quick_24 (by decide) (fun q => absurd q (by decide)) (fun _ => ?_)
        refine lv_aload_n hx hb dX11_quick_27 rfl (lv_at hl 0 rfl) ?_
        refine lv_ldc (v := -1000000001) hx hb S0.2.2.2.1 (S0.2.2.2.2 _ (rin6 _ (List.mem_of_getElem? (i := 21) rfl))) dX11_quick_28 ?_
        refine cV_i0 S0 hG hA h hl.1 kw_RX11_76 kdV_X11_finds (c_X11_finds (k := 0) (by decide) (by decide)) ⟨rfl, rfl, by decide, by decide, Nat.le_refl _, Nat.le_refl _⟩ rfl 11 0 rfl rfl rfl (Nat.le_of_ble_eq_true rfl) dX11_quick_30 (fun _ => rfl) (fun r u H locs hq h => ?_)
        obtain rfl := hq
        exact hret _ (_, _, _, _) _ _ _ _ (Or.inr ⟨by first | exact fun q => b2 q.1 | exact fun q => b9 q.2.1 | exact fun q => b21 q.2.2, rfl, rfl⟩) h dX11_quick_33
    ·
      refine n_zeq hx hb (by decide) (tgt := 27) dX11_quick_12 (by decide) (fun _ => ?_) (fun q => absurd q (by decide))
      refine lv_aload_n hx hb dX11_quick_27 rfl (lv_at hl 0 rfl) ?_
      refine lv_ldc (v := -1000000001) hx hb S0.2.2.2.1 (S0.2.2.2.2 _ (rin6 _ (List.mem_of_getElem? (i := 21) rfl))) dX11_quick_28 ?_
      refine cV_i0 S0 hG hA h hl.1 kw_RX11_76 kdV_X11_finds (c_X11_finds (k := 0) (by decide) (by decide)) ⟨rfl, rfl, by decide, by decide, Nat.le_refl _, Nat.le_refl _⟩ rfl 11 0 rfl rfl rfl (Nat.le_of_ble_eq_true rfl) dX11_quick_30 (fun _ => rfl) (fun r u H locs hq h => ?_)
      obtain rfl := hq
      exact hret _ (_, _, _, _) _ _ _ _ (Or.inr ⟨by first | exact fun q => b2 q.1 | exact fun q => b9 q.2.1 | exact fun q => b21 q.2.2, rfl, rfl⟩) h dX11_quick_33
  ·
    refine n_zeq hx hb (by decide) (tgt := 27) dX11_quick_5 (by decide) (fun _ => ?_) (fun q => absurd q (by decide))
    refine lv_aload_n hx hb dX11_quick_27 rfl (lv_at hl 0 rfl) ?_
    refine lv_ldc (v := -1000000001) hx hb S0.2.2.2.1 (S0.2.2.2.2 _ (rin6 _ (List.mem_of_getElem? (i := 21) rfl))) dX11_quick_28 ?_
    refine cV_i0 S0 hG hA h hl.1 kw_RX11_76 kdV_X11_finds (c_X11_finds (k := 0) (by decide) (by decide)) ⟨rfl, rfl, by decide, by decide, Nat.le_refl _, Nat.le_refl _⟩ rfl 11 0 rfl rfl rfl (Nat.le_of_ble_eq_true rfl) dX11_quick_30 (fun _ => rfl) (fun r u H locs hq h => ?_)
    obtain rfl := hq
    exact hret _ (_, _, _, _) _ _ _ _ (Or.inr ⟨by first | exact fun q => b2 q.1 | exact fun q => b9 q.2.1 | exact fun q => b21 q.2.2, rfl, rfl⟩) h dX11_quick_33
set_option maxHeartbeats 4000000 in
set_option maxRecDepth 100000 in
theorem c_X11_worst {x : Int32} (hI : Inv f) (h9 : f 0 ≤ 99999) : Ki G l yX11_worst cX11_worst 4 (some .int) (RM 10 205) [.ref (a 0), .int x] (wM G a f g o d st du tb bi si nu mo kp it tn fr to vl wr) (fun u : (Nat → Nat) × (Nat → Nat) × (Nat → Nat) × Nat => wM G a f g o u.2.1 u.1 u.2.2.1 tb bi si nu mo kp u.2.2.2 tn fr to vl wr) (fun r u => P_worst f st x r u.1) := by
  refine Ki.of (by decide) (Nat.le_of_ble_eq_true rfl) ?_
  intro p e s m args below meth c A Q ls hx hb S0 hG hA h hret hl
  have S0 : CF p m c cX11_worst 4 s args RX11 := S0
  have hl : lv_has ls 4 [(0, .ref (a 0)), (1, .int x)] := hl
  have h1 := hI.2.1
  refine lv_iload_n hx hb dX11_worst_0 rfl (lv_at hl 1 rfl) ?_
  refine cS_iE S0 hG hA h hl.1 kw_RX11_169 kdS_X11_isAhead (c_X11_isAhead) ⟨rfl, rfl, by decide, by decide, Nat.le_refl _, Nat.le_refl _⟩ rfl rfl (Nat.le_of_ble_eq_true rfl) dX11_worst_1 (fun r u H locs hq h => ?_)
  rcases hq with ⟨rfl, b1⟩ | ⟨rfl, b1⟩
  ·
    obtain ⟨xn, rfl, xh, xq⟩ := inR_nat (x := x) ⟨Int.le_trans (by decide) b1.1, b1.2⟩
    have xr := (inR_n xq).mp b1
    refine n_zne hx hb (by decide) (tgt := 14) dX11_worst_4 (by decide) (fun _ => ?_) (fun q => absurd q (by decide))
    refine lv_aload_n hx hb dX11_worst_14 rfl (lv_at hl 0 rfl) ?_
    refine gM_s S0 hG h dX11_worst_15 ?_
    refine lv_iconst (v := nI 1) hx hb dX11_worst_18 (by decide) ?_
    refine rM_s S0 hG h (by omega) dX11_worst_19 ?_
    refine n_zne hx hb (by omega) (tgt := 30) dX11_worst_20 (by decide) (fun c20 => ?_) (fun c20 => ?_)
    ·
      refine lv_aload_n hx hb dX11_worst_30 rfl (lv_at hl 0 rfl) ?_
      refine cV_v0 S0 hG hA h hl.1 kw_RX11_163 kdV_X11_laysAside (c_X11_laysAside) ⟨rfl, rfl, by decide, by decide, Nat.le_refl _, Nat.le_refl _⟩ rfl 11 0 rfl rfl rfl (Nat.le_of_ble_eq_true rfl) dX11_worst_31 (fun _ => rfl) (fun u H locs hq h => ?_)
      refine lv_aload_n hx hb dX11_worst_34 rfl (lv_at hl 0 rfl) ?_
      refine lv_iload_n hx hb dX11_worst_35 rfl (lv_at hl 1 rfl) ?_
      refine cV_v0 S0 hG hA h hl.1 kw_RX11_158 kdV_X11_minutesGo (c_X11_minutesGo hI (by omega)) ⟨rfl, rfl, by decide, by decide, Nat.le_refl _, Nat.le_refl _⟩ rfl 11 0 rfl rfl rfl (Nat.le_of_ble_eq_true rfl) dX11_worst_36 (fun _ => rfl) (fun u H locs hq h => ?_)
      obtain ⟨u1, u2⟩ := u
      have hI9 := goF_inv hI xn (by omega)
      refine lv_iconst (v := nI 0) hx hb dX11_worst_39 (by decide) ?_
      refine lv_istore_n hx hb dX11_worst_40 rfl hl (by decide) rfl (fun ls hl => ?_)
      refine lv_iconst (v := nI 1) hx hb dX11_worst_41 (by decide) ?_
      refine lv_istore_n hx hb dX11_worst_42 rfl hl (by decide) rfl (fun ls hl => ?_)
      have lp43 : ∀ (kf : Nat) (i best : Nat) (H : Heap) (locs : List Loc) (ls : Array Slot) (hi1 : 1 ≤ i) (hi : i ≤ f 1) (hbst : best = am (fun p => nI (its (goF f xn) p 4)) (i - 1)) (hb8 : best < i), f 1 - i < kf → WX G A s H locs (wM G a (goF f xn) g o f st u1 tb bi si nu mo kp u2 tn fr to vl wr) → lv_has ls 4 [(0, .ref (a 0)), (1, .int (nI xn)), (2, .int (nI best)), (3, .int (nI i))] → W p l e (RM 10 205) s m args below meth c H locs 0 0 Q (F0 m 43 ls []) := by
        intro kf
        induction kf with
        | zero => intro i best H locs ls hi1 hi hbst hb8 hm; exact absurd hm (Nat.not_lt_zero _)
        | succ kf ih43 =>
          intro i best H locs ls hi1 hi hbst hb8 hm h hl
          refine lv_iload_n hx hb dX11_worst_43 rfl (lv_at hl 3 rfl) ?_
          refine lv_aload_n hx hb dX11_worst_44 rfl (lv_at hl 0 rfl) ?_
          refine gM_s S0 hG h dX11_worst_45 ?_
          refine lv_iconst (v := nI 1) hx hb dX11_worst_48 (by decide) ?_
          refine rM_s S0 hG h (by omega) dX11_worst_49 ?_
          refine tN (nI_cong (goF_lo f (by omega) (by omega) xn)) ?_
          refine n_cge hx hb (by omega) (by omega) (tgt := 80) dX11_worst_50 (by decide) (fun c50 => ?_) (fun c50 => ?_)
          ·
            have e9 : i = f 1 := by omega
            refine lv_aload_n hx hb dX11_worst_80 rfl (lv_at hl 0 rfl) ?_
            refine lv_iload_n hx hb dX11_worst_81 rfl (lv_at hl 2 rfl) ?_
            refine cV_i0 S0 hG hA h hl.1 kw_RX11_166 kdV_X11_takesBack (c_X11_takesBack) ⟨rfl, rfl, by decide, by decide, Nat.le_refl _, Nat.le_refl _⟩ rfl 11 0 rfl rfl rfl (Nat.le_of_ble_eq_true rfl) dX11_worst_82 (fun _ => rfl) (fun r u H locs hq h => ?_)
            obtain rfl := hq
            exact hret _ (_, _, _, _) _ _ _ _ (Or.inl ⟨b1, by rw [nt_nI xq]; exact Or.inr ⟨by omega, nI_cong (by rw [hbst, e9]), rfl⟩⟩) h dX11_worst_85
          ·
            refine lv_aload_n hx hb dX11_worst_53 rfl (lv_at hl 0 rfl) ?_
            refine lv_iload_n hx hb dX11_worst_54 rfl (lv_at hl 3 rfl) ?_
            refine lv_iconst (v := nI 4) hx hb dX11_worst_55 (by decide) ?_
            refine cV_i0 S0 hG hA h hl.1 kw_RX11_59 kdV_X11_its (c_X11_its (by omega) (by omega)) ⟨rfl, rfl, by decide, by decide, Nat.le_refl _, Nat.le_refl _⟩ rfl 11 0 rfl rfl rfl (Nat.le_of_ble_eq_true rfl) dX11_worst_56 (fun _ => rfl) (fun r u H locs hq h => ?_)
            obtain rfl := hq
            refine lv_aload_n hx hb dX11_worst_59 rfl (lv_at hl 0 rfl) ?_
            refine lv_iload_n hx hb dX11_worst_60 rfl (lv_at hl 2 rfl) ?_
            refine lv_iconst (v := nI 4) hx hb dX11_worst_61 (by decide) ?_
            refine cV_i0 S0 hG hA h hl.1 kw_RX11_59 kdV_X11_its (c_X11_its (by omega) (by omega)) ⟨rfl, rfl, by decide, by decide, Nat.le_refl _, Nat.le_refl _⟩ rfl 11 0 rfl rfl rfl (Nat.le_of_ble_eq_true rfl) dX11_worst_62 (fun _ => rfl) (fun r u H locs hq h => ?_)
            obtain rfl := hq
            have n5 := hI9.its_le (p := i) (w := 4) (by omega) (by omega)
            have n6 := hI9.its_le (p := best) (w := 4) (by omega) (by omega)
            refine n_cle hx hb (by omega) (by omega) (tgt := 72) dX11_worst_65 (by decide) (fun c65 => ?_) (fun c65 => ?_)
            ·
              refine lv_iload_n hx hb dX11_worst_72 rfl (lv_at hl 2 rfl) ?_
              refine lv_istore_n hx hb dX11_worst_73 rfl hl (by decide) rfl (fun ls hl => ?_)
              refine lv_iinc hx hb dX11_worst_74 hl (k := 3) rfl (inc_1 _) (by decide) rfl (fun ls hl => ?_)
              refine lv_goto (tgt := 43) hx hb dX11_worst_77 (by decide) ?_
              exact ih43 (i + 1) _ _ _ _ (by omega) (by omega) (by show best = am _ i; rw [am_step hi1, ← hbst, if_neg (fun z => by have z2 := (nI_ltI (by omega) (by omega)).mp z; omega)]) (by omega) (by omega) h (lv_sub hl [2, 3, 1, 0] rfl)
            ·
              refine lv_iload_n hx hb dX11_worst_68 rfl (lv_at hl 3 rfl) ?_
              refine lv_goto (tgt := 73) hx hb dX11_worst_69 (by decide) ?_
              refine lv_istore_n hx hb dX11_worst_73 rfl hl (by decide) rfl (fun ls hl => ?_)
              refine lv_iinc hx hb dX11_worst_74 hl (k := 3) rfl (inc_1 _) (by decide) rfl (fun ls hl => ?_)
              refine lv_goto (tgt := 43) hx hb dX11_worst_77 (by decide) ?_
              exact ih43 (i + 1) _ _ _ _ (by omega) (by omega) (by show i = am _ i; rw [am_step hi1, ← hbst, if_pos ((nI_ltI (by omega) (by omega)).mpr c65)]) (by omega) (by omega) h (lv_sub hl [2, 3, 1, 0] rfl)
      exact lp43 _ 1 0 _ _ _ (by omega) (by omega) rfl (by omega) (Nat.lt_succ_self _) h (lv_sub hl [2, 3, 1, 0] rfl)
    ·
      refine lv_aload_n hx hb dX11_worst_23 rfl (lv_at hl 0 rfl) ?_
      refine lv_ldc (v := -1000000004) hx hb S0.2.2.2.1 (S0.2.2.2.2 _ (rin24 _ (List.mem_of_getElem? (i := 16) rfl))) dX11_worst_24 ?_
      refine cV_i0 S0 hG hA h hl.1 kw_RX11_76 kdV_X11_finds (c_X11_finds (k := 3) (by decide) (by decide)) ⟨rfl, rfl, by decide, by decide, Nat.le_refl _, Nat.le_refl _⟩ rfl 11 0 rfl rfl rfl (Nat.le_of_ble_eq_true rfl) dX11_worst_26 (fun _ => rfl) (fun r u H locs hq h => ?_)
      obtain rfl := hq
      exact hret _ (_, _, _, _) _ _ _ _ (Or.inl ⟨b1, Or.inl ⟨c20, rfl, rfl⟩⟩) h dX11_worst_29
  ·
    refine n_zne hx hb (by decide) (tgt := 14) dX11_worst_4 (by decide) (fun q => absurd q (by decide)) (fun _ => ?_)
    refine lv_aload_n hx hb dX11_worst_7 rfl (lv_at hl 0 rfl) ?_
    refine lv_ldc (v := -1000000001) hx hb S0.2.2.2.1 (S0.2.2.2.2 _ (rin6 _ (List.mem_of_getElem? (i := 21) rfl))) dX11_worst_8 ?_
    refine cV_i0 S0 hG hA h hl.1 kw_RX11_76 kdV_X11_finds (c_X11_finds (k := 0) (by decide) (by decide)) ⟨rfl, rfl, by decide, by decide, Nat.le_refl _, Nat.le_refl _⟩ rfl 11 0 rfl rfl rfl (Nat.le_of_ble_eq_true rfl) dX11_worst_10 (fun _ => rfl) (fun r u H locs hq h => ?_)
    obtain rfl := hq
    exact hret _ (_, _, _, _) _ _ _ _ (Or.inr ⟨b1, rfl, rfl⟩) h dX11_worst_13
