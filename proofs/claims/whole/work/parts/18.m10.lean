/-! the reference: sheets -/
variable {G : GT} {l : Launch} {a : Nat → Nat} {f g o d st du tb bi si : Nat → Nat} {nu mo : Nat → Int64} {kp it tn fr to vl wr : Nat}
set_option maxHeartbeats 4000000 in
set_option maxRecDepth 100000 in
theorem c_X11_sheet {x y z : Int32} : Ki G l yX11_sheet cX11_sheet 5 (some .int) (RM 3 45) [.ref (a 0), .int x, .int y, .int z] (wM G a f g o d st du tb bi si nu mo kp it tn fr to vl wr) (fun u : (Nat → Nat) × (Nat → Nat) × (Nat → Int64) × (Nat → Nat) => wM G a f g o d u.2.2.2 du tb u.1 u.2.1 u.2.2.1 mo kp it tn fr to vl wr) (fun r u => P_sheet bi si nu st x y z r u.1 u.2.1 u.2.2.1 u.2.2.2) := by
  refine Ki.of (by decide) (Nat.le_of_ble_eq_true rfl) ?_
  intro p e s m args below meth c A Q ls hx hb S0 hG hA h hret hl
  have S0 : CF p m c cX11_sheet 5 s args RX11 := S0
  have hl : lv_has ls 5 [(0, .ref (a 0)), (1, .int x), (2, .int y), (3, .int z)] := hl
  refine lv_iload_n hx hb dX11_sheet_0 rfl (lv_at hl 1 rfl) ?_
  refine cS_iE S0 hG hA h hl.1 kw_RX11_282 kdS_X11_isOne (c_X11_isOne) ⟨rfl, rfl, by decide, by decide, Nat.le_refl _, Nat.le_refl _⟩ rfl rfl (Nat.le_of_ble_eq_true rfl) dX11_sheet_1 (fun r u H locs hq h => ?_)
  rcases hq with ⟨rfl, b1⟩ | ⟨rfl, b1⟩
  ·
    obtain ⟨xn, rfl, xh, xq⟩ := inR_nat (x := x) ⟨Int.le_trans (by decide) b1.1, b1.2⟩
    have xr := (inR_n xq).mp b1
    refine n_zeq hx hb (by decide) (tgt := 29) dX11_sheet_4 (by decide) (fun q => absurd q (by decide)) (fun _ => ?_)
    refine lv_iload_n hx hb dX11_sheet_7 rfl (lv_at hl 2 rfl) ?_
    refine lv_if_eq hx hb (tgt := 36) dX11_sheet_8 (by decide) (fun c8 => ?_) (fun c8 => ?_)
    ·
      obtain ⟨yn, rfl, yv, yq⟩ : ∃ yn : Nat, y = nI yn ∧ (yn = 0 ∨ yn = 8 ∨ yn = 16 ∨ yn = 64) ∧ yn < 2147483648 := ⟨0, c8, by decide, by decide⟩
      refine lv_iload_n hx hb dX11_sheet_36 rfl (lv_at hl 3 rfl) ?_
      refine lv_if_ge hx hb (tgt := 48) dX11_sheet_37 (by decide) (fun c37 => ?_) (fun c37 => ?_)
      ·
        refine lv_iload_n hx hb dX11_sheet_48 rfl (lv_at hl 3 rfl) ?_
        refine lv_bipush (v := nI 40) hx hb dX11_sheet_49 (by decide) ?_
        refine lv_icmp_le hx hb (tgt := 61) dX11_sheet_51 (by decide) (fun c51 => ?_) (fun c51 => ?_)
        ·
          obtain ⟨zn, rfl, zh, zq⟩ := inR_nat (x := z) (hi := 40) ⟨(cz0 z).mp c37, (czn z (by decide)).mp c51⟩
          have iy : (nI yn).toInt = 0 ↔ yn = 0 := by rw [nI_toInt yq]; omega
          refine lv_aload_n hx hb dX11_sheet_61 rfl (lv_at hl 0 rfl) ?_
          refine gM_bitsOf S0 hG h dX11_sheet_62 ?_
          refine lv_iload_n hx hb dX11_sheet_65 rfl (lv_at hl 1 rfl) ?_
          refine lv_iload_n hx hb dX11_sheet_66 rfl (lv_at hl 2 rfl) ?_
          refine sM_bitsOf S0 hG h (by omega) dX11_sheet_67 (fun H locs h => ?_)
          refine lv_aload_n hx hb dX11_sheet_68 rfl (lv_at hl 0 rfl) ?_
          refine gM_sizeOf S0 hG h dX11_sheet_69 ?_
          refine lv_iload_n hx hb dX11_sheet_72 rfl (lv_at hl 1 rfl) ?_
          refine lv_iload_n hx hb dX11_sheet_73 rfl (lv_at hl 2 rfl) ?_
          refine n_zne hx hb (by omega) (tgt := 81) dX11_sheet_74 (by decide) (fun c74 => ?_) (fun c74 => ?_)
          ·
            refine lv_iload_n hx hb dX11_sheet_81 rfl (lv_at hl 3 rfl) ?_
            refine sM_sizeOf S0 hG h (by omega) dX11_sheet_82 (fun H locs h => ?_)
            refine lv_iconst (v := nI 0) hx hb dX11_sheet_83 (by decide) ?_
            refine lv_istore hx hb dX11_sheet_84 hl (by decide) rfl (fun ls hl => ?_)
            have lp86 : ∀ (kf : Nat) (k : Nat) (H : Heap) (locs : List Loc) (ls : Array Slot) (hk : k ≤ 40), 40 - k < kf → WX G A s H locs (wM G a f g o d st du tb (va_up bi xn yn) (va_up si xn (if yn = 0 then 0 else zn)) (znu nu xn k) mo kp it tn fr to vl wr) → lv_has ls 5 [(0, .ref (a 0)), (1, .int (nI xn)), (2, .int (nI yn)), (3, .int (nI zn)), (4, .int (nI k))] → W p l e (RM 3 45) s m args below meth c H locs 0 0 Q (F0 m 86 ls []) := by
              intro kf
              induction kf with
              | zero => intro k H locs ls hk hm; exact absurd hm (Nat.not_lt_zero _)
              | succ kf ih86 =>
                intro k H locs ls hk hm h hl
                refine lv_iload hx hb dX11_sheet_86 (lv_at hl 4 rfl) ?_
                refine lv_bipush (v := nI 40) hx hb dX11_sheet_88 (by decide) ?_
                refine n_cge hx hb (by omega) (by omega) (tgt := 112) dX11_sheet_90 (by decide) (fun c90 => ?_) (fun c90 => ?_)
                ·
                  refine lv_aload_n hx hb dX11_sheet_112 rfl (lv_at hl 0 rfl) ?_
                  refine gM_sizeOf S0 hG h dX11_sheet_113 ?_
                  refine lv_iload_n hx hb dX11_sheet_116 rfl (lv_at hl 1 rfl) ?_
                  refine rM_sizeOf S0 hG h (by omega) dX11_sheet_117 ?_
                  refine tN (nI_cong (va_up_s _ _ _)) ?_
                  obtain rfl : k = 40 := by omega
                  exact hret _ (va_up bi xn yn, va_up si xn (if yn = 0 then 0 else zn), znu nu xn 40, st) _ _ _ _ (Or.inl ⟨⟨b1, by unfold okB; rw [nI_toInt yq]; omega⟩, Or.inr (Or.inr ⟨⟨(cz0 _).mp c37, (czn _ (by decide)).mp c51⟩, by simp only [iy, nt_nI zq], by simp only [nt_nI xq, nt_nI yq], by simp only [iy, nt_nI xq, nt_nI zq], by simp only [nt_nI xq], rfl⟩)⟩) h dX11_sheet_118
                ·
                  refine lv_aload_n hx hb dX11_sheet_93 rfl (lv_at hl 0 rfl) ?_
                  refine gM_numbers S0 hG h dX11_sheet_94 ?_
                  refine lv_bipush (v := nI 40) hx hb dX11_sheet_97 (by decide) ?_
                  refine lv_iload_n hx hb dX11_sheet_99 rfl (lv_at hl 1 rfl) ?_
                  refine n_mul hx hb dX11_sheet_100 ?_
                  refine lv_iload hx hb dX11_sheet_101 (lv_at hl 4 rfl) ?_
                  refine n_add hx hb dX11_sheet_103 ?_
                  refine lv_lconst (v := 0) hx hb dX11_sheet_104 (by decide) ?_
                  refine sM_numbers S0 hG h (by omega) dX11_sheet_105 (fun H locs h => ?_)
                  refine lv_iinc hx hb dX11_sheet_106 hl (k := 4) rfl (inc_1 _) (by decide) rfl (fun ls hl => ?_)
                  refine lv_goto (tgt := 86) hx hb dX11_sheet_109 (by decide) ?_
                  exact ih86 (k + 1) _ _ _ (by omega) (by omega) (h.eq (by rw [znu_s])) (lv_sub hl [1, 2, 3, 4, 0] rfl)
            exact lp86 _ 0 _ _ _ (by omega) (Nat.lt_succ_self _) (h.eq (by rw [znu_0]; first | rw [if_pos c74] | rw [if_neg (by omega)])) (lv_sub hl [1, 2, 3, 4, 0] rfl)
          ·
            refine lv_iconst (v := nI 0) hx hb dX11_sheet_77 (by decide) ?_
            refine lv_goto (tgt := 82) hx hb dX11_sheet_78 (by decide) ?_
            refine sM_sizeOf S0 hG h (by omega) dX11_sheet_82 (fun H locs h => ?_)
            refine lv_iconst (v := nI 0) hx hb dX11_sheet_83 (by decide) ?_
            refine lv_istore hx hb dX11_sheet_84 hl (by decide) rfl (fun ls hl => ?_)
            have lp86 : ∀ (kf : Nat) (k : Nat) (H : Heap) (locs : List Loc) (ls : Array Slot) (hk : k ≤ 40), 40 - k < kf → WX G A s H locs (wM G a f g o d st du tb (va_up bi xn yn) (va_up si xn (if yn = 0 then 0 else zn)) (znu nu xn k) mo kp it tn fr to vl wr) → lv_has ls 5 [(0, .ref (a 0)), (1, .int (nI xn)), (2, .int (nI yn)), (3, .int (nI zn)), (4, .int (nI k))] → W p l e (RM 3 45) s m args below meth c H locs 0 0 Q (F0 m 86 ls []) := by
              intro kf
              induction kf with
              | zero => intro k H locs ls hk hm; exact absurd hm (Nat.not_lt_zero _)
              | succ kf ih86 =>
                intro k H locs ls hk hm h hl
                refine lv_iload hx hb dX11_sheet_86 (lv_at hl 4 rfl) ?_
                refine lv_bipush (v := nI 40) hx hb dX11_sheet_88 (by decide) ?_
                refine n_cge hx hb (by omega) (by omega) (tgt := 112) dX11_sheet_90 (by decide) (fun c90 => ?_) (fun c90 => ?_)
                ·
                  refine lv_aload_n hx hb dX11_sheet_112 rfl (lv_at hl 0 rfl) ?_
                  refine gM_sizeOf S0 hG h dX11_sheet_113 ?_
                  refine lv_iload_n hx hb dX11_sheet_116 rfl (lv_at hl 1 rfl) ?_
                  refine rM_sizeOf S0 hG h (by omega) dX11_sheet_117 ?_
                  refine tN (nI_cong (va_up_s _ _ _)) ?_
                  obtain rfl : k = 40 := by omega
                  exact hret _ (va_up bi xn yn, va_up si xn (if yn = 0 then 0 else zn), znu nu xn 40, st) _ _ _ _ (Or.inl ⟨⟨b1, by unfold okB; rw [nI_toInt yq]; omega⟩, Or.inr (Or.inr ⟨⟨(cz0 _).mp c37, (czn _ (by decide)).mp c51⟩, by simp only [iy, nt_nI zq], by simp only [nt_nI xq, nt_nI yq], by simp only [iy, nt_nI xq, nt_nI zq], by simp only [nt_nI xq], rfl⟩)⟩) h dX11_sheet_118
                ·
                  refine lv_aload_n hx hb dX11_sheet_93 rfl (lv_at hl 0 rfl) ?_
                  refine gM_numbers S0 hG h dX11_sheet_94 ?_
                  refine lv_bipush (v := nI 40) hx hb dX11_sheet_97 (by decide) ?_
                  refine lv_iload_n hx hb dX11_sheet_99 rfl (lv_at hl 1 rfl) ?_
                  refine n_mul hx hb dX11_sheet_100 ?_
                  refine lv_iload hx hb dX11_sheet_101 (lv_at hl 4 rfl) ?_
                  refine n_add hx hb dX11_sheet_103 ?_
                  refine lv_lconst (v := 0) hx hb dX11_sheet_104 (by decide) ?_
                  refine sM_numbers S0 hG h (by omega) dX11_sheet_105 (fun H locs h => ?_)
                  refine lv_iinc hx hb dX11_sheet_106 hl (k := 4) rfl (inc_1 _) (by decide) rfl (fun ls hl => ?_)
                  refine lv_goto (tgt := 86) hx hb dX11_sheet_109 (by decide) ?_
                  exact ih86 (k + 1) _ _ _ (by omega) (by omega) (h.eq (by rw [znu_s])) (lv_sub hl [1, 2, 3, 4, 0] rfl)
            exact lp86 _ 0 _ _ _ (by omega) (Nat.lt_succ_self _) (h.eq (by rw [znu_0]; first | rw [if_pos c74] | rw [if_neg (by omega)])) (lv_sub hl [1, 2, 3, 4, 0] rfl)
        ·
          refine lv_aload_n hx hb dX11_sheet_54 rfl (lv_at hl 0 rfl) ?_
          refine lv_ldc (v := -1000000001) hx hb S0.2.2.2.1 (S0.2.2.2.2 _ (rin6 _ (List.mem_of_getElem? (i := 21) rfl))) dX11_sheet_55 ?_
          refine cV_i0 S0 hG hA h hl.1 kw_RX11_76 kdV_X11_finds (c_X11_finds (k := 0) (by decide) (by decide)) ⟨rfl, rfl, by decide, by decide, Nat.le_refl _, Nat.le_refl _⟩ rfl 11 0 rfl rfl rfl (Nat.le_of_ble_eq_true rfl) dX11_sheet_57 (fun _ => rfl) (fun r u H locs hq h => ?_)
          obtain rfl := hq
          exact hret _ (_, _, _, _) _ _ _ _ (Or.inl ⟨⟨b1, by unfold okB; rw [nI_toInt yq]; omega⟩, Or.inr (Or.inl ⟨Int.not_le.mp (fun z9 => c51 ((czn z (by decide)).mpr z9)), rfl, rfl, rfl, rfl, rfl⟩)⟩) h dX11_sheet_60
      ·
        refine lv_aload_n hx hb dX11_sheet_40 rfl (lv_at hl 0 rfl) ?_
        refine lv_ldcw (v := -1000000007) hx hb S0.2.2.2.1 (S0.2.2.2.2 _ (rin36 _ (List.mem_of_getElem? (i := 12) rfl))) dX11_sheet_41 ?_
        refine cV_i0 S0 hG hA h hl.1 kw_RX11_76 kdV_X11_finds (c_X11_finds (k := 6) (by decide) (by decide)) ⟨rfl, rfl, by decide, by decide, Nat.le_refl _, Nat.le_refl _⟩ rfl 11 0 rfl rfl rfl (Nat.le_of_ble_eq_true rfl) dX11_sheet_44 (fun _ => rfl) (fun r u H locs hq h => ?_)
        obtain rfl := hq
        exact hret _ (_, _, _, _) _ _ _ _ (Or.inl ⟨⟨b1, by unfold okB; rw [nI_toInt yq]; omega⟩, Or.inl ⟨Int.not_le.mp (fun z9 => c37 ((cz0 z).mpr z9)), rfl, rfl, rfl, rfl, rfl⟩⟩) h dX11_sheet_47
    ·
      refine lv_iload_n hx hb dX11_sheet_11 rfl (lv_at hl 2 rfl) ?_
      refine lv_bipush (v := nI 8) hx hb dX11_sheet_12 (by decide) ?_
      refine lv_icmp_eq hx hb (tgt := 36) dX11_sheet_14 (by decide) (fun c14 => ?_) (fun c14 => ?_)
      ·
        obtain ⟨yn, rfl, yv, yq⟩ : ∃ yn : Nat, y = nI yn ∧ (yn = 0 ∨ yn = 8 ∨ yn = 16 ∨ yn = 64) ∧ yn < 2147483648 := ⟨8, c14, by decide, by decide⟩
        refine lv_iload_n hx hb dX11_sheet_36 rfl (lv_at hl 3 rfl) ?_
        refine lv_if_ge hx hb (tgt := 48) dX11_sheet_37 (by decide) (fun c37 => ?_) (fun c37 => ?_)
        ·
          refine lv_iload_n hx hb dX11_sheet_48 rfl (lv_at hl 3 rfl) ?_
          refine lv_bipush (v := nI 40) hx hb dX11_sheet_49 (by decide) ?_
          refine lv_icmp_le hx hb (tgt := 61) dX11_sheet_51 (by decide) (fun c51 => ?_) (fun c51 => ?_)
          ·
            obtain ⟨zn, rfl, zh, zq⟩ := inR_nat (x := z) (hi := 40) ⟨(cz0 z).mp c37, (czn z (by decide)).mp c51⟩
            have iy : (nI yn).toInt = 0 ↔ yn = 0 := by rw [nI_toInt yq]; omega
            refine lv_aload_n hx hb dX11_sheet_61 rfl (lv_at hl 0 rfl) ?_
            refine gM_bitsOf S0 hG h dX11_sheet_62 ?_
            refine lv_iload_n hx hb dX11_sheet_65 rfl (lv_at hl 1 rfl) ?_
            refine lv_iload_n hx hb dX11_sheet_66 rfl (lv_at hl 2 rfl) ?_
            refine sM_bitsOf S0 hG h (by omega) dX11_sheet_67 (fun H locs h => ?_)
            refine lv_aload_n hx hb dX11_sheet_68 rfl (lv_at hl 0 rfl) ?_
            refine gM_sizeOf S0 hG h dX11_sheet_69 ?_
            refine lv_iload_n hx hb dX11_sheet_72 rfl (lv_at hl 1 rfl) ?_
            refine lv_iload_n hx hb dX11_sheet_73 rfl (lv_at hl 2 rfl) ?_
            refine n_zne hx hb (by omega) (tgt := 81) dX11_sheet_74 (by decide) (fun c74 => ?_) (fun c74 => ?_)
            ·
              refine lv_iload_n hx hb dX11_sheet_81 rfl (lv_at hl 3 rfl) ?_
              refine sM_sizeOf S0 hG h (by omega) dX11_sheet_82 (fun H locs h => ?_)
              refine lv_iconst (v := nI 0) hx hb dX11_sheet_83 (by decide) ?_
              refine lv_istore hx hb dX11_sheet_84 hl (by decide) rfl (fun ls hl => ?_)
              have lp86 : ∀ (kf : Nat) (k : Nat) (H : Heap) (locs : List Loc) (ls : Array Slot) (hk : k ≤ 40), 40 - k < kf → WX G A s H locs (wM G a f g o d st du tb (va_up bi xn yn) (va_up si xn (if yn = 0 then 0 else zn)) (znu nu xn k) mo kp it tn fr to vl wr) → lv_has ls 5 [(0, .ref (a 0)), (1, .int (nI xn)), (2, .int (nI yn)), (3, .int (nI zn)), (4, .int (nI k))] → W p l e (RM 3 45) s m args below meth c H locs 0 0 Q (F0 m 86 ls []) := by
                intro kf
                induction kf with
                | zero => intro k H locs ls hk hm; exact absurd hm (Nat.not_lt_zero _)
                | succ kf ih86 =>
                  intro k H locs ls hk hm h hl
                  refine lv_iload hx hb dX11_sheet_86 (lv_at hl 4 rfl) ?_
                  refine lv_bipush (v := nI 40) hx hb dX11_sheet_88 (by decide) ?_
                  refine n_cge hx hb (by omega) (by omega) (tgt := 112) dX11_sheet_90 (by decide) (fun c90 => ?_) (fun c90 => ?_)
                  ·
                    refine lv_aload_n hx hb dX11_sheet_112 rfl (lv_at hl 0 rfl) ?_
                    refine gM_sizeOf S0 hG h dX11_sheet_113 ?_
                    refine lv_iload_n hx hb dX11_sheet_116 rfl (lv_at hl 1 rfl) ?_
                    refine rM_sizeOf S0 hG h (by omega) dX11_sheet_117 ?_
                    refine tN (nI_cong (va_up_s _ _ _)) ?_
                    obtain rfl : k = 40 := by omega
                    exact hret _ (va_up bi xn yn, va_up si xn (if yn = 0 then 0 else zn), znu nu xn 40, st) _ _ _ _ (Or.inl ⟨⟨b1, by unfold okB; rw [nI_toInt yq]; omega⟩, Or.inr (Or.inr ⟨⟨(cz0 _).mp c37, (czn _ (by decide)).mp c51⟩, by simp only [iy, nt_nI zq], by simp only [nt_nI xq, nt_nI yq], by simp only [iy, nt_nI xq, nt_nI zq], by simp only [nt_nI xq], rfl⟩)⟩) h dX11_sheet_118
                  ·
                    refine lv_aload_n hx hb dX11_sheet_93 rfl (lv_at hl 0 rfl) ?_
                    refine gM_numbers S0 hG h dX11_sheet_94 ?_
                    refine lv_bipush (v := nI 40) hx hb dX11_sheet_97 (by decide) ?_
                    refine lv_iload_n hx hb dX11_sheet_99 rfl (lv_at hl 1 rfl) ?_
                    refine n_mul hx hb dX11_sheet_100 ?_
                    refine lv_iload hx hb dX11_sheet_101 (lv_at hl 4 rfl) ?_
                    refine n_add hx hb dX11_sheet_103 ?_
                    refine lv_lconst (v := 0) hx hb dX11_sheet_104 (by decide) ?_
                    refine sM_numbers S0 hG h (by omega) dX11_sheet_105 (fun H locs h => ?_)
                    refine lv_iinc hx hb dX11_sheet_106 hl (k := 4) rfl (inc_1 _) (by decide) rfl (fun ls hl => ?_)
                    refine lv_goto (tgt := 86) hx hb dX11_sheet_109 (by decide) ?_
                    exact ih86 (k + 1) _ _ _ (by omega) (by omega) (h.eq (by rw [znu_s])) (lv_sub hl [1, 2, 3, 4, 0] rfl)
              exact lp86 _ 0 _ _ _ (by omega) (Nat.lt_succ_self _) (h.eq (by rw [znu_0]; first | rw [if_pos c74] | rw [if_neg (by omega)])) (lv_sub hl [1, 2, 3, 4, 0] rfl)
            ·
              refine lv_iconst (v := nI 0) hx hb dX11_sheet_77 (by decide) ?_
              refine lv_goto (tgt := 82) hx hb dX11_sheet_78 (by decide) ?_
              refine sM_sizeOf S0 hG h (by omega) dX11_sheet_82 (fun H locs h => ?_)
              refine lv_iconst (v := nI 0) hx hb dX11_sheet_83 (by decide) ?_
              refine lv_istore hx hb dX11_sheet_84 hl (by decide) rfl (fun ls hl => ?_)
              have lp86 : ∀ (kf : Nat) (k : Nat) (H : Heap) (locs : List Loc) (ls : Array Slot) (hk : k ≤ 40), 40 - k < kf → WX G A s H locs (wM G a f g o d st du tb (va_up bi xn yn) (va_up si xn (if yn = 0 then 0 else zn)) (znu nu xn k) mo kp it tn fr to vl wr) → lv_has ls 5 [(0, .ref (a 0)), (1, .int (nI xn)), (2, .int (nI yn)), (3, .int (nI zn)), (4, .int (nI k))] → W p l e (RM 3 45) s m args below meth c H locs 0 0 Q (F0 m 86 ls []) := by
                intro kf
                induction kf with
                | zero => intro k H locs ls hk hm; exact absurd hm (Nat.not_lt_zero _)
                | succ kf ih86 =>
                  intro k H locs ls hk hm h hl
                  refine lv_iload hx hb dX11_sheet_86 (lv_at hl 4 rfl) ?_
                  refine lv_bipush (v := nI 40) hx hb dX11_sheet_88 (by decide) ?_
                  refine n_cge hx hb (by omega) (by omega) (tgt := 112) dX11_sheet_90 (by decide) (fun c90 => ?_) (fun c90 => ?_)
                  ·
                    refine lv_aload_n hx hb dX11_sheet_112 rfl (lv_at hl 0 rfl) ?_
                    refine gM_sizeOf S0 hG h dX11_sheet_113 ?_
                    refine lv_iload_n hx hb dX11_sheet_116 rfl (lv_at hl 1 rfl) ?_
                    refine rM_sizeOf S0 hG h (by omega) dX11_sheet_117 ?_
                    refine tN (nI_cong (va_up_s _ _ _)) ?_
                    obtain rfl : k = 40 := by omega
                    exact hret _ (va_up bi xn yn, va_up si xn (if yn = 0 then 0 else zn), znu nu xn 40, st) _ _ _ _ (Or.inl ⟨⟨b1, by unfold okB; rw [nI_toInt yq]; omega⟩, Or.inr (Or.inr ⟨⟨(cz0 _).mp c37, (czn _ (by decide)).mp c51⟩, by simp only [iy, nt_nI zq], by simp only [nt_nI xq, nt_nI yq], by simp only [iy, nt_nI xq, nt_nI zq], by simp only [nt_nI xq], rfl⟩)⟩) h dX11_sheet_118
                  ·
                    refine lv_aload_n hx hb dX11_sheet_93 rfl (lv_at hl 0 rfl) ?_
                    refine gM_numbers S0 hG h dX11_sheet_94 ?_
                    refine lv_bipush (v := nI 40) hx hb dX11_sheet_97 (by decide) ?_
                    refine lv_iload_n hx hb dX11_sheet_99 rfl (lv_at hl 1 rfl) ?_
                    refine n_mul hx hb dX11_sheet_100 ?_
                    refine lv_iload hx hb dX11_sheet_101 (lv_at hl 4 rfl) ?_
                    refine n_add hx hb dX11_sheet_103 ?_
                    refine lv_lconst (v := 0) hx hb dX11_sheet_104 (by decide) ?_
                    refine sM_numbers S0 hG h (by omega) dX11_sheet_105 (fun H locs h => ?_)
                    refine lv_iinc hx hb dX11_sheet_106 hl (k := 4) rfl (inc_1 _) (by decide) rfl (fun ls hl => ?_)
                    refine lv_goto (tgt := 86) hx hb dX11_sheet_109 (by decide) ?_
                    exact ih86 (k + 1) _ _ _ (by omega) (by omega) (h.eq (by rw [znu_s])) (lv_sub hl [1, 2, 3, 4, 0] rfl)
              exact lp86 _ 0 _ _ _ (by omega) (Nat.lt_succ_self _) (h.eq (by rw [znu_0]; first | rw [if_pos c74] | rw [if_neg (by omega)])) (lv_sub hl [1, 2, 3, 4, 0] rfl)
          ·
            refine lv_aload_n hx hb dX11_sheet_54 rfl (lv_at hl 0 rfl) ?_
            refine lv_ldc (v := -1000000001) hx hb S0.2.2.2.1 (S0.2.2.2.2 _ (rin6 _ (List.mem_of_getElem? (i := 21) rfl))) dX11_sheet_55 ?_
            refine cV_i0 S0 hG hA h hl.1 kw_RX11_76 kdV_X11_finds (c_X11_finds (k := 0) (by decide) (by decide)) ⟨rfl, rfl, by decide, by decide, Nat.le_refl _, Nat.le_refl _⟩ rfl 11 0 rfl rfl rfl (Nat.le_of_ble_eq_true rfl) dX11_sheet_57 (fun _ => rfl) (fun r u H locs hq h => ?_)
            obtain rfl := hq
            exact hret _ (_, _, _, _) _ _ _ _ (Or.inl ⟨⟨b1, by unfold okB; rw [nI_toInt yq]; omega⟩, Or.inr (Or.inl ⟨Int.not_le.mp (fun z9 => c51 ((czn z (by decide)).mpr z9)), rfl, rfl, rfl, rfl, rfl⟩)⟩) h dX11_sheet_60
        ·
          refine lv_aload_n hx hb dX11_sheet_40 rfl (lv_at hl 0 rfl) ?_
          refine lv_ldcw (v := -1000000007) hx hb S0.2.2.2.1 (S0.2.2.2.2 _ (rin36 _ (List.mem_of_getElem? (i := 12) rfl))) dX11_sheet_41 ?_
          refine cV_i0 S0 hG hA h hl.1 kw_RX11_76 kdV_X11_finds (c_X11_finds (k := 6) (by decide) (by decide)) ⟨rfl, rfl, by decide, by decide, Nat.le_refl _, Nat.le_refl _⟩ rfl 11 0 rfl rfl rfl (Nat.le_of_ble_eq_true rfl) dX11_sheet_44 (fun _ => rfl) (fun r u H locs hq h => ?_)
          obtain rfl := hq
          exact hret _ (_, _, _, _) _ _ _ _ (Or.inl ⟨⟨b1, by unfold okB; rw [nI_toInt yq]; omega⟩, Or.inl ⟨Int.not_le.mp (fun z9 => c37 ((cz0 z).mpr z9)), rfl, rfl, rfl, rfl, rfl⟩⟩) h dX11_sheet_47
      ·
        refine lv_iload_n hx hb dX11_sheet_17 rfl (lv_at hl 2 rfl) ?_
        refine lv_bipush (v := nI 16) hx hb dX11_sheet_18 (by decide) ?_
        refine lv_icmp_eq hx hb (tgt := 36) dX11_sheet_20 (by decide) (fun c20 => ?_) (fun c20 => ?_)
        ·
          obtain ⟨yn, rfl, yv, yq⟩ : ∃ yn : Nat, y = nI yn ∧ (yn = 0 ∨ yn = 8 ∨ yn = 16 ∨ yn = 64) ∧ yn < 2147483648 := ⟨16, c20, by decide, by decide⟩
          refine lv_iload_n hx hb dX11_sheet_36 rfl (lv_at hl 3 rfl) ?_
          refine lv_if_ge hx hb (tgt := 48) dX11_sheet_37 (by decide) (fun c37 => ?_) (fun c37 => ?_)
          ·
            refine lv_iload_n hx hb dX11_sheet_48 rfl (lv_at hl 3 rfl) ?_
            refine lv_bipush (v := nI 40) hx hb dX11_sheet_49 (by decide) ?_
            refine lv_icmp_le hx hb (tgt := 61) dX11_sheet_51 (by decide) (fun c51 => ?_) (fun c51 => ?_)
            ·
              obtain ⟨zn, rfl, zh, zq⟩ := inR_nat (x := z) (hi := 40) ⟨(cz0 z).mp c37, (czn z (by decide)).mp c51⟩
              have iy : (nI yn).toInt = 0 ↔ yn = 0 := by rw [nI_toInt yq]; omega
              refine lv_aload_n hx hb dX11_sheet_61 rfl (lv_at hl 0 rfl) ?_
              refine gM_bitsOf S0 hG h dX11_sheet_62 ?_
              refine lv_iload_n hx hb dX11_sheet_65 rfl (lv_at hl 1 rfl) ?_
              refine lv_iload_n hx hb dX11_sheet_66 rfl (lv_at hl 2 rfl) ?_
              refine sM_bitsOf S0 hG h (by omega) dX11_sheet_67 (fun H locs h => ?_)
              refine lv_aload_n hx hb dX11_sheet_68 rfl (lv_at hl 0 rfl) ?_
              refine gM_sizeOf S0 hG h dX11_sheet_69 ?_
              refine lv_iload_n hx hb dX11_sheet_72 rfl (lv_at hl 1 rfl) ?_
              refine lv_iload_n hx hb dX11_sheet_73 rfl (lv_at hl 2 rfl) ?_
              refine n_zne hx hb (by omega) (tgt := 81) dX11_sheet_74 (by decide) (fun c74 => ?_) (fun c74 => ?_)
              ·
                refine lv_iload_n hx hb dX11_sheet_81 rfl (lv_at hl 3 rfl) ?_
                refine sM_sizeOf S0 hG h (by omega) dX11_sheet_82 (fun H locs h => ?_)
                refine lv_iconst (v := nI 0) hx hb dX11_sheet_83 (by decide) ?_
                refine lv_istore hx hb dX11_sheet_84 hl (by decide) rfl (fun ls hl => ?_)
                have lp86 : ∀ (kf : Nat) (k : Nat) (H : Heap) (locs : List Loc) (ls : Array Slot) (hk : k ≤ 40), 40 - k < kf → WX G A s H locs (wM G a f g o d st du tb (va_up bi xn yn) (va_up si xn (if yn = 0 then 0 else zn)) (znu nu xn k) mo kp it tn fr to vl wr) → lv_has ls 5 [(0, .ref (a 0)), (1, .int (nI xn)), (2, .int (nI yn)), (3, .int (nI zn)), (4, .int (nI k))] → W p l e (RM 3 45) s m args below meth c H locs 0 0 Q (F0 m 86 ls []) := by
                  intro kf
                  induction kf with
                  | zero => intro k H locs ls hk hm; exact absurd hm (Nat.not_lt_zero _)
                  | succ kf ih86 =>
                    intro k H locs ls hk hm h hl
                    refine lv_iload hx hb dX11_sheet_86 (lv_at hl 4 rfl) ?_
                    refine lv_bipush (v := nI 40) hx hb dX11_sheet_88 (by decide) ?_
                    refine n_cge hx hb (by omega) (by omega) (tgt := 112) dX11_sheet_90 (by decide) (fun c90 => ?_) (fun c90 => ?_)
                    ·
                      refine lv_aload_n hx hb dX11_sheet_112 rfl (lv_at hl 0 rfl) ?_
                      refine gM_sizeOf S0 hG h dX11_sheet_113 ?_
                      refine lv_iload_n hx hb dX11_sheet_116 rfl (lv_at hl 1 rfl) ?_
                      refine rM_sizeOf S0 hG h (by omega) dX11_sheet_117 ?_
                      refine tN (nI_cong (va_up_s _ _ _)) ?_
                      obtain rfl : k = 40 := by omega
                      exact hret _ (va_up bi xn yn, va_up si xn (if yn = 0 then 0 else zn), znu nu xn 40, st) _ _ _ _ (Or.inl ⟨⟨b1, by unfold okB; rw [nI_toInt yq]; omega⟩, Or.inr (Or.inr ⟨⟨(cz0 _).mp c37, (czn _ (by decide)).mp c51⟩, by simp only [iy, nt_nI zq], by simp only [nt_nI xq, nt_nI yq], by simp only [iy, nt_nI xq, nt_nI zq], by simp only [nt_nI xq], rfl⟩)⟩) h dX11_sheet_118
                    ·
                      refine lv_aload_n hx hb dX11_sheet_93 rfl (lv_at hl 0 rfl) ?_
                      refine gM_numbers S0 hG h dX11_sheet_94 ?_
                      refine lv_bipush (v := nI 40) hx hb dX11_sheet_97 (by decide) ?_
                      refine lv_iload_n hx hb dX11_sheet_99 rfl (lv_at hl 1 rfl) ?_
                      refine n_mul hx hb dX11_sheet_100 ?_
                      refine lv_iload hx hb dX11_sheet_101 (lv_at hl 4 rfl) ?_
                      refine n_add hx hb dX11_sheet_103 ?_
                      refine lv_lconst (v := 0) hx hb dX11_sheet_104 (by decide) ?_
                      refine sM_numbers S0 hG h (by omega) dX11_sheet_105 (fun H locs h => ?_)
                      refine lv_iinc hx hb dX11_sheet_106 hl (k := 4) rfl (inc_1 _) (by decide) rfl (fun ls hl => ?_)
                      refine lv_goto (tgt := 86) hx hb dX11_sheet_109 (by decide) ?_
                      exact ih86 (k + 1) _ _ _ (by omega) (by omega) (h.eq (by rw [znu_s])) (lv_sub hl [1, 2, 3, 4, 0] rfl)
                exact lp86 _ 0 _ _ _ (by omega) (Nat.lt_succ_self _) (h.eq (by rw [znu_0]; first | rw [if_pos c74] | rw [if_neg (by omega)])) (lv_sub hl [1, 2, 3, 4, 0] rfl)
              ·
                refine lv_iconst (v := nI 0) hx hb dX11_sheet_77 (by decide) ?_
                refine lv_goto (tgt := 82) hx hb dX11_sheet_78 (by decide) ?_
                refine sM_sizeOf S0 hG h (by omega) dX11_sheet_82 (fun H locs h => ?_)
                refine lv_iconst (v := nI 0) hx hb dX11_sheet_83 (by decide) ?_
                refine lv_istore hx hb dX11_sheet_84 hl (by decide) rfl (fun ls hl => ?_)
                have lp86 : ∀ (kf : Nat) (k : Nat) (H : Heap) (locs : List Loc) (ls : Array Slot) (hk : k ≤ 40), 40 - k < kf → WX G A s H locs (wM G a f g o d st du tb (va_up bi xn yn) (va_up si xn (if yn = 0 then 0 else zn)) (znu nu xn k) mo kp it tn fr to vl wr) → lv_has ls 5 [(0, .ref (a 0)), (1, .int (nI xn)), (2, .int (nI yn)), (3, .int (nI zn)), (4, .int (nI k))] → W p l e (RM 3 45) s m args below meth c H locs 0 0 Q (F0 m 86 ls []) := by
                  intro kf
                  induction kf with
                  | zero => intro k H locs ls hk hm; exact absurd hm (Nat.not_lt_zero _)
                  | succ kf ih86 =>
                    intro k H locs ls hk hm h hl
                    refine lv_iload hx hb dX11_sheet_86 (lv_at hl 4 rfl) ?_
                    refine lv_bipush (v := nI 40) hx hb dX11_sheet_88 (by decide) ?_
                    refine n_cge hx hb (by omega) (by omega) (tgt := 112) dX11_sheet_90 (by decide) (fun c90 => ?_) (fun c90 => ?_)
                    ·
                      refine lv_aload_n hx hb dX11_sheet_112 rfl (lv_at hl 0 rfl) ?_
                      refine gM_sizeOf S0 hG h dX11_sheet_113 ?_
                      refine lv_iload_n hx hb dX11_sheet_116 rfl (lv_at hl 1 rfl) ?_
                      refine rM_sizeOf S0 hG h (by omega) dX11_sheet_117 ?_
                      refine tN (nI_cong (va_up_s _ _ _)) ?_
                      obtain rfl : k = 40 := by omega
                      exact hret _ (va_up bi xn yn, va_up si xn (if yn = 0 then 0 else zn), znu nu xn 40, st) _ _ _ _ (Or.inl ⟨⟨b1, by unfold okB; rw [nI_toInt yq]; omega⟩, Or.inr (Or.inr ⟨⟨(cz0 _).mp c37, (czn _ (by decide)).mp c51⟩, by simp only [iy, nt_nI zq], by simp only [nt_nI xq, nt_nI yq], by simp only [iy, nt_nI xq, nt_nI zq], by simp only [nt_nI xq], rfl⟩)⟩) h dX11_sheet_118
                    ·
                      refine lv_aload_n hx hb dX11_sheet_93 rfl (lv_at hl 0 rfl) ?_
                      refine gM_numbers S0 hG h dX11_sheet_94 ?_
                      refine lv_bipush (v := nI 40) hx hb dX11_sheet_97 (by decide) ?_
                      refine lv_iload_n hx hb dX11_sheet_99 rfl (lv_at hl 1 rfl) ?_
                      refine n_mul hx hb dX11_sheet_100 ?_
                      refine lv_iload hx hb dX11_sheet_101 (lv_at hl 4 rfl) ?_
                      refine n_add hx hb dX11_sheet_103 ?_
                      refine lv_lconst (v := 0) hx hb dX11_sheet_104 (by decide) ?_
                      refine sM_numbers S0 hG h (by omega) dX11_sheet_105 (fun H locs h => ?_)
                      refine lv_iinc hx hb dX11_sheet_106 hl (k := 4) rfl (inc_1 _) (by decide) rfl (fun ls hl => ?_)
                      refine lv_goto (tgt := 86) hx hb dX11_sheet_109 (by decide) ?_
                      exact ih86 (k + 1) _ _ _ (by omega) (by omega) (h.eq (by rw [znu_s])) (lv_sub hl [1, 2, 3, 4, 0] rfl)
                exact lp86 _ 0 _ _ _ (by omega) (Nat.lt_succ_self _) (h.eq (by rw [znu_0]; first | rw [if_pos c74] | rw [if_neg (by omega)])) (lv_sub hl [1, 2, 3, 4, 0] rfl)
            ·
              refine lv_aload_n hx hb dX11_sheet_54 rfl (lv_at hl 0 rfl) ?_
              refine lv_ldc (v := -1000000001) hx hb S0.2.2.2.1 (S0.2.2.2.2 _ (rin6 _ (List.mem_of_getElem? (i := 21) rfl))) dX11_sheet_55 ?_
              refine cV_i0 S0 hG hA h hl.1 kw_RX11_76 kdV_X11_finds (c_X11_finds (k := 0) (by decide) (by decide)) ⟨rfl, rfl, by decide, by decide, Nat.le_refl _, Nat.le_refl _⟩ rfl 11 0 rfl rfl rfl (Nat.le_of_ble_eq_true rfl) dX11_sheet_57 (fun _ => rfl) (fun r u H locs hq h => ?_)
              obtain rfl := hq
              exact hret _ (_, _, _, _) _ _ _ _ (Or.inl ⟨⟨b1, by unfold okB; rw [nI_toInt yq]; omega⟩, Or.inr (Or.inl ⟨Int.not_le.mp (fun z9 => c51 ((czn z (by decide)).mpr z9)), rfl, rfl, rfl, rfl, rfl⟩)⟩) h dX11_sheet_60
          ·
            refine lv_aload_n hx hb dX11_sheet_40 rfl (lv_at hl 0 rfl) ?_
            refine lv_ldcw (v := -1000000007) hx hb S0.2.2.2.1 (S0.2.2.2.2 _ (rin36 _ (List.mem_of_getElem? (i := 12) rfl))) dX11_sheet_41 ?_
            refine cV_i0 S0 hG hA h hl.1 kw_RX11_76 kdV_X11_finds (c_X11_finds (k := 6) (by decide) (by decide)) ⟨rfl, rfl, by decide, by decide, Nat.le_refl _, Nat.le_refl _⟩ rfl 11 0 rfl rfl rfl (Nat.le_of_ble_eq_true rfl) dX11_sheet_44 (fun _ => rfl) (fun r u H locs hq h => ?_)
            obtain rfl := hq
            exact hret _ (_, _, _, _) _ _ _ _ (Or.inl ⟨⟨b1, by unfold okB; rw [nI_toInt yq]; omega⟩, Or.inl ⟨Int.not_le.mp (fun z9 => c37 ((cz0 z).mpr z9)), rfl, rfl, rfl, rfl, rfl⟩⟩) h dX11_sheet_47
        ·
          refine lv_iload_n hx hb dX11_sheet_23 rfl (lv_at hl 2 rfl) ?_
          refine lv_bipush (v := nI 64) hx hb dX11_sheet_24 (by decide) ?_
          refine lv_icmp_eq hx hb (tgt := 36) dX11_sheet_26 (by decide) (fun c26 => ?_) (fun c26 => ?_)
          ·
            obtain ⟨yn, rfl, yv, yq⟩ : ∃ yn : Nat, y = nI yn ∧ (yn = 0 ∨ yn = 8 ∨ yn = 16 ∨ yn = 64) ∧ yn < 2147483648 := ⟨64, c26, by decide, by decide⟩
            refine lv_iload_n hx hb dX11_sheet_36 rfl (lv_at hl 3 rfl) ?_
            refine lv_if_ge hx hb (tgt := 48) dX11_sheet_37 (by decide) (fun c37 => ?_) (fun c37 => ?_)
            ·
              refine lv_iload_n hx hb dX11_sheet_48 rfl (lv_at hl 3 rfl) ?_
              refine lv_bipush (v := nI 40) hx hb dX11_sheet_49 (by decide) ?_
              refine lv_icmp_le hx hb (tgt := 61) dX11_sheet_51 (by decide) (fun c51 => ?_) (fun c51 => ?_)
              ·
                obtain ⟨zn, rfl, zh, zq⟩ := inR_nat (x := z) (hi := 40) ⟨(cz0 z).mp c37, (czn z (by decide)).mp c51⟩
                have iy : (nI yn).toInt = 0 ↔ yn = 0 := by rw [nI_toInt yq]; omega
                refine lv_aload_n hx hb dX11_sheet_61 rfl (lv_at hl 0 rfl) ?_
                refine gM_bitsOf S0 hG h dX11_sheet_62 ?_
                refine lv_iload_n hx hb dX11_sheet_65 rfl (lv_at hl 1 rfl) ?_
                refine lv_iload_n hx hb dX11_sheet_66 rfl (lv_at hl 2 rfl) ?_
                refine sM_bitsOf S0 hG h (by omega) dX11_sheet_67 (fun H locs h => ?_)
                refine lv_aload_n hx hb dX11_sheet_68 rfl (lv_at hl 0 rfl) ?_
                refine gM_sizeOf S0 hG h dX11_sheet_69 ?_
                refine lv_iload_n hx hb dX11_sheet_72 rfl (lv_at hl 1 rfl) ?_
                refine lv_iload_n hx hb dX11_sheet_73 rfl (lv_at hl 2 rfl) ?_
                refine n_zne hx hb (by omega) (tgt := 81) dX11_sheet_74 (by decide) (fun c74 => ?_) (fun c74 => ?_)
                ·
                  refine lv_iload_n hx hb dX11_sheet_81 rfl (lv_at hl 3 rfl) ?_
                  refine sM_sizeOf S0 hG h (by omega) dX11_sheet_82 (fun H locs h => ?_)
                  refine lv_iconst (v := nI 0) hx hb dX11_sheet_83 (by decide) ?_
                  refine lv_istore hx hb dX11_sheet_84 hl (by decide) rfl (fun ls hl => ?_)
                  have lp86 : ∀ (kf : Nat) (k : Nat) (H : Heap) (locs : List Loc) (ls : Array Slot) (hk : k ≤ 40), 40 - k < kf → WX G A s H locs (wM G a f g o d st du tb (va_up bi xn yn) (va_up si xn (if yn = 0 then 0 else zn)) (znu nu xn k) mo kp it tn fr to vl wr) → lv_has ls 5 [(0, .ref (a 0)), (1, .int (nI xn)), (2, .int (nI yn)), (3, .int (nI zn)), (4, .int (nI k))] → W p l e (RM 3 45) s m args below meth c H locs 0 0 Q (F0 m 86 ls []) := by
                    intro kf
                    induction kf with
                    | zero => intro k H locs ls hk hm; exact absurd hm (Nat.not_lt_zero _)
                    | succ kf ih86 =>
                      intro k H locs ls hk hm h hl
                      refine lv_iload hx hb dX11_sheet_86 (lv_at hl 4 rfl) ?_
                      refine lv_bipush (v := nI 40) hx hb dX11_sheet_88 (by decide) ?_
                      refine n_cge hx hb (by omega) (by omega) (tgt := 112) dX11_sheet_90 (by decide) (fun c90 => ?_) (fun c90 => ?_)
                      ·
                        refine lv_aload_n hx hb dX11_sheet_112 rfl (lv_at hl 0 rfl) ?_
                        refine gM_sizeOf S0 hG h dX11_sheet_113 ?_
                        refine lv_iload_n hx hb dX11_sheet_116 rfl (lv_at hl 1 rfl) ?_
                        refine rM_sizeOf S0 hG h (by omega) dX11_sheet_117 ?_
                        refine tN (nI_cong (va_up_s _ _ _)) ?_
                        obtain rfl : k = 40 := by omega
                        exact hret _ (va_up bi xn yn, va_up si xn (if yn = 0 then 0 else zn), znu nu xn 40, st) _ _ _ _ (Or.inl ⟨⟨b1, by unfold okB; rw [nI_toInt yq]; omega⟩, Or.inr (Or.inr ⟨⟨(cz0 _).mp c37, (czn _ (by decide)).mp c51⟩, by simp only [iy, nt_nI zq], by simp only [nt_nI xq, nt_nI yq], by simp only [iy, nt_nI xq, nt_nI zq], by simp only [nt_nI xq], rfl⟩)⟩) h dX11_sheet_118
                      ·
                        refine lv_aload_n hx hb dX11_sheet_93 rfl (lv_at hl 0 rfl) ?_
                        refine gM_numbers S0 hG h dX11_sheet_94 ?_
                        refine lv_bipush (v := nI 40) hx hb dX11_sheet_97 (by decide) ?_
                        refine lv_iload_n hx hb dX11_sheet_99 rfl (lv_at hl 1 rfl) ?_
                        refine n_mul hx hb dX11_sheet_100 ?_
                        refine lv_iload hx hb dX11_sheet_101 (lv_at hl 4 rfl) ?_
                        refine n_add hx hb dX11_sheet_103 ?_
                        refine lv_lconst (v := 0) hx hb dX11_sheet_104 (by decide) ?_
                        refine sM_numbers S0 hG h (by omega) dX11_sheet_105 (fun H locs h => ?_)
                        refine lv_iinc hx hb dX11_sheet_106 hl (k := 4) rfl (inc_1 _) (by decide) rfl (fun ls hl => ?_)
                        refine lv_goto (tgt := 86) hx hb dX11_sheet_109 (by decide) ?_
                        exact ih86 (k + 1) _ _ _ (by omega) (by omega) (h.eq (by rw [znu_s])) (lv_sub hl [1, 2, 3, 4, 0] rfl)
                  exact lp86 _ 0 _ _ _ (by omega) (Nat.lt_succ_self _) (h.eq (by rw [znu_0]; first | rw [if_pos c74] | rw [if_neg (by omega)])) (lv_sub hl [1, 2, 3, 4, 0] rfl)
                ·
                  refine lv_iconst (v := nI 0) hx hb dX11_sheet_77 (by decide) ?_
                  refine lv_goto (tgt := 82) hx hb dX11_sheet_78 (by decide) ?_
                  refine sM_sizeOf S0 hG h (by omega) dX11_sheet_82 (fun H locs h => ?_)
                  refine lv_iconst (v := nI 0) hx hb dX11_sheet_83 (by decide) ?_
                  refine lv_istore hx hb dX11_sheet_84 hl (by decide) rfl (fun ls hl => ?_)
                  have lp86 : ∀ (kf : Nat) (k : Nat) (H : Heap) (locs : List Loc) (ls : Array Slot) (hk : k ≤ 40), 40 - k < kf → WX G A s H locs (wM G a f g o d st du tb (va_up bi xn yn) (va_up si xn (if yn = 0 then 0 else zn)) (znu nu xn k) mo kp it tn fr to vl wr) → lv_has ls 5 [(0, .ref (a 0)), (1, .int (nI xn)), (2, .int (nI yn)), (3, .int (nI zn)), (4, .int (nI k))] → W p l e (RM 3 45) s m args below meth c H locs 0 0 Q (F0 m 86 ls []) := by
                    intro kf
                    induction kf with
                    | zero => intro k H locs ls hk hm; exact absurd hm (Nat.not_lt_zero _)
                    | succ kf ih86 =>
                      intro k H locs ls hk hm h hl
                      refine lv_iload hx hb dX11_sheet_86 (lv_at hl 4 rfl) ?_
                      refine lv_bipush (v := nI 40) hx hb dX11_sheet_88 (by decide) ?_
                      refine n_cge hx hb (by omega) (by omega) (tgt := 112) dX11_sheet_90 (by decide) (fun c90 => ?_) (fun c90 => ?_)
                      ·
                        refine lv_aload_n hx hb dX11_sheet_112 rfl (lv_at hl 0 rfl) ?_
                        refine gM_sizeOf S0 hG h dX11_sheet_113 ?_
                        refine lv_iload_n hx hb dX11_sheet_116 rfl (lv_at hl 1 rfl) ?_
                        refine rM_sizeOf S0 hG h (by omega) dX11_sheet_117 ?_
                        refine tN (nI_cong (va_up_s _ _ _)) ?_
                        obtain rfl : k = 40 := by omega
                        exact hret _ (va_up bi xn yn, va_up si xn (if yn = 0 then 0 else zn), znu nu xn 40, st) _ _ _ _ (Or.inl ⟨⟨b1, by unfold okB; rw [nI_toInt yq]; omega⟩, Or.inr (Or.inr ⟨⟨(cz0 _).mp c37, (czn _ (by decide)).mp c51⟩, by simp only [iy, nt_nI zq], by simp only [nt_nI xq, nt_nI yq], by simp only [iy, nt_nI xq, nt_nI zq], by simp only [nt_nI xq], rfl⟩)⟩) h dX11_sheet_118
                      ·
                        refine lv_aload_n hx hb dX11_sheet_93 rfl (lv_at hl 0 rfl) ?_
                        refine gM_numbers S0 hG h dX11_sheet_94 ?_
                        refine lv_bipush (v := nI 40) hx hb dX11_sheet_97 (by decide) ?_
                        refine lv_iload_n hx hb dX11_sheet_99 rfl (lv_at hl 1 rfl) ?_
                        refine n_mul hx hb dX11_sheet_100 ?_
                        refine lv_iload hx hb dX11_sheet_101 (lv_at hl 4 rfl) ?_
                        refine n_add hx hb dX11_sheet_103 ?_
                        refine lv_lconst (v := 0) hx hb dX11_sheet_104 (by decide) ?_
                        refine sM_numbers S0 hG h (by omega) dX11_sheet_105 (fun H locs h => ?_)
                        refine lv_iinc hx hb dX11_sheet_106 hl (k := 4) rfl (inc_1 _) (by decide) rfl (fun ls hl => ?_)
                        refine lv_goto (tgt := 86) hx hb dX11_sheet_109 (by decide) ?_
                        exact ih86 (k + 1) _ _ _ (by omega) (by omega) (h.eq (by rw [znu_s])) (lv_sub hl [1, 2, 3, 4, 0] rfl)
                  exact lp86 _ 0 _ _ _ (by omega) (Nat.lt_succ_self _) (h.eq (by rw [znu_0]; first | rw [if_pos c74] | rw [if_neg (by omega)])) (lv_sub hl [1, 2, 3, 4, 0] rfl)
              ·
                refine lv_aload_n hx hb dX11_sheet_54 rfl (lv_at hl 0 rfl) ?_
                refine lv_ldc (v := -1000000001) hx hb S0.2.2.2.1 (S0.2.2.2.2 _ (rin6 _ (List.mem_of_getElem? (i := 21) rfl))) dX11_sheet_55 ?_
                refine cV_i0 S0 hG hA h hl.1 kw_RX11_76 kdV_X11_finds (c_X11_finds (k := 0) (by decide) (by decide)) ⟨rfl, rfl, by decide, by decide, Nat.le_refl _, Nat.le_refl _⟩ rfl 11 0 rfl rfl rfl (Nat.le_of_ble_eq_true rfl) dX11_sheet_57 (fun _ => rfl) (fun r u H locs hq h => ?_)
                obtain rfl := hq
                exact hret _ (_, _, _, _) _ _ _ _ (Or.inl ⟨⟨b1, by unfold okB; rw [nI_toInt yq]; omega⟩, Or.inr (Or.inl ⟨Int.not_le.mp (fun z9 => c51 ((czn z (by decide)).mpr z9)), rfl, rfl, rfl, rfl, rfl⟩)⟩) h dX11_sheet_60
            ·
              refine lv_aload_n hx hb dX11_sheet_40 rfl (lv_at hl 0 rfl) ?_
              refine lv_ldcw (v := -1000000007) hx hb S0.2.2.2.1 (S0.2.2.2.2 _ (rin36 _ (List.mem_of_getElem? (i := 12) rfl))) dX11_sheet_41 ?_
              refine cV_i0 S0 hG hA h hl.1 kw_RX11_76 kdV_X11_finds (c_X11_finds (k := 6) (by decide) (by decide)) ⟨rfl, rfl, by decide, by decide, Nat.le_refl _, Nat.le_refl _⟩ rfl 11 0 rfl rfl rfl (Nat.le_of_ble_eq_true rfl) dX11_sheet_44 (fun _ => rfl) (fun r u H locs hq h => ?_)
              obtain rfl := hq
              exact hret _ (_, _, _, _) _ _ _ _ (Or.inl ⟨⟨b1, by unfold okB; rw [nI_toInt yq]; omega⟩, Or.inl ⟨Int.not_le.mp (fun z9 => c37 ((cz0 z).mpr z9)), rfl, rfl, rfl, rfl, rfl⟩⟩) h dX11_sheet_47
          ·
            refine lv_aload_n hx hb dX11_sheet_29 rfl (lv_at hl 0 rfl) ?_
            refine lv_ldc (v := -1000000001) hx hb S0.2.2.2.1 (S0.2.2.2.2 _ (rin6 _ (List.mem_of_getElem? (i := 21) rfl))) dX11_sheet_30 ?_
            refine cV_i0 S0 hG hA h hl.1 kw_RX11_76 kdV_X11_finds (c_X11_finds (k := 0) (by decide) (by decide)) ⟨rfl, rfl, by decide, by decide, Nat.le_refl _, Nat.le_refl _⟩ rfl 11 0 rfl rfl rfl (Nat.le_of_ble_eq_true rfl) dX11_sheet_32 (fun _ => rfl) (fun r u H locs hq h => ?_)
            obtain rfl := hq
            exact hret _ (_, _, _, _) _ _ _ _ (Or.inr ⟨by first | exact fun q => b1 q.1 | exact fun q => by obtain ⟨q1, q2⟩ := q; rcases q2 with z | z | z | z; exact c8 ((ceq y (n := 0) (by decide)).mpr z); exact c14 ((ceq y (n := 8) (by decide)).mpr z); exact c20 ((ceq y (n := 16) (by decide)).mpr z); exact c26 ((ceq y (n := 64) (by decide)).mpr z), rfl, rfl, rfl, rfl, rfl⟩) h dX11_sheet_35
  ·
    refine n_zeq hx hb (by decide) (tgt := 29) dX11_sheet_4 (by decide) (fun _ => ?_) (fun q => absurd q (by decide))
    refine lv_aload_n hx hb dX11_sheet_29 rfl (lv_at hl 0 rfl) ?_
    refine lv_ldc (v := -1000000001) hx hb S0.2.2.2.1 (S0.2.2.2.2 _ (rin6 _ (List.mem_of_getElem? (i := 21) rfl))) dX11_sheet_30 ?_
    refine cV_i0 S0 hG hA h hl.1 kw_RX11_76 kdV_X11_finds (c_X11_finds (k := 0) (by decide) (by decide)) ⟨rfl, rfl, by decide, by decide, Nat.le_refl _, Nat.le_refl _⟩ rfl 11 0 rfl rfl rfl (Nat.le_of_ble_eq_true rfl) dX11_sheet_32 (fun _ => rfl) (fun r u H locs hq h => ?_)
    obtain rfl := hq
    exact hret _ (_, _, _, _) _ _ _ _ (Or.inr ⟨by first | exact fun q => b1 q.1 | exact fun q => by obtain ⟨q1, q2⟩ := q; rcases q2 with z | z | z | z; exact c8 ((ceq y (n := 0) (by decide)).mpr z); exact c14 ((ceq y (n := 8) (by decide)).mpr z); exact c20 ((ceq y (n := 16) (by decide)).mpr z); exact c26 ((ceq y (n := 64) (by decide)).mpr z), rfl, rfl, rfl, rfl, rfl⟩) h dX11_sheet_35
theorem kw_RX11_287 : GoodIn wsL_law (wsV RX11 287 RX11 yX11_wrongSheet (WS yX11_wrongSheet cX11_wrongSheet 2 (some .int))) := gV (rin37 _ (List.mem_of_getElem? (i := 12) rfl)) (rin37 _ (List.mem_of_getElem? (i := 13) rfl)) (rin37 _ (List.mem_of_getElem? (i := 14) rfl)) (rin1 _ (List.mem_of_getElem? (i := 5) rfl)) (rin37 _ (List.mem_of_getElem? (i := 15) rfl))
theorem kw_RX11_290 : GoodIn wsL_law (va_wsS RX11 290 yX11_narrowed (WS yX11_narrowed cX11_narrowed 3 (some .long))) := gS (rin37 _ (List.mem_of_getElem? (i := 17) rfl)) (rin37 _ (List.mem_of_getElem? (i := 18) rfl)) (rin1 _ (List.mem_of_getElem? (i := 5) rfl)) (rin37 _ (List.mem_of_getElem? (i := 19) rfl))
theorem kdV_X11_wrongSheet : yX11_wrongSheet.cls = RX11 ∧ yX11_wrongSheet.cls ≠ "java/lang/invoke/MethodHandle" ∧ yX11_wrongSheet.cls ≠ "java/lang/invoke/VarHandle" ∧ (parseMethodDescriptor yX11_wrongSheet.desc).map (fun d => d.parameters.length) = some 1 := ⟨rfl, by decide +kernel, by decide +kernel, by decide +kernel⟩
theorem kdS_X11_narrowed : yX11_narrowed.cls ≠ "java/lang/invoke/MethodHandle" ∧ yX11_narrowed.cls ≠ "java/lang/invoke/VarHandle" ∧ (parseMethodDescriptor yX11_narrowed.desc).map (fun d => d.parameters.length) = some 2 := ⟨by decide +kernel, by decide +kernel, by decide +kernel⟩
set_option maxHeartbeats 4000000 in
set_option maxRecDepth 100000 in
theorem c_X11_write {x y : Int32} {v : Int64} (hSh : ShI bi si) : Kl G l yX11_write cX11_write 8 (some .long) (RM 4 66) [.ref (a 0), .int x, .int y, .long v] (wM G a f g o d st du tb bi si nu mo kp it tn fr to vl wr) (fun u : (Nat → Int64) × (Nat → Nat) => wM G a f g o d u.2 du tb bi si u.1 mo kp it tn fr to vl wr) (fun r u => P_write bi si nu st x y v r u.1 u.2) := by
  refine Kl.of (by decide) (Nat.le_of_ble_eq_true rfl) ?_
  intro p e s m args below meth c A Q ls hx hb S0 hG hA h hret hl
  have S0 : CF p m c cX11_write 8 s args RX11 := S0
  have hl : lv_has ls 8 [(0, .ref (a 0)), (1, .int x), (2, .int y), (3, .long v)] := hl
  refine lv_aload_n hx hb dX11_write_0 rfl (lv_at hl 0 rfl) ?_
  refine lv_iload_n hx hb dX11_write_1 rfl (lv_at hl 1 rfl) ?_
  refine cV_i0 S0 hG hA h hl.1 kw_RX11_287 kdV_X11_wrongSheet (c_X11_wrongSheet hSh) ⟨rfl, rfl, by decide, by decide, Nat.le_refl _, Nat.le_refl _⟩ rfl 11 0 rfl rfl rfl (Nat.le_of_ble_eq_true rfl) dX11_write_2 (fun _ => rfl) (fun r u H locs hq h => ?_)
  rcases hq with ⟨rfl, b2⟩ | ⟨rfl, b2, m2⟩ | ⟨rfl, b2, m2⟩
  ·
    refine lv_istore hx hb dX11_write_5 hl (by decide) rfl (fun ls hl => ?_)
    refine lv_iload hx hb dX11_write_7 (lv_at hl 0 rfl) ?_
    refine lv_if_eq hx hb (tgt := 20) dX11_write_9 (by decide) (fun c9 => absurd c9 (by decide)) (fun c9 => ?_)
    refine lv_aload_n hx hb dX11_write_12 rfl (lv_at hl 1 rfl) ?_
    refine lv_iload hx hb dX11_write_13 (lv_at hl 0 rfl) ?_
    refine cV_i0 S0 hG hA h hl.1 kw_RX11_76 kdV_X11_finds (c_X11_finds (k := 0) (by decide) (by decide)) ⟨rfl, rfl, by decide, by decide, Nat.le_refl _, Nat.le_refl _⟩ rfl 11 0 rfl rfl rfl (Nat.le_of_ble_eq_true rfl) dX11_write_15 (fun _ => rfl) (fun r u H locs hq h => ?_)
    obtain rfl := hq
    refine lv_i2l hx hb dX11_write_18 rfl ?_
    exact hret _ (_, _) _ _ _ _ (Or.inl ⟨b2, rfl, rfl, rfl⟩) h dX11_write_19
  ·
    refine lv_istore hx hb dX11_write_5 hl (by decide) rfl (fun ls hl => ?_)
    refine lv_iload hx hb dX11_write_7 (lv_at hl 0 rfl) ?_
    refine lv_if_eq hx hb (tgt := 20) dX11_write_9 (by decide) (fun c9 => absurd c9 (by decide)) (fun c9 => ?_)
    refine lv_aload_n hx hb dX11_write_12 rfl (lv_at hl 1 rfl) ?_
    refine lv_iload hx hb dX11_write_13 (lv_at hl 0 rfl) ?_
    refine cV_i0 S0 hG hA h hl.1 kw_RX11_76 kdV_X11_finds (c_X11_finds (k := 5) (by decide) (by decide)) ⟨rfl, rfl, by decide, by decide, Nat.le_refl _, Nat.le_refl _⟩ rfl 11 0 rfl rfl rfl (Nat.le_of_ble_eq_true rfl) dX11_write_15 (fun _ => rfl) (fun r u H locs hq h => ?_)
    obtain rfl := hq
    refine lv_i2l hx hb dX11_write_18 rfl ?_
    exact hret _ (_, _) _ _ _ _ (Or.inr (Or.inl ⟨⟨b2, m2⟩, rfl, rfl, rfl⟩)) h dX11_write_19
  ·
    obtain ⟨xn, rfl, xh, xq⟩ := inR_nat (x := x) ⟨Int.le_trans (by decide) b2.1, b2.2⟩
    have xr := (inR_n xq).mp b2
    rw [nt_nI xq] at m2
    have s9 := hSh xn (by omega)
    refine lv_istore hx hb dX11_write_5 hl (by decide) rfl (fun ls hl => ?_)
    refine lv_iload hx hb dX11_write_7 (lv_at hl 0 rfl) ?_
    refine n_zeq hx hb (by decide) (tgt := 20) dX11_write_9 (by decide) (fun _ => ?_) (fun q => absurd q (by decide))
    refine lv_iload_n hx hb dX11_write_20 rfl (lv_at hl 3 rfl) ?_
    refine lv_i2l hx hb dX11_write_21 rfl ?_
    refine lv_lconst (v := 0) hx hb dX11_write_22 (by decide) ?_
    refine lv_aload_n hx hb dX11_write_23 rfl (lv_at hl 1 rfl) ?_
    refine gM_sizeOf S0 hG h dX11_write_24 ?_
    refine lv_iload_n hx hb dX11_write_27 rfl (lv_at hl 2 rfl) ?_
    refine rM_sizeOf S0 hG h (by omega) dX11_write_28 ?_
    refine lv_iconst (v := nI 1) hx hb dX11_write_29 (by decide) ?_
    refine lv_isub hx hb dX11_write_30 ?_
    refine lv_i2l hx hb dX11_write_31 rfl ?_
    refine cS_iE S0 hG hA h hl.1 kw_RX11_49 kdS_X11_in (c_X11_in) ⟨rfl, rfl, by decide, by decide, Nat.le_refl _, Nat.le_refl _⟩ rfl rfl (Nat.le_of_ble_eq_true rfl) dX11_write_32 (fun r u H locs hq h => ?_)
    rcases hq with ⟨rfl, b32⟩ | ⟨rfl, b32⟩
    ·
      have e9 : (nI (si xn) - nI 1).toInt = (si xn : Int) - 1 := pk_sub_toInt (by omega) (by omega)
      have b32 : inR y 0 ((si xn : Int) - 1) := by simpa [inR, i2l_toInt, e9] using b32
      obtain ⟨yn, rfl, yh, yq⟩ := inR_nat (x := y) ⟨Int.le_trans (by decide) b32.1, b32.2⟩
      have yr := (inR_n yq).mp b32
      refine n_zne hx hb (by decide) (tgt := 46) dX11_write_35 (by decide) (fun _ => ?_) (fun q => absurd q (by decide))
      refine lv_aload_n hx hb dX11_write_46 rfl (lv_at hl 1 rfl) ?_
      refine gM_numbers S0 hG h dX11_write_47 ?_
      refine lv_bipush (v := nI 40) hx hb dX11_write_50 (by decide) ?_
      refine lv_iload_n hx hb dX11_write_52 rfl (lv_at hl 2 rfl) ?_
      refine n_mul hx hb dX11_write_53 ?_
      refine lv_iload_n hx hb dX11_write_54 rfl (lv_at hl 3 rfl) ?_
      refine n_add hx hb dX11_write_55 ?_
      refine rM_numbers S0 hG h (by omega) dX11_write_56 ?_
      refine lv_lstore hx hb dX11_write_57 hl (by decide) rfl (fun ls hl => ?_)
      refine lv_aload_n hx hb dX11_write_59 rfl (lv_at hl 2 rfl) ?_
      refine gM_numbers S0 hG h dX11_write_60 ?_
      refine lv_bipush (v := nI 40) hx hb dX11_write_63 (by decide) ?_
      refine lv_iload_n hx hb dX11_write_65 rfl (lv_at hl 3 rfl) ?_
      refine n_mul hx hb dX11_write_66 ?_
      refine lv_iload_n hx hb dX11_write_67 rfl (lv_at hl 4 rfl) ?_
      refine n_add hx hb dX11_write_68 ?_
      refine lv_aload_n hx hb dX11_write_69 rfl (lv_at hl 2 rfl) ?_
      refine gM_bitsOf S0 hG h dX11_write_70 ?_
      refine lv_iload_n hx hb dX11_write_73 rfl (lv_at hl 3 rfl) ?_
      refine rM_bitsOf S0 hG h (by omega) dX11_write_74 ?_
      refine lv_lload_n hx hb dX11_write_75 rfl (lv_at hl 5 rfl) ?_
      refine cS_lE S0 hG hA h hl.1 kw_RX11_290 kdS_X11_narrowed (c_X11_narrowed (by omega)) ⟨rfl, rfl, by decide, by decide, Nat.le_refl _, Nat.le_refl _⟩ rfl rfl (Nat.le_of_ble_eq_true rfl) dX11_write_76 (fun r u H locs hq h => ?_)
      obtain rfl := hq
      refine sM_numbers S0 hG h (by omega) dX11_write_79 (fun H locs h => ?_)
      refine lv_lload hx hb dX11_write_80 (lv_at hl 0 rfl) ?_
      exact hret _ (vp_updL nu (40 * xn + yn) (nar (bi xn) v), st) _ _ _ _ (Or.inr (Or.inr ⟨⟨b2, by rw [nt_nI xq]; exact m2⟩, Or.inl ⟨by rw [nt_nI xq]; exact b32, by rw [nt_nI xq, nt_nI yq], by rw [nt_nI xq, nt_nI yq], rfl⟩⟩)) h dX11_write_82
    ·
      have e9 : (nI (si xn) - nI 1).toInt = (si xn : Int) - 1 := pk_sub_toInt (by omega) (by omega)
      have b32 : ¬ inR y 0 ((si xn : Int) - 1) := by simpa [inR, i2l_toInt, e9] using b32
      refine n_zne hx hb (by decide) (tgt := 46) dX11_write_35 (by decide) (fun q => absurd q (by decide)) (fun _ => ?_)
      refine lv_aload_n hx hb dX11_write_38 rfl (lv_at hl 1 rfl) ?_
      refine lv_ldc (v := -1000000001) hx hb S0.2.2.2.1 (S0.2.2.2.2 _ (rin6 _ (List.mem_of_getElem? (i := 21) rfl))) dX11_write_39 ?_
      refine cV_i0 S0 hG hA h hl.1 kw_RX11_76 kdV_X11_finds (c_X11_finds (k := 0) (by decide) (by decide)) ⟨rfl, rfl, by decide, by decide, Nat.le_refl _, Nat.le_refl _⟩ rfl 11 0 rfl rfl rfl (Nat.le_of_ble_eq_true rfl) dX11_write_41 (fun _ => rfl) (fun r u H locs hq h => ?_)
      obtain rfl := hq
      refine lv_i2l hx hb dX11_write_44 rfl ?_
      exact hret _ (_, _) _ _ _ _ (Or.inr (Or.inr ⟨⟨b2, by rw [nt_nI xq]; exact m2⟩, Or.inr ⟨by rw [nt_nI xq]; exact b32, rfl, rfl, rfl⟩⟩)) h dX11_write_45
set_option maxHeartbeats 4000000 in
set_option maxRecDepth 100000 in
theorem c_X11_copy {x y z w n : Int32} (hSh : ShI bi si) : Ki G l yX11_copy cX11_copy 7 (some .int) (RM 3 45) [.ref (a 0), .int x, .int y, .int z, .int w, .int n] (wM G a f g o d st du tb bi si nu mo kp it tn fr to vl wr) (fun u : (Nat → Int64) × (Nat → Nat) × (Nat → Int64) => wM G a f g o d u.2.1 du tb bi si u.1 u.2.2 kp it tn fr to vl wr) (fun r u => P_copy bi si nu st x y z w n r u.1 u.2.1) := by
  refine Ki.of (by decide) (Nat.le_of_ble_eq_true rfl) ?_
  intro p e s m args below meth c A Q ls hx hb S0 hG hA h hret hl
  have S0 : CF p m c cX11_copy 7 s args RX11 := S0
  have hl : lv_has ls 7 [(0, .ref (a 0)), (1, .int x), (2, .int y), (3, .int z), (4, .int w), (5, .int n)] := hl
  refine lv_iload_n hx hb dX11_copy_0 rfl (lv_at hl 1 rfl) ?_
  refine cS_iE S0 hG hA h hl.1 kw_RX11_282 kdS_X11_isOne (c_X11_isOne) ⟨rfl, rfl, by decide, by decide, Nat.le_refl _, Nat.le_refl _⟩ rfl rfl (Nat.le_of_ble_eq_true rfl) dX11_copy_1 (fun r u H locs hq h => ?_)
  rcases hq with ⟨rfl, b1⟩ | ⟨rfl, b1⟩
  ·
    obtain ⟨xn, rfl, xh, xq⟩ := inR_nat (x := x) ⟨Int.le_trans (by decide) b1.1, b1.2⟩
    have xr := (inR_n xq).mp b1
    have s9 := hSh xn (by omega)
    refine n_zeq hx hb (by decide) (tgt := 14) dX11_copy_4 (by decide) (fun q => absurd q (by decide)) (fun _ => ?_)
    refine lv_iload_n hx hb dX11_copy_7 rfl (lv_at hl 3 rfl) ?_
    refine cS_iE S0 hG hA h hl.1 kw_RX11_282 kdS_X11_isOne (c_X11_isOne) ⟨rfl, rfl, by decide, by decide, Nat.le_refl _, Nat.le_refl _⟩ rfl rfl (Nat.le_of_ble_eq_true rfl) dX11_copy_8 (fun r u H locs hq h => ?_)
    rcases hq with ⟨rfl, b8⟩ | ⟨rfl, b8⟩
    ·
      obtain ⟨zn, rfl, zh, zq⟩ := inR_nat (x := z) ⟨Int.le_trans (by decide) b8.1, b8.2⟩
      have zr := (inR_n zq).mp b8
      have s8 := hSh zn (by omega)
      refine n_zne hx hb (by decide) (tgt := 21) dX11_copy_11 (by decide) (fun _ => ?_) (fun q => absurd q (by decide))
      refine lv_aload_n hx hb dX11_copy_21 rfl (lv_at hl 0 rfl) ?_
      refine gM_bitsOf S0 hG h dX11_copy_22 ?_
      refine lv_iload_n hx hb dX11_copy_25 rfl (lv_at hl 1 rfl) ?_
      refine rM_bitsOf S0 hG h (by omega) dX11_copy_26 ?_
      refine n_zeq hx hb (by omega) (tgt := 39) dX11_copy_27 (by decide) (fun c27 => ?_) (fun c27 => ?_)
      ·
        refine lv_aload_n hx hb dX11_copy_39 rfl (lv_at hl 0 rfl) ?_
        refine lv_ldcw (v := -1000000006) hx hb S0.2.2.2.1 (S0.2.2.2.2 _ (rin37 _ (List.mem_of_getElem? (i := 16) rfl))) dX11_copy_40 ?_
        refine cV_i0 S0 hG hA h hl.1 kw_RX11_76 kdV_X11_finds (c_X11_finds (k := 5) (by decide) (by decide)) ⟨rfl, rfl, by decide, by decide, Nat.le_refl _, Nat.le_refl _⟩ rfl 11 0 rfl rfl rfl (Nat.le_of_ble_eq_true rfl) dX11_copy_43 (fun _ => rfl) (fun r u H locs hq h => ?_)
        obtain rfl := hq
        exact hret _ (_, _, _) _ _ _ _ (Or.inr ⟨⟨b1, b8⟩, by rw [nt_nI xq, nt_nI zq]; exact Or.inl ⟨by omega, rfl, rfl, rfl⟩⟩) h dX11_copy_46
      ·
        refine lv_aload_n hx hb dX11_copy_30 rfl (lv_at hl 0 rfl) ?_
        refine gM_bitsOf S0 hG h dX11_copy_31 ?_
        refine lv_iload_n hx hb dX11_copy_34 rfl (lv_at hl 3 rfl) ?_
        refine rM_bitsOf S0 hG h (by omega) dX11_copy_35 ?_
        refine n_zne hx hb (by omega) (tgt := 47) dX11_copy_36 (by decide) (fun c36 => ?_) (fun c36 => ?_)
        ·
          refine lv_aload_n hx hb dX11_copy_47 rfl (lv_at hl 0 rfl) ?_
          refine gM_bitsOf S0 hG h dX11_copy_48 ?_
          refine lv_iload_n hx hb dX11_copy_51 rfl (lv_at hl 1 rfl) ?_
          refine rM_bitsOf S0 hG h (by omega) dX11_copy_52 ?_
          refine lv_aload_n hx hb dX11_copy_53 rfl (lv_at hl 0 rfl) ?_
          refine gM_bitsOf S0 hG h dX11_copy_54 ?_
          refine lv_iload_n hx hb dX11_copy_57 rfl (lv_at hl 3 rfl) ?_
          refine rM_bitsOf S0 hG h (by omega) dX11_copy_58 ?_
          refine n_ceq hx hb (by omega) (by omega) (tgt := 69) dX11_copy_59 (by decide) (fun c59 => ?_) (fun c59 => ?_)
          ·
            refine lv_iload_n hx hb dX11_copy_69 rfl (lv_at hl 2 rfl) ?_
            refine lv_if_lt hx hb (tgt := 110) dX11_copy_70 (by decide) (fun c70 => ?_) (fun c70 => ?_)
            ·
              refine lv_aload_n hx hb dX11_copy_110 rfl (lv_at hl 0 rfl) ?_
              refine lv_ldc (v := -1000000001) hx hb S0.2.2.2.1 (S0.2.2.2.2 _ (rin6 _ (List.mem_of_getElem? (i := 21) rfl))) dX11_copy_111 ?_
              refine cV_i0 S0 hG hA h hl.1 kw_RX11_76 kdV_X11_finds (c_X11_finds (k := 0) (by decide) (by decide)) ⟨rfl, rfl, by decide, by decide, Nat.le_refl _, Nat.le_refl _⟩ rfl 11 0 rfl rfl rfl (Nat.le_of_ble_eq_true rfl) dX11_copy_113 (fun _ => rfl) (fun r u H locs hq h => ?_)
              obtain rfl := hq
              exact hret _ (_, _, _) _ _ _ _ (Or.inr ⟨⟨b1, b8⟩, by rw [nt_nI xq, nt_nI zq]; exact Or.inr ⟨by omega, Or.inr ⟨c59, Or.inl ⟨fun q => by obtain ⟨q1, q2, q3, q4, q5⟩ := q; rw [nt_nI xq] at q4; rw [nt_nI zq] at q5; have := (clz y).mp c70; omega, rfl, rfl, rfl⟩⟩⟩⟩) h dX11_copy_116
            ·
              refine lv_iload hx hb dX11_copy_73 (lv_at hl 4 rfl) ?_
              refine lv_if_lt hx hb (tgt := 110) dX11_copy_75 (by decide) (fun c75 => ?_) (fun c75 => ?_)
              ·
                refine lv_aload_n hx hb dX11_copy_110 rfl (lv_at hl 0 rfl) ?_
                refine lv_ldc (v := -1000000001) hx hb S0.2.2.2.1 (S0.2.2.2.2 _ (rin6 _ (List.mem_of_getElem? (i := 21) rfl))) dX11_copy_111 ?_
                refine cV_i0 S0 hG hA h hl.1 kw_RX11_76 kdV_X11_finds (c_X11_finds (k := 0) (by decide) (by decide)) ⟨rfl, rfl, by decide, by decide, Nat.le_refl _, Nat.le_refl _⟩ rfl 11 0 rfl rfl rfl (Nat.le_of_ble_eq_true rfl) dX11_copy_113 (fun _ => rfl) (fun r u H locs hq h => ?_)
                obtain rfl := hq
                exact hret _ (_, _, _) _ _ _ _ (Or.inr ⟨⟨b1, b8⟩, by rw [nt_nI xq, nt_nI zq]; exact Or.inr ⟨by omega, Or.inr ⟨c59, Or.inl ⟨fun q => by obtain ⟨q1, q2, q3, q4, q5⟩ := q; rw [nt_nI xq] at q4; rw [nt_nI zq] at q5; have := (clz w).mp c75; omega, rfl, rfl, rfl⟩⟩⟩⟩) h dX11_copy_116
              ·
                refine lv_iload hx hb dX11_copy_78 (lv_at hl 5 rfl) ?_
                refine lv_if_lt hx hb (tgt := 110) dX11_copy_80 (by decide) (fun c80 => ?_) (fun c80 => ?_)
                ·
                  refine lv_aload_n hx hb dX11_copy_110 rfl (lv_at hl 0 rfl) ?_
                  refine lv_ldc (v := -1000000001) hx hb S0.2.2.2.1 (S0.2.2.2.2 _ (rin6 _ (List.mem_of_getElem? (i := 21) rfl))) dX11_copy_111 ?_
                  refine cV_i0 S0 hG hA h hl.1 kw_RX11_76 kdV_X11_finds (c_X11_finds (k := 0) (by decide) (by decide)) ⟨rfl, rfl, by decide, by decide, Nat.le_refl _, Nat.le_refl _⟩ rfl 11 0 rfl rfl rfl (Nat.le_of_ble_eq_true rfl) dX11_copy_113 (fun _ => rfl) (fun r u H locs hq h => ?_)
                  obtain rfl := hq
                  exact hret _ (_, _, _) _ _ _ _ (Or.inr ⟨⟨b1, b8⟩, by rw [nt_nI xq, nt_nI zq]; exact Or.inr ⟨by omega, Or.inr ⟨c59, Or.inl ⟨fun q => by obtain ⟨q1, q2, q3, q4, q5⟩ := q; rw [nt_nI xq] at q4; rw [nt_nI zq] at q5; have := (clz n).mp c80; omega, rfl, rfl, rfl⟩⟩⟩⟩) h dX11_copy_116
                ·
                  refine lv_iload hx hb dX11_copy_83 (lv_at hl 5 rfl) ?_
                  have y0 : 0 ≤ y.toInt := Int.not_lt.mp (fun z9 => c70 ((clz y).mpr z9))
                  have w0 : 0 ≤ w.toInt := Int.not_lt.mp (fun z9 => c75 ((clz w).mpr z9))
                  have n0 : 0 ≤ n.toInt := Int.not_lt.mp (fun z9 => c80 ((clz n).mpr z9))
                  have t1 := subT (s := si xn) (y := y) s9.1 y0
                  have t2 := subT (s := si zn) (y := w) s8.1 w0
                  refine lv_aload_n hx hb dX11_copy_85 rfl (lv_at hl 0 rfl) ?_
                  refine gM_sizeOf S0 hG h dX11_copy_86 ?_
                  refine lv_iload_n hx hb dX11_copy_89 rfl (lv_at hl 1 rfl) ?_
                  refine rM_sizeOf S0 hG h (by omega) dX11_copy_90 ?_
                  refine lv_iload_n hx hb dX11_copy_91 rfl (lv_at hl 2 rfl) ?_
                  refine lv_isub hx hb dX11_copy_92 ?_
                  refine lv_icmp_gt hx hb (tgt := 110) dX11_copy_93 (by decide) (fun c93 => ?_) (fun c93 => ?_)
                  ·
                    refine lv_aload_n hx hb dX11_copy_110 rfl (lv_at hl 0 rfl) ?_
                    refine lv_ldc (v := -1000000001) hx hb S0.2.2.2.1 (S0.2.2.2.2 _ (rin6 _ (List.mem_of_getElem? (i := 21) rfl))) dX11_copy_111 ?_
                    refine cV_i0 S0 hG hA h hl.1 kw_RX11_76 kdV_X11_finds (c_X11_finds (k := 0) (by decide) (by decide)) ⟨rfl, rfl, by decide, by decide, Nat.le_refl _, Nat.le_refl _⟩ rfl 11 0 rfl rfl rfl (Nat.le_of_ble_eq_true rfl) dX11_copy_113 (fun _ => rfl) (fun r u H locs hq h => ?_)
                    obtain rfl := hq
                    exact hret _ (_, _, _) _ _ _ _ (Or.inr ⟨⟨b1, b8⟩, by rw [nt_nI xq, nt_nI zq]; exact Or.inr ⟨by omega, Or.inr ⟨c59, Or.inl ⟨fun q => by obtain ⟨q1, q2, q3, q4, q5⟩ := q; rw [nt_nI xq] at q4; rw [nt_nI zq] at q5; have := Int32.lt_iff_toInt_lt.mp c93; omega, rfl, rfl, rfl⟩⟩⟩⟩) h dX11_copy_116
                  ·
                    refine lv_iload hx hb dX11_copy_96 (lv_at hl 5 rfl) ?_
                    refine lv_aload_n hx hb dX11_copy_98 rfl (lv_at hl 0 rfl) ?_
                    refine gM_sizeOf S0 hG h dX11_copy_99 ?_
                    refine lv_iload_n hx hb dX11_copy_102 rfl (lv_at hl 3 rfl) ?_
                    refine rM_sizeOf S0 hG h (by omega) dX11_copy_103 ?_
                    refine lv_iload hx hb dX11_copy_104 (lv_at hl 4 rfl) ?_
                    refine lv_isub hx hb dX11_copy_106 ?_
                    refine lv_icmp_le hx hb (tgt := 117) dX11_copy_107 (by decide) (fun c107 => ?_) (fun c107 => ?_)
                    ·
                      have c93 : ¬ (nI (si xn) - y).toInt < n.toInt := fun z9 => c93 (Int32.lt_iff_toInt_lt.mpr z9)
                      have c107 := Int32.le_iff_toInt_le.mp c107
                      rw [t1] at c93
                      rw [t2] at c107
                      obtain ⟨yn, rfl, yh, yq⟩ := inR_nat (x := y) (hi := 40) ⟨y0, by omega⟩
                      obtain ⟨wn, rfl, wh, wq⟩ := inR_nat (x := w) (hi := 40) ⟨w0, by omega⟩
                      obtain ⟨nn, rfl, nh, nq⟩ := inR_nat (x := n) (hi := 40) ⟨n0, by omega⟩
                      rw [nI_toInt yq] at c93
                      rw [nI_toInt nq] at c93 c107
                      rw [nI_toInt wq] at c107
                      refine lv_iconst (v := nI 0) hx hb dX11_copy_117 (by decide) ?_
                      refine lv_istore hx hb dX11_copy_118 hl (by decide) rfl (fun ls hl => ?_)
                      have lp120 : ∀ (kf : Nat) (k : Nat) (H : Heap) (locs : List Loc) (ls : Array Slot) (hk : k ≤ nn), nn - k < kf → WX G A s H locs (wM G a f g o d st du tb bi si nu (cpm nu mo (40 * xn + yn) k) kp it tn fr to vl wr) → lv_has ls 7 [(0, .ref (a 0)), (1, .int (nI xn)), (2, .int (nI yn)), (3, .int (nI zn)), (4, .int (nI wn)), (5, .int (nI nn)), (6, .int (nI k))] → W p l e (RM 3 45) s m args below meth c H locs 0 0 Q (F0 m 120 ls []) := by
                        intro kf
                        induction kf with
                        | zero => intro k H locs ls hk hm; exact absurd hm (Nat.not_lt_zero _)
                        | succ kf ih120 =>
                          intro k H locs ls hk hm h hl
                          refine lv_iload hx hb dX11_copy_120 (lv_at hl 6 rfl) ?_
                          refine lv_iload hx hb dX11_copy_122 (lv_at hl 5 rfl) ?_
                          refine n_cge hx hb (by omega) (by omega) (tgt := 154) dX11_copy_124 (by decide) (fun c124 => ?_) (fun c124 => ?_)
                          ·
                            refine lv_iconst (v := nI 0) hx hb dX11_copy_154 (by decide) ?_
                            refine lv_istore hx hb dX11_copy_155 hl (by decide) rfl (fun ls hl => ?_)
                            have lp157 : ∀ (kf : Nat) (k : Nat) (H : Heap) (locs : List Loc) (ls : Array Slot) (hk : k ≤ nn), nn - k < kf → WX G A s H locs (wM G a f g o d st du tb bi si (cpy nu (40 * xn + yn) (40 * zn + wn) k) (cpm nu mo (40 * xn + yn) nn) kp it tn fr to vl wr) → lv_has ls 7 [(0, .ref (a 0)), (1, .int (nI xn)), (2, .int (nI yn)), (3, .int (nI zn)), (4, .int (nI wn)), (5, .int (nI nn)), (6, .int (nI k))] → W p l e (RM 3 45) s m args below meth c H locs 0 0 Q (F0 m 157 ls []) := by
                              intro kf
                              induction kf with
                              | zero => intro k H locs ls hk hm; exact absurd hm (Nat.not_lt_zero _)
                              | succ kf ih157 =>
                                intro k H locs ls hk hm h hl
                                refine lv_iload hx hb dX11_copy_157 (lv_at hl 6 rfl) ?_
                                refine lv_iload hx hb dX11_copy_159 (lv_at hl 5 rfl) ?_
                                refine n_cge hx hb (by omega) (by omega) (tgt := 192) dX11_copy_161 (by decide) (fun c161 => ?_) (fun c161 => ?_)
                                ·
                                  refine lv_iload hx hb dX11_copy_192 (lv_at hl 5 rfl) ?_
                                  obtain rfl : k = nn := by omega
                                  exact hret _ (cpy nu (40 * xn + yn) (40 * zn + wn) k, st, _) _ _ _ _ (Or.inr ⟨⟨b1, b8⟩, by rw [nt_nI xq, nt_nI zq]; exact Or.inr ⟨by omega, Or.inr ⟨c59, Or.inr ⟨by unfold okC; rw [nI_toInt yq, nI_toInt wq, nI_toInt nq, nt_nI xq, nt_nI zq]; exact ⟨by omega, by omega, by omega, by omega, by omega⟩, rfl, by rw [nt_nI yq, nt_nI wq, nt_nI nq], rfl⟩⟩⟩⟩) h dX11_copy_194
                                ·
                                  refine lv_aload_n hx hb dX11_copy_164 rfl (lv_at hl 0 rfl) ?_
                                  refine gM_numbers S0 hG h dX11_copy_165 ?_
                                  refine lv_bipush (v := nI 40) hx hb dX11_copy_168 (by decide) ?_
                                  refine lv_iload_n hx hb dX11_copy_170 rfl (lv_at hl 3 rfl) ?_
                                  refine n_mul hx hb dX11_copy_171 ?_
                                  refine lv_iload hx hb dX11_copy_172 (lv_at hl 4 rfl) ?_
                                  refine n_add hx hb dX11_copy_174 ?_
                                  refine lv_iload hx hb dX11_copy_175 (lv_at hl 6 rfl) ?_
                                  refine n_add hx hb dX11_copy_177 ?_
                                  refine lv_aload_n hx hb dX11_copy_178 rfl (lv_at hl 0 rfl) ?_
                                  refine gM_moved S0 hG h dX11_copy_179 ?_
                                  refine lv_iload hx hb dX11_copy_182 (lv_at hl 6 rfl) ?_
                                  refine rM_moved S0 hG h (by omega) dX11_copy_184 ?_
                                  refine tL _ (cpm_in (by omega)) ?_
                                  refine sM_numbers S0 hG h (by omega) dX11_copy_185 (fun H locs h => ?_)
                                  refine lv_iinc hx hb dX11_copy_186 hl (k := 6) rfl (inc_1 _) (by decide) rfl (fun ls hl => ?_)
                                  refine lv_goto (tgt := 157) hx hb dX11_copy_189 (by decide) ?_
                                  exact ih157 (k + 1) _ _ _ (by omega) (by omega) (h.eq (by rw [cpy_s])) (lv_sub hl [1, 2, 3, 4, 5, 6, 0] rfl)
                            exact lp157 _ 0 _ _ _ (Nat.zero_le _) (Nat.lt_succ_self _) (h.eq (by rw [cpy_0, show k = nn by omega])) (lv_sub hl [1, 2, 3, 4, 5, 6, 0] rfl)
                          ·
                            refine lv_aload_n hx hb dX11_copy_127 rfl (lv_at hl 0 rfl) ?_
                            refine gM_moved S0 hG h dX11_copy_128 ?_
                            refine lv_iload hx hb dX11_copy_131 (lv_at hl 6 rfl) ?_
                            refine lv_aload_n hx hb dX11_copy_133 rfl (lv_at hl 0 rfl) ?_
                            refine gM_numbers S0 hG h dX11_copy_134 ?_
                            refine lv_bipush (v := nI 40) hx hb dX11_copy_137 (by decide) ?_
                            refine lv_iload_n hx hb dX11_copy_139 rfl (lv_at hl 1 rfl) ?_
                            refine n_mul hx hb dX11_copy_140 ?_
                            refine lv_iload_n hx hb dX11_copy_141 rfl (lv_at hl 2 rfl) ?_
                            refine n_add hx hb dX11_copy_142 ?_
                            refine lv_iload hx hb dX11_copy_143 (lv_at hl 6 rfl) ?_
                            refine n_add hx hb dX11_copy_145 ?_
                            refine rM_numbers S0 hG h (by omega) dX11_copy_146 ?_
                            refine sM_moved S0 hG h (by omega) dX11_copy_147 (fun H locs h => ?_)
                            refine lv_iinc hx hb dX11_copy_148 hl (k := 6) rfl (inc_1 _) (by decide) rfl (fun ls hl => ?_)
                            refine lv_goto (tgt := 120) hx hb dX11_copy_151 (by decide) ?_
                            exact ih120 (k + 1) _ _ _ (by omega) (by omega) (h.eq (by rw [cpm_s])) (lv_sub hl [1, 2, 3, 4, 5, 6, 0] rfl)
                      exact lp120 _ 0 _ _ _ (Nat.zero_le _) (Nat.lt_succ_self _) (h.eq (by rw [cpm_0])) (lv_sub hl [1, 2, 3, 4, 5, 6, 0] rfl)
                    ·
                      refine lv_aload_n hx hb dX11_copy_110 rfl (lv_at hl 0 rfl) ?_
                      refine lv_ldc (v := -1000000001) hx hb S0.2.2.2.1 (S0.2.2.2.2 _ (rin6 _ (List.mem_of_getElem? (i := 21) rfl))) dX11_copy_111 ?_
                      refine cV_i0 S0 hG hA h hl.1 kw_RX11_76 kdV_X11_finds (c_X11_finds (k := 0) (by decide) (by decide)) ⟨rfl, rfl, by decide, by decide, Nat.le_refl _, Nat.le_refl _⟩ rfl 11 0 rfl rfl rfl (Nat.le_of_ble_eq_true rfl) dX11_copy_113 (fun _ => rfl) (fun r u H locs hq h => ?_)
                      obtain rfl := hq
                      exact hret _ (_, _, _) _ _ _ _ (Or.inr ⟨⟨b1, b8⟩, by rw [nt_nI xq, nt_nI zq]; exact Or.inr ⟨by omega, Or.inr ⟨c59, Or.inl ⟨fun q => by obtain ⟨q1, q2, q3, q4, q5⟩ := q; rw [nt_nI xq] at q4; rw [nt_nI zq] at q5; have q9 : ¬ n.toInt ≤ (nI (si zn) - w).toInt := fun z9 => c107 (Int32.le_iff_toInt_le.mpr z9); omega, rfl, rfl, rfl⟩⟩⟩⟩) h dX11_copy_116
          ·
            refine lv_aload_n hx hb dX11_copy_62 rfl (lv_at hl 0 rfl) ?_
            refine lv_ldc (v := -1000000003) hx hb S0.2.2.2.1 (S0.2.2.2.2 _ (rin20 _ (List.mem_of_getElem? (i := 8) rfl))) dX11_copy_63 ?_
            refine cV_i0 S0 hG hA h hl.1 kw_RX11_76 kdV_X11_finds (c_X11_finds (k := 2) (by decide) (by decide)) ⟨rfl, rfl, by decide, by decide, Nat.le_refl _, Nat.le_refl _⟩ rfl 11 0 rfl rfl rfl (Nat.le_of_ble_eq_true rfl) dX11_copy_65 (fun _ => rfl) (fun r u H locs hq h => ?_)
            obtain rfl := hq
            exact hret _ (_, _, _) _ _ _ _ (Or.inr ⟨⟨b1, b8⟩, by rw [nt_nI xq, nt_nI zq]; exact Or.inr ⟨by omega, Or.inl ⟨c59, rfl, rfl, rfl⟩⟩⟩) h dX11_copy_68
        ·
          refine lv_aload_n hx hb dX11_copy_39 rfl (lv_at hl 0 rfl) ?_
          refine lv_ldcw (v := -1000000006) hx hb S0.2.2.2.1 (S0.2.2.2.2 _ (rin37 _ (List.mem_of_getElem? (i := 16) rfl))) dX11_copy_40 ?_
          refine cV_i0 S0 hG hA h hl.1 kw_RX11_76 kdV_X11_finds (c_X11_finds (k := 5) (by decide) (by decide)) ⟨rfl, rfl, by decide, by decide, Nat.le_refl _, Nat.le_refl _⟩ rfl 11 0 rfl rfl rfl (Nat.le_of_ble_eq_true rfl) dX11_copy_43 (fun _ => rfl) (fun r u H locs hq h => ?_)
          obtain rfl := hq
          exact hret _ (_, _, _) _ _ _ _ (Or.inr ⟨⟨b1, b8⟩, by rw [nt_nI xq, nt_nI zq]; exact Or.inl ⟨by omega, rfl, rfl, rfl⟩⟩) h dX11_copy_46
    ·
      refine n_zne hx hb (by decide) (tgt := 21) dX11_copy_11 (by decide) (fun q => absurd q (by decide)) (fun _ => ?_)
      refine lv_aload_n hx hb dX11_copy_14 rfl (lv_at hl 0 rfl) ?_
      refine lv_ldc (v := -1000000001) hx hb S0.2.2.2.1 (S0.2.2.2.2 _ (rin6 _ (List.mem_of_getElem? (i := 21) rfl))) dX11_copy_15 ?_
      refine cV_i0 S0 hG hA h hl.1 kw_RX11_76 kdV_X11_finds (c_X11_finds (k := 0) (by decide) (by decide)) ⟨rfl, rfl, by decide, by decide, Nat.le_refl _, Nat.le_refl _⟩ rfl 11 0 rfl rfl rfl (Nat.le_of_ble_eq_true rfl) dX11_copy_17 (fun _ => rfl) (fun r u H locs hq h => ?_)
      obtain rfl := hq
      exact hret _ (_, _, _) _ _ _ _ (Or.inl ⟨by first | exact fun q => b1 q.1 | exact fun q => b8 q.2, rfl, rfl, rfl⟩) h dX11_copy_20
  ·
    refine n_zeq hx hb (by decide) (tgt := 14) dX11_copy_4 (by decide) (fun _ => ?_) (fun q => absurd q (by decide))
    refine lv_aload_n hx hb dX11_copy_14 rfl (lv_at hl 0 rfl) ?_
    refine lv_ldc (v := -1000000001) hx hb S0.2.2.2.1 (S0.2.2.2.2 _ (rin6 _ (List.mem_of_getElem? (i := 21) rfl))) dX11_copy_15 ?_
    refine cV_i0 S0 hG hA h hl.1 kw_RX11_76 kdV_X11_finds (c_X11_finds (k := 0) (by decide) (by decide)) ⟨rfl, rfl, by decide, by decide, Nat.le_refl _, Nat.le_refl _⟩ rfl 11 0 rfl rfl rfl (Nat.le_of_ble_eq_true rfl) dX11_copy_17 (fun _ => rfl) (fun r u H locs hq h => ?_)
    obtain rfl := hq
    exact hret _ (_, _, _) _ _ _ _ (Or.inl ⟨by first | exact fun q => b1 q.1 | exact fun q => b8 q.2, rfl, rfl, rfl⟩) h dX11_copy_20
