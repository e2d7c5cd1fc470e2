theorem sR_0 {G : GT} {A : Nat → Prop} {s : State} (hG : GX G A s) : vk_R RX9 38 "score" (G.2.2.2.1 0) s := hG.2.1 0 ("ComposedInterval$Tape", 38, "score") rfl
theorem sR_1 {G : GT} {A : Nat → Prop} {s : State} (hG : GX G A s) : vk_R RX9 47 "bell" (G.2.2.2.1 1) s := hG.2.1 1 ("ComposedInterval$Tape", 47, "bell") rfl
theorem sR_2 {G : GT} {A : Nat → Prop} {s : State} (hG : GX G A s) : vk_R RX0 46 "enemy" (G.2.2.2.1 2) s := hG.2.1 2 ("ComposedInterval$Cast", 46, "enemy") rfl
theorem sR_3 {G : GT} {A : Nat → Prop} {s : State} (hG : GX G A s) : vk_R RX0 47 "singer" (G.2.2.2.1 3) s := hG.2.1 3 ("ComposedInterval$Cast", 47, "singer") rfl
theorem sR_4 {G : GT} {A : Nat → Prop} {s : State} (hG : GX G A s) : vk_R RX0 48 "late" (G.2.2.2.1 4) s := hG.2.1 4 ("ComposedInterval$Cast", 48, "late") rfl
theorem sR_5 {G : GT} {A : Nat → Prop} {s : State} (hG : GX G A s) : vk_R RX0 49 "diva" (G.2.2.2.1 5) s := hG.2.1 5 ("ComposedInterval$Cast", 49, "diva") rfl
theorem sR_6 {G : GT} {A : Nat → Prop} {s : State} (hG : GX G A s) : vk_R RX0 50 "rival" (G.2.2.2.1 6) s := hG.2.1 6 ("ComposedInterval$Cast", 50, "rival") rfl
theorem sR_7 {G : GT} {A : Nat → Prop} {s : State} (hG : GX G A s) : vk_R RX0 51 "guest" (G.2.2.2.1 7) s := hG.2.1 7 ("ComposedInterval$Cast", 51, "guest") rfl
theorem sR_8 {G : GT} {A : Nat → Prop} {s : State} (hG : GX G A s) : vk_R RX9 76 "quick" (G.2.2.2.1 8) s := hG.2.1 8 ("ComposedInterval$Tape", 76, "quick") rfl
/-- the tape, with the token at z looked at -/
abbrev wZ (G : GT) (t a : Nat → Nat) (tb : Row) (tn z : Nat) (f : Row) (q sp : Nat) (rg : Int32) (wd : Nat → Nat) (it : Nat) : va_W := wT G t a tb tn (tkK tb tn z) z (tkE tb tn z) (tkV tb tn z) f q sp rg wd it
theorem tkK_0 {tb : Row} {tn z : Nat} : tkK tb tn z = 0 ↔ tn ≤ z := by
  unfold tkK
  constructor
  · intro h
    split at h
    · assumption
    · split at h
      · omega
      · split at h
        · omega
        · split at h <;> omega
  · intro h; rw [if_pos h]
theorem tkK_1 {tb : Row} {tn z : Nat} : tkK tb tn z = 1 ↔ cL tb tn z = true := by
  unfold tkK
  constructor
  · intro h
    split at h
    · omega
    · split at h
      · assumption
      · split at h
        · omega
        · split at h <;> omega
  · intro h; rw [if_neg (by have := (cL_iff.mp h).1; omega), if_pos h]
theorem tkK_3 {tb : Row} {tn z : Nat} : tkK tb tn z = 3 ↔ z < tn ∧ tb z = 59 := by
  unfold tkK
  constructor
  · intro h
    split at h
    · omega
    · split at h
      · omega
      · split at h
        · omega
        · split at h
          · exact ⟨by omega, by assumption⟩
          · omega
  · intro h
    rw [if_neg (by omega), if_neg (fun q => by have := cL_iff.mp q; omega), if_neg (fun q => by have := cD_iff.mp q; omega), if_pos h.2]
theorem tRf {p : Program} {l : Launch} {e : Env} {R : Room} {s : State} {m : MethodId} {args : Array Value} {below : List Frame} {meth : Method} {c : Code} {H : Heap} {locs : List Loc} {cells slots : Nat} {Q : State → Prop} {pc : Nat} {ls : Array Slot} {rest : List Value} {x y : Nat} (e9 : x = y) (k : W p l e R s m args below meth c H locs cells slots Q (F0 m pc ls (.ref y :: rest))) : W p l e R s m args below meth c H locs cells slots Q (F0 m pc ls (.ref x :: rest)) := by subst e9; exact k
theorem tkV_D {tb : Row} {tn z : Nat} (h : cD tb tn z = true) : tkV tb tn z = val tb tn z := by unfold tkV; rw [if_pos h]
def nmI (j : Nat) : Nat := if j = 1 then 2 else if j = 2 then 3 else if j = 3 then 4 else if j = 4 then 5 else if j = 5 then 6 else 7
theorem nmI_lt (j : Nat) : nmI j < 9 := by
  unfold nmI
  repeat' split
  all_goals omega
theorem nmI_w {j : Nat} (h : j < 6) : SLw.getD (nmI j) [] = kWord j := (show ∀ j : Nat, j < 6 → SLw.getD (nmI j) [] = kWord j by decide) j h
def Cs (tb : Row) (tn : Nat) (f0 f1 : Row) (z i : Nat) : Prop := ∀ (n : Nat) (r : Int32) (f2 : Row), Par tb tn f0 n f1 z i r f2 → P_interval f0 tb tn r f2
theorem Cs_0 {tb : Row} {tn : Nat} {f : Row} : Cs tb tn f f (tkS tb tn 0) 1 := fun n _ _ h => ⟨n, h⟩
theorem Cs_s {tb : Row} {tn : Nat} {f0 f1 f2 : Row} {z s1 i : Nat} (h : Cs tb tn f0 f1 z i) (hi : Item tb tn f1 z True f2 s1) (h1 : s1 < tn) (h2 : tb s1 = 59) : Cs tb tn f0 f2 (nx tb tn s1) (i + 1) := fun n r f3 hp => h (n + 1) r f3 ⟨True, f2, s1, hi, Or.inr (Or.inr (Or.inr ⟨trivial, h1, h2, hp⟩))⟩
theorem Cs_bad {tb : Row} {tn : Nat} {f0 f1 f2 : Row} {z s1 i : Nat} (h : Cs tb tn f0 f1 z i) (hi : Item tb tn f1 z False f2 s1) : P_interval f0 tb tn (-1 - nI s1) f0 := h 1 _ _ ⟨False, f2, s1, hi, Or.inl ⟨fun q => q, rfl, rfl⟩⟩
theorem Cs_sign {tb : Row} {tn : Nat} {f0 f1 f2 : Row} {z s1 i : Nat} (h : Cs tb tn f0 f1 z i) (hi : Item tb tn f1 z True f2 s1) (h1 : s1 < tn) (h2 : tb s1 ≠ 59) : P_interval f0 tb tn (-1 - nI s1) f0 := h 1 _ _ ⟨True, f2, s1, hi, Or.inr (Or.inr (Or.inl ⟨trivial, h1, h2, rfl, rfl⟩))⟩
theorem Cs_end {tb : Row} {tn : Nat} {f0 f1 f2 : Row} {z s1 i : Nat} (h : Cs tb tn f0 f1 z i) (hi : Item tb tn f1 z True f2 s1) (h1 : tn ≤ s1) : P_interval f0 tb tn (nI i) f2 := h 1 _ _ ⟨True, f2, s1, hi, Or.inr (Or.inl ⟨trivial, h1, rfl, rfl⟩)⟩
theorem isW_end {tb : Row} {tn z : Nat} (h : tn ≤ z) {w : List Nat} : ¬ isW tb tn w z := fun q => by have := (cL_iff.mp q.1).1; omega
theorem Item_end {tb : Row} {tn z : Nat} {f f2 : Row} (h : tn ≤ z) : Item tb tn f z False f2 z := Or.inr (Or.inr (Or.inr ⟨fun _ _ => isW_end h, isW_end h, isW_end h, fun q => q, rfl⟩))
variable {G : GT} {l : Launch} {t a : Nat → Nat} {tb : Nat → Nat} {tn tk ts tx tv : Nat} {f : Nat → Nat} {q sp : Nat} {rg : Int32} {wd : Nat → Nat} {it : Nat}
theorem kw_RX9_82 : GoodIn wsL_law (wsV RX9 82 RJ0 yJ0_length_8abf5 (WS yJ0_length_8abf5 cJ0_length_8abf5 1 (some .int))) := gV (rin29 _ (List.mem_of_getElem? (i := 21) rfl)) (rin29 _ (List.mem_of_getElem? (i := 22) rfl)) (rin29 _ (List.mem_of_getElem? (i := 23) rfl)) (rin30 _ (List.mem_of_getElem? (i := 0) rfl)) (rin30 _ (List.mem_of_getElem? (i := 1) rfl))
theorem kw_RX9_87 : GoodIn wsL_law (wsV RX9 87 RJ0 yJ0_charAt_5068e (WS yJ0_charAt_5068e cJ0_charAt_5068e 2 (some .char))) := gV (rin30 _ (List.mem_of_getElem? (i := 9) rfl)) (rin30 _ (List.mem_of_getElem? (i := 10) rfl)) (rin30 _ (List.mem_of_getElem? (i := 11) rfl)) (rin30 _ (List.mem_of_getElem? (i := 0) rfl)) (rin30 _ (List.mem_of_getElem? (i := 12) rfl))
theorem kdV_J0_length_8abf5 : yJ0_length_8abf5.cls = RJ0 ∧ yJ0_length_8abf5.cls ≠ "java/lang/invoke/MethodHandle" ∧ yJ0_length_8abf5.cls ≠ "java/lang/invoke/VarHandle" ∧ (parseMethodDescriptor yJ0_length_8abf5.desc).map (fun d => d.parameters.length) = some 0 := ⟨rfl, by decide +kernel, by decide +kernel, by decide +kernel⟩
theorem kdV_J0_charAt_5068e : yJ0_charAt_5068e.cls = RJ0 ∧ yJ0_charAt_5068e.cls ≠ "java/lang/invoke/MethodHandle" ∧ yJ0_charAt_5068e.cls ≠ "java/lang/invoke/VarHandle" ∧ (parseMethodDescriptor yJ0_charAt_5068e.desc).map (fun d => d.parameters.length) = some 1 := ⟨rfl, by decide +kernel, by decide +kernel, by decide +kernel⟩
set_option maxHeartbeats 4000000 in
set_option maxRecDepth 100000 in
theorem c_X9_isWord {i : Nat} (hi : i < 9) {z : Nat} (hT : ∀ i, tb i < 256) (htn : tn ≤ 120) (hz : z ≤ tn) : Ki G l yX9_isWord cX9_isWord 3 (some .boolean) (RM 6 106) [.ref (t 0), .ref (G.2.2.2.1 i)] (wZ G t a tb tn z f q sp rg wd it) (fun u : Unit => wZ G t a tb tn z f q sp rg wd it) (fun r _ => (r = nI 1 ∧ isW tb tn (SLw.getD i []) z) ∨ (r = nI 0 ∧ ¬ isW tb tn (SLw.getD i []) z)) := by
  refine Ki.ofz (by decide) (Nat.le_of_ble_eq_true rfl) ?_
  intro p e s m args below meth c A Q ls hx hb S0 hG hA h hret hl
  have S0 : CF p m c cX9_isWord 3 s args RX9 := S0
  have hl : lv_has ls 3 [(0, .ref (t 0)), (1, .ref (G.2.2.2.1 i))] := hl
  have k4 := tkK_le tb tn z
  have e4 := tkE_le (tb := tb) hz
  have e5 := tkE_ge (tb := tb) (tn := tn) (s := z)
  have l6 := SL_len6 hi
  have hw : isW tb tn (SLw.getD i []) z ↔ cL tb tn z = true ∧ tkE tb tn z - z = SLlen.getD i 0 ∧ ∀ j, j < SLlen.getD i 0 → tb (z + j) = SLn i j := by
    unfold isW
    rw [isWr_iff, ← SL_len hi]
    constructor
    · rintro ⟨a1, a2, a3⟩; exact ⟨a1, a2, fun j hj => a3 j (by omega)⟩
    · rintro ⟨a1, a2, a3⟩; exact ⟨a1, a2, fun j hj => a3 j (by omega)⟩
  refine lv_aload_n hx hb dX9_isWord_0 rfl (lv_at hl 0 rfl) ?_
  refine gT_token S0 hG h dX9_isWord_1 ?_
  refine lv_iconst (v := nI 1) hx hb dX9_isWord_4 (by decide) ?_
  refine n_cne hx hb (by omega) (by omega) (tgt := 24) dX9_isWord_5 (by decide) (fun c5 => ?_) (fun c5 => ?_)
  ·
    refine lv_iconst (v := nI 0) hx hb dX9_isWord_24 (by decide) ?_
    exact hret _ () _ _ _ _ (by decide) (Or.inr ⟨rfl, fun z9 => c5 (tkK_1.mpr z9.1)⟩) h dX9_isWord_25
  ·
    refine lv_aload_n hx hb dX9_isWord_8 rfl (lv_at hl 0 rfl) ?_
    refine gT_next S0 hG h dX9_isWord_9 ?_
    refine lv_aload_n hx hb dX9_isWord_12 rfl (lv_at hl 0 rfl) ?_
    refine gT_start S0 hG h dX9_isWord_13 ?_
    refine n_sub hx hb e5 dX9_isWord_16 ?_
    refine lv_aload_n hx hb dX9_isWord_17 rfl (lv_at hl 1 rfl) ?_
    refine cK_iE S0 hG hA h hl.1 hi kw_RX9_82 kdV_J0_length_8abf5 (c_J0_length_8abf5 hi) ⟨rfl, rfl, by decide, by decide, Nat.le_refl _, Nat.le_refl _⟩ rfl rfl (Nat.le_of_ble_eq_true rfl) dX9_isWord_18 (fun r u H locs hq h => ?_)
    obtain rfl := hq
    refine n_ceq hx hb (by omega) (by omega) (tgt := 26) dX9_isWord_21 (by decide) (fun c21 => ?_) (fun c21 => ?_)
    ·
      refine lv_iconst (v := nI 0) hx hb dX9_isWord_26 (by decide) ?_
      refine lv_istore_n hx hb dX9_isWord_27 rfl hl (by decide) rfl (fun ls hl => ?_)
      have lp28 : ∀ (kf : Nat) (j : Nat) (H : Heap) (locs : List Loc) (ls : Array Slot) (hj1 : j ≤ SLlen.getD i 0) (hq1 : ∀ k, k < j → tb (z + k) = SLn i k), SLlen.getD i 0 - j < kf → WX G A s H locs (wZ G t a tb tn z f q sp rg wd it) → lv_has ls 3 [(0, .ref (t 0)), (1, .ref (G.2.2.2.1 i)), (2, .int (nI j))] → W p l e (RM 6 106) s m args below meth c H locs 0 0 Q (F0 m 28 ls []) := by
        intro kf
        induction kf with
        | zero => intro j H locs ls hj1 hq1 hm; exact absurd hm (Nat.not_lt_zero _)
        | succ kf ih28 =>
          intro j H locs ls hj1 hq1 hm h hl
          refine lv_iload_n hx hb dX9_isWord_28 rfl (lv_at hl 2 rfl) ?_
          refine lv_aload_n hx hb dX9_isWord_29 rfl (lv_at hl 1 rfl) ?_
          refine cK_iE S0 hG hA h hl.1 hi kw_RX9_82 kdV_J0_length_8abf5 (c_J0_length_8abf5 hi) ⟨rfl, rfl, by decide, by decide, Nat.le_refl _, Nat.le_refl _⟩ rfl rfl (Nat.le_of_ble_eq_true rfl) dX9_isWord_30 (fun r u H locs hq h => ?_)
          obtain rfl := hq
          refine n_cge hx hb (by omega) (by omega) (tgt := 63) dX9_isWord_33 (by decide) (fun c33 => ?_) (fun c33 => ?_)
          ·
            refine lv_iconst (v := nI 1) hx hb dX9_isWord_63 (by decide) ?_
            exact hret _ () _ _ _ _ (by decide) (Or.inl ⟨rfl, hw.mpr ⟨tkK_1.mp c5, c21, fun k hk => hq1 k (by omega)⟩⟩) h dX9_isWord_64
          ·
            have hj : j < SLlen.getD i 0 := by omega
            have hb9 := hT (z + j)
            have n9 := SL_n hi hj
            refine lv_aload_n hx hb dX9_isWord_36 rfl (lv_at hl 0 rfl) ?_
            refine gT_bytes S0 hG h dX9_isWord_37 ?_
            refine lv_aload_n hx hb dX9_isWord_40 rfl (lv_at hl 0 rfl) ?_
            refine gT_start S0 hG h dX9_isWord_41 ?_
            refine lv_iload_n hx hb dX9_isWord_44 rfl (lv_at hl 2 rfl) ?_
            refine n_add hx hb dX9_isWord_45 ?_
            refine rT_bytes S0 hG h (by omega) dX9_isWord_46 ?_
            refine lv_aload_n hx hb dX9_isWord_47 rfl (lv_at hl 1 rfl) ?_
            refine lv_iload_n hx hb dX9_isWord_48 rfl (lv_at hl 2 rfl) ?_
            refine cK_iE S0 hG hA h hl.1 hi kw_RX9_87 kdV_J0_charAt_5068e (c_J0_charAt_5068e hi hj) ⟨rfl, rfl, by decide, by decide, Nat.le_refl _, Nat.le_refl _⟩ rfl rfl (Nat.le_of_ble_eq_true rfl) dX9_isWord_49 (fun r u H locs hq h => ?_)
            obtain rfl := hq
            refine n_ceq hx hb (by omega) (by omega) (tgt := 57) dX9_isWord_52 (by decide) (fun c52 => ?_) (fun c52 => ?_)
            ·
              refine lv_iinc hx hb dX9_isWord_57 hl (k := 2) rfl (inc_1 _) (by decide) rfl (fun ls hl => ?_)
              refine lv_goto (tgt := 28) hx hb dX9_isWord_60 (by decide) ?_
              exact ih28 (j + 1) _ _ _ (by omega) (fun k hk => by by_cases e9 : k = j; rw [e9]; exact c52; exact hq1 k (by omega)) (by omega) h (lv_sub hl [1, 2, 0] rfl)
            ·
              refine lv_iconst (v := nI 0) hx hb dX9_isWord_55 (by decide) ?_
              exact hret _ () _ _ _ _ (by decide) (Or.inr ⟨rfl, fun z9 => c52 ((hw.mp z9).2.2 j hj)⟩) h dX9_isWord_56
      exact lp28 _ 0 _ _ _ (by omega) (fun k hk => absurd hk (by omega)) (Nat.lt_succ_self _) h (lv_sub hl [1, 2, 0] rfl)
    ·
      refine lv_iconst (v := nI 0) hx hb dX9_isWord_24 (by decide) ?_
      exact hret _ () _ _ _ _ (by decide) (Or.inr ⟨rfl, fun z9 => c21 (hw.mp z9).2.1⟩) h dX9_isWord_25
