/-! the start: what never changes holds there -/
abbrev FLT : List Cond := flatC (Jvm.Cond.and given_1 narrow_1)
def tmS : Nat → Term := fun i => .string (SL.getD i ("", 0, "")).1 (SL.getD i ("", 0, "")).2.1
theorem s_ex : ∀ i, i < 9 → Cond.exactly (tmS i) "java/lang/String" ∈ FLT := by decide +kernel
theorem s_co : ∀ i, i < 9 → Cond.eq (.field (tmS i) "java/lang/String" "coder" "B") (.int 0) ∈ FLT := by decide +kernel
theorem s_ar : ∀ i, i < 9 → Cond.arrayOf (.field (tmS i) "java/lang/String" "value" "[B") .byte ∈ FLT := by decide +kernel
theorem s_le : ∀ i, i < 9 → Cond.eq (.length (.field (tmS i) "java/lang/String" "value" "[B")) (.int (Int32.ofNat (SLlen.getD i 0))) ∈ FLT := by decide +kernel
theorem s_el : ∀ i, i < 9 → ∀ j, j < SLlen.getD i 0 → Cond.eq (.elem (.field (tmS i) "java/lang/String" "value" "[B") (.int (Int32.ofNat j))) (.int ((SLbyt.getD i []).getD j 0)) ∈ FLT := by decide +kernel
theorem s_ne : ∀ i, i < 9 → ∀ j, j < 9 → i ≠ j → (Cond.not (Cond.eq (tmS i) (tmS j)) ∈ FLT ∨ Cond.not (Cond.eq (tmS j) (tmS i)) ∈ FLT) := by decide +kernel
theorem a_el : ∀ j, j < 6 → Cond.eq (.elem (.static "ComposedInterval" "ABOVE" "[I") (.int (Int32.ofNat j))) (.int (abv j)) ∈ FLT := by decide +kernel
theorem isNest_on {w : Cond} (h : isNest w = true) : w.onTables = true := by
  cases w with
  | fieldLinkNest a i b n d k => rfl
  | methodLinkNest a i x k => rfl
  | methodLink a i x => rfl
  | sameMethod a b n d => rfl
  | _ => exact absurd h (by simp [isNest])
set_option maxHeartbeats 4000000 in
set_option maxRecDepth 100000 in
theorem start_G {s : State} {b : Nat} (hts : ∀ w ∈ lw_tbl, w.before #[Value.ref b] s = true) (hgv : (Jvm.Cond.and given_1 narrow_1).before #[Value.ref b] s = true) : ∃ G : GT, GX G (fun q => s.heap.size ≤ q) s := by
  have hs := flat_of_before _ hgv
  have hA9 : ∀ a : Nat, a < s.heap.size → ¬ (fun q : Nat => s.heap.size ≤ q) a := fun a h9 => Nat.not_le.mpr h9
  obtain ⟨adK, adV, hK9, hE9⟩ := vk_Sof (A := (fun q : Nat => s.heap.size ≤ q)) (tm := tmS) (len := SLlen) (byt := SLbyt) (N := 9) (by decide) (fun i hi => hs _ (s_ex i hi)) (fun i hi => hs _ (s_co i hi)) (fun i hi => hs _ (s_ar i hi)) (fun i hi => hs _ (s_le i hi)) (fun i hi j hj => hs _ (s_el i hi j hj)) (fun i j hi hj hij => (s_ne i hi j hj hij).imp (fun z => hs _ z) (fun z => hs _ z)) hA9
  obtain ⟨t, ht, hT⟩ := va_Tof (tm := .static "ComposedInterval" "ABOVE" "[I") (ty := .int) (N := 6) (f := fun j => .int (abv j)) (A := (fun q : Nat => s.heap.size ≤ q)) (by decide) (hs _ (by decide +kernel)) (va_eqt (hs _ (by decide +kernel))) (fun j hj => va_eqt (hs _ (a_el j hj))) hA9
  have hZ1 := va_Zref (hts (.laysStatic "ComposedInterval" "ABOVE" "[I") (List.mem_of_getElem? (i := 513) (by decide +kernel))) (hts (.initialized "ComposedInterval") (List.mem_of_getElem? (i := 72) (by decide +kernel))) ht hA9
  have hZ2 : va_Z "java/lang/String" "COMPACT_STRINGS" "Z" (.int 1) (fun q : Nat => s.heap.size ≤ q) s s.heap := va_Zof (hts (.laysStatic "java/lang/String" "COMPACT_STRINGS" "Z") (List.mem_of_getElem? (i := 648) (by decide +kernel))) (hts (.initialized "java/lang/String") (List.mem_of_getElem? (i := 86) (by decide +kernel))) (va_eqt (hs _ (by decide +kernel))) hA9
  have hZ3 : va_Zq "jdk/internal/util/Preconditions" "SIOOBE_FORMATTER" "Ljava/util/function/BiFunction;" (fun q : Nat => s.heap.size ≤ q) s s.heap := va_Zqof (hts (.laysStatic "jdk/internal/util/Preconditions" "SIOOBE_FORMATTER" "Ljava/util/function/BiFunction;") (List.mem_of_getElem? (i := 664) (by decide +kernel))) (hts (.initialized "jdk/internal/util/Preconditions") (List.mem_of_getElem? (i := 88) (by decide +kernel))) (hs _ (by decide +kernel)) hA9
  obtain ⟨c0, i0, k0⟩ := u_known (ws := lw_tbl) hts uin0 (hts (.instantiable RX0 6) (List.mem_of_getElem? (i := 129) (by decide +kernel)))
  obtain ⟨c1, i1, k1⟩ := u_known (ws := lw_tbl) hts uin1 (hts (.instantiable RX1 0) (List.mem_of_getElem? (i := 163) (by decide +kernel)))
  obtain ⟨c2, i2, k2⟩ := u_known (ws := lw_tbl) hts uin2 (hts (.instantiable RX2 0) (List.mem_of_getElem? (i := 142) (by decide +kernel)))
  obtain ⟨c3, i3, k3⟩ := u_known (ws := lw_tbl) hts uin3 (hts (.instantiable RX3 15) (List.mem_of_getElem? (i := 196) (by decide +kernel)))
  obtain ⟨c4, i4, k4⟩ := u_known (ws := lw_tbl) hts uin4 (hts (.instantiable RX4 0) (List.mem_of_getElem? (i := 135) (by decide +kernel)))
  obtain ⟨c5, i5, k5⟩ := u_known (ws := lw_tbl) hts uin5 (hts (.instantiable RX5 0) (List.mem_of_getElem? (i := 156) (by decide +kernel)))
  obtain ⟨c6, i6, k6⟩ := u_known (ws := lw_tbl) hts uin6 (hts (.instantiable RX6 0) (List.mem_of_getElem? (i := 170) (by decide +kernel)))
  obtain ⟨c7, i7, k7⟩ := u_known (ws := lw_tbl) hts uin7 (hts (.instantiable RX7 3) (List.mem_of_getElem? (i := 272) (by decide +kernel)))
  obtain ⟨c8, i8, k8⟩ := u_known (ws := lw_tbl) hts uin8 (hts (.instantiable RX8 0) (List.mem_of_getElem? (i := 149) (by decide +kernel)))
  obtain ⟨c9, i9, k9⟩ := u_known (ws := lw_tbl) hts uin9 (hts (.instantiable RX9 6) (List.mem_of_getElem? (i := 100) (by decide +kernel)))
  obtain ⟨c10, i10, k10⟩ := u_known (ws := lw_tbl) hts uin10 (hts (.instantiable RX10 7) (List.mem_of_getElem? (i := 92) (by decide +kernel)))
  obtain ⟨c11, i11, k11⟩ := u_known (ws := lw_tbl) hts uin11 (hts (.instantiable RX11 18) (List.mem_of_getElem? (i := 796) (by decide +kernel)))
  obtain ⟨cI, kI, mI, hI1, hI2, hI3⟩ := Cond.arrayClass_spec (hts (.arrayClass .int) (List.mem_of_getElem? (i := 125) (by decide +kernel)))
  obtain ⟨cJ, kJ, mJ, hJ1, hJ2, hJ3⟩ := Cond.arrayClass_spec (hts (.arrayClass .long) (List.mem_of_getElem? (i := 290) (by decide +kernel)))
  obtain ⟨mS, cS, kS, hS1, hS2, hS3, hS4, hS5⟩ := Cond.arrayOver_spec (hts (.arrayOver (.object "ComposedInterval$Sheet")) (List.mem_of_getElem? (i := 127) (by decide +kernel)))
  refine ⟨((fun c => [c0, c1, c2, c3, c4, c5, c6, c7, c8, c9, c10, c11].getD c c0, fun c => [i0, i1, i2, i3, i4, i5, i6, i7, i8, i9, i10, i11].getD c i0), (cI, cJ, cS), t, adK, adV), fun w hw => va_Nw.of (isNest_on (List.all_eq_true.mp NW_nest w hw)) (hts w (NW_in w hw)), ?_, ⟨?_, ?_⟩, hZ1, hT, hK9, hZ2, hZ3⟩
  · intro i q hq
    match i, hq with
    | 0, hq => cases hq; exact vk_R.of (hts (.stringRef "ComposedInterval$Tape" 38 "score") (List.mem_of_getElem? (i := 634) (by decide +kernel))) (hE9 0 (by decide))
    | 1, hq => cases hq; exact vk_R.of (hts (.stringRef "ComposedInterval$Tape" 47 "bell") (List.mem_of_getElem? (i := 695) (by decide +kernel))) (hE9 1 (by decide))
    | 2, hq => cases hq; exact vk_R.of (hts (.stringRef "ComposedInterval$Cast" 46 "enemy") (List.mem_of_getElem? (i := 703) (by decide +kernel))) (hE9 2 (by decide))
    | 3, hq => cases hq; exact vk_R.of (hts (.stringRef "ComposedInterval$Cast" 47 "singer") (List.mem_of_getElem? (i := 704) (by decide +kernel))) (hE9 3 (by decide))
    | 4, hq => cases hq; exact vk_R.of (hts (.stringRef "ComposedInterval$Cast" 48 "late") (List.mem_of_getElem? (i := 705) (by decide +kernel))) (hE9 4 (by decide))
    | 5, hq => cases hq; exact vk_R.of (hts (.stringRef "ComposedInterval$Cast" 49 "diva") (List.mem_of_getElem? (i := 706) (by decide +kernel))) (hE9 5 (by decide))
    | 6, hq => cases hq; exact vk_R.of (hts (.stringRef "ComposedInterval$Cast" 50 "rival") (List.mem_of_getElem? (i := 707) (by decide +kernel))) (hE9 6 (by decide))
    | 7, hq => cases hq; exact vk_R.of (hts (.stringRef "ComposedInterval$Cast" 51 "guest") (List.mem_of_getElem? (i := 708) (by decide +kernel))) (hE9 7 (by decide))
    | 8, hq => cases hq; exact vk_R.of (hts (.stringRef "ComposedInterval$Tape" 76 "quick") (List.mem_of_getElem? (i := 713) (by decide +kernel))) (hE9 8 (by decide))
    | n + 9, hq => simp [SL] at hq
  · intro k q hq
    match k, hq with
    | 0, hq => cases hq; exact k0
    | 1, hq => cases hq; exact k1
    | 2, hq => cases hq; exact k2
    | 3, hq => cases hq; exact k3
    | 4, hq => cases hq; exact k4
    | 5, hq => cases hq; exact k5
    | 6, hq => cases hq; exact k6
    | 7, hq => cases hq; exact k7
    | 8, hq => cases hq; exact k8
    | 9, hq => cases hq; exact k9
    | 10, hq => cases hq; exact k10
    | 11, hq => cases hq; exact k11
    | n + 12, hq => simp [vwCl] at hq
  · intro k q hq
    match k, hq with
    | 0, hq => cases hq; exact ⟨fun n z => ⟨fun k h => (by cases h), kI, hI2, mI, hI3⟩, hI1⟩
    | 1, hq => cases hq; exact ⟨fun n z => ⟨fun k h => (by cases h), kJ, hJ2, mJ, hJ3⟩, hJ1⟩
    | 2, hq => cases hq; exact ⟨fun n z => ⟨fun k h => (by cases h), kS, hS3, mS, hS4⟩, kS, mS, hS3, hS4, hS1, hS5⟩
    | n + 3, hq => simp at hq
