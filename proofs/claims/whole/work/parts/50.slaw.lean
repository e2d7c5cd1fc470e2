/-! the law: both objects' cells, calls upon them -/
abbrev isL : List Nat := [0, 1, 2, 3, 4, 5, 6, 7, 8, 9, 10, 11, 12, 13, 14, 15, 16, 17, 18, 19, 20, 21, 22, 23, 24, 25, 26, 27, 28, 29, 30, 31, 32, 33, 34, 35, 36, 37, 38, 39, 40, 41, 42, 43, 44, 45, 46]
abbrev isM : List Nat := [47, 48, 49, 50, 51, 52, 53, 54, 55, 56, 57, 58]
theorem isL_nd : va_nd isL = true := by decide
theorem isM_nd : va_nd isM = true := by decide
theorem isL_lt : ∀ i ∈ isL, i < 47 := by decide
theorem isM_ge : ∀ i ∈ isM, 47 ≤ i := by decide
theorem fitL {wX w1 wY : va_W} {isC : List Nat} {N : Nat} (h1 : w1.length = N) (h2 : wX.length = N) (hi : ∀ i ∈ isC, i < N) (k : Nat) (q : Nat × va_E) (hq : (w1 ++ wY)[k]? = some q) : (∃ j : Nat, w1[j]? = some q) ∨ (k ∉ isC ∧ (wX ++ wY)[k]? = some q) := by
  by_cases hk : k < N
  · rw [List.getElem?_append_left (by omega)] at hq
    exact Or.inl ⟨k, hq⟩
  · rw [List.getElem?_append_right (by omega)] at hq
    refine Or.inr ⟨fun z => absurd (hi k z) hk, ?_⟩
    rw [List.getElem?_append_right (by omega), h2]
    rw [h1] at hq
    exact hq
theorem fitR {wX w1 wY : va_W} {isC : List Nat} {N : Nat} (h2 : wX.length = N) (hi : ∀ i ∈ isC, N ≤ i) (k : Nat) (q : Nat × va_E) (hq : (wX ++ w1)[k]? = some q) : (∃ j : Nat, w1[j]? = some q) ∨ (k ∉ isC ∧ (wX ++ wY)[k]? = some q) := by
  by_cases hk : k < N
  · rw [List.getElem?_append_left (by omega)] at hq
    refine Or.inr ⟨fun z => absurd (hi k z) (by omega), ?_⟩
    rw [List.getElem?_append_left (by omega)]
    exact hq
  · rw [List.getElem?_append_right (by omega)] at hq
    exact Or.inl ⟨_, hq⟩
section LAWS
variable {G : GT} {A : Nat → Prop} {o a : Nat → Nat} {f st tb : Row} {tn : Nat} {nu : Nat → Int64} {bi si : Row} {kp : Nat} {g g9 : Row} {D : DT} {oo d du : Row} {mo : Nat → Int64} {it fr to vl wr : Nat}
theorem wC_len : (wC G o f st tb tn nu bi si kp g D).length = 47 := rfl
theorem isL_m {wY : va_W} : isL.map (fun i => (wC G o f st tb tn nu bi si kp g D ++ wY)[i]?) = (wC G o f st tb tn nu bi si kp g D).map some := rfl
theorem isL_f {wY : va_W} : isL.filterMap (fun i => (wC G o f st tb tn nu bi si kp g D ++ wY)[i]?) = wC G o f st tb tn nu bi si kp g D := rfl
theorem isM_e {wX W9 : va_W} (hX : wX.length = 47) (j : Nat) : (wX ++ W9)[47 + j]? = W9[j]? := by rw [List.getElem?_append_right (by omega), hX, Nat.add_sub_cancel_left]
theorem isM_m {wX : va_W} (hX : wX.length = 47) : isM.map (fun i => (wX ++ wM G a f g9 oo d st du tb bi si nu mo kp it tn fr to vl wr)[i]?) = (wM G a f g9 oo d st du tb bi si nu mo kp it tn fr to vl wr).map some := by
  have e1 : isM.map (fun i => (wX ++ wM G a f g9 oo d st du tb bi si nu mo kp it tn fr to vl wr)[i]?) = (List.range 12).map (fun j => (wX ++ wM G a f g9 oo d st du tb bi si nu mo kp it tn fr to vl wr)[47 + j]?) := rfl
  rw [e1]
  simp only [isM_e hX]
  rfl
theorem isM_f {wX : va_W} (hX : wX.length = 47) : isM.filterMap (fun i => (wX ++ wM G a f g9 oo d st du tb bi si nu mo kp it tn fr to vl wr)[i]?) = wM G a f g9 oo d st du tb bi si nu mo kp it tn fr to vl wr := by
  have e1 : isM.filterMap (fun i => (wX ++ wM G a f g9 oo d st du tb bi si nu mo kp it tn fr to vl wr)[i]?) = (List.range 12).filterMap (fun j => (wX ++ wM G a f g9 oo d st du tb bi si nu mo kp it tn fr to vl wr)[47 + j]?) := rfl
  rw [e1]
  simp only [isM_e hX]
  rfl
theorem ap_l {u v w : va_W} (h : u.map Prod.fst = v.map Prod.fst) : (u ++ w).map Prod.fst = (v ++ w).map Prod.fst := by rw [List.map_append, List.map_append, h]
theorem ap_r {u v w : va_W} (h : u.map Prod.fst = v.map Prod.fst) : (w ++ u).map Prod.fst = (w ++ v).map Prod.fst := by rw [List.map_append, List.map_append, h]
end LAWS
theorem dt_undo9 {f st : Row} {kp : Nat} {g g9 : Row} {r1 r2 : Int32} {f1 f2 s1 s2 : Row} (hg : kp ≠ 0 → g = g9) (h1 : P_undo f g kp st r1 f1 s1) (h2 : P_undo f g9 kp st r2 f2 s2) : r1 = r2 ∧ f1 = f2 ∧ s1 = s2 := by
  by_cases hk : kp = 0
  · rcases h1 with ⟨c, rfl, rfl, rfl⟩ | ⟨c, rfl, rfl, rfl⟩ <;> rcases h2 with ⟨d, rfl, rfl, rfl⟩ | ⟨d, rfl, rfl, rfl⟩ <;> first | exact ⟨rfl, rfl, rfl⟩ | exact absurd hk c | exact absurd hk d
  · rw [← hg hk] at h2
    exact dt_undo h1 h2
/-- what is to be done behind a call of the script: from the end of its case on -/
def LK (p : Program) (l : Launch) (e : Env) (s : State) (m : MethodId) (below : List Frame) (meth : Method) (c : Code) (Q : State → Prop) (G : GT) (A : Nat → Prop) (o a : Nat → Nat) (b i cl sl : Nat) : Prop := ∀ (f st tb : Row) (tn : Nat) (nu : Nat → Int64) (bi si : Row) (kp : Nat) (g g9 : Row) (D : DT) (oo d du : Row) (mo : Nat → Int64) (it fr to vl wr : Nat) (H : Heap) (locs : List Loc) (ls : Array Slot), Ok f tb tn bi si kp g → (kp ≠ 0 → g = g9) → WX G A s H locs (wC G o f st tb tn nu bi si kp g D ++ wM G a f g9 oo d st du tb bi si nu mo kp it tn fr to vl wr) → lv_has ls 4 [(0, .ref b), (1, .ref (o 0)), (2, .ref (a 0)), (3, .int (nI i))] → W p l e room_1 s m #[Value.ref b] below meth c H locs cl sl Q (F0 m 1264 ls [])
