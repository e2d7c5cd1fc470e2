theorem fit_same {ws wc : va_W} {isC : List Nat} (hC : isC.map (fun i => ws[i]?) = wc.map some) : ∀ (k : Nat) (z : Nat × va_E), ws[k]? = some z → (∃ j : Nat, wc[j]? = some z) ∨ (k ∉ isC ∧ ws[k]? = some z) := fun k z hq => by
  by_cases hk : k ∈ isC
  · obtain ⟨j, hj⟩ := List.mem_iff_getElem?.mp hk
    refine Or.inl ⟨j, ?_⟩
    have h1 : (isC.map (fun i => ws[i]?))[j]? = some (some z) := by rw [List.getElem?_map, hj]; exact congrArg some hq
    rw [hC, List.getElem?_map] at h1
    cases h2 : wc[j]? with
    | none => rw [h2] at h1; cases h1
    | some y => rw [h2] at h1; exact Option.some.inj h1
  · exact Or.inr ⟨hk, hq⟩
variable {G : GT} {o : Nat → Nat} {f st tb : Row} {tn : Nat} {nu : Nat → Int64} {bi si : Row} {kp : Nat} {g : Row} {D : DT}
theorem fit_P {f2 : Row} {q2 sp2 : Nat} {rg2 : Int32} {wd2 : Row} {it2 : Nat} : ∀ (k : Nat) (z : Nat × va_E), (wC G o f2 st tb tn nu bi si kp g ((q2, sp2, rg2, wd2, it2), D.2))[k]? = some z → (∃ j : Nat, (wF G (aP o) f2 q2 sp2 rg2 wd2 it2)[j]? = some z) ∨ (k ∉ ([1, 2, 3, 4, 5, 6, 7, 8, 9, 10, 11, 12, 13, 14, 15, 16] : List Nat) ∧ (wC G o f st tb tn nu bi si kp g D)[k]? = some z)
  | 0, _, hq => Or.inr ⟨by decide, hq⟩
  | 1, _, hq => Or.inl ⟨0, hq⟩
  | 2, _, hq => Or.inl ⟨1, hq⟩
  | 3, _, hq => Or.inl ⟨2, hq⟩
  | 4, _, hq => Or.inl ⟨3, hq⟩
  | 5, _, hq => Or.inl ⟨4, hq⟩
  | 6, _, hq => Or.inl ⟨5, hq⟩
  | 7, _, hq => Or.inl ⟨6, hq⟩
  | 8, _, hq => Or.inl ⟨7, hq⟩
  | 9, _, hq => Or.inl ⟨8, hq⟩
  | 10, _, hq => Or.inl ⟨9, hq⟩
  | 11, _, hq => Or.inl ⟨10, hq⟩
  | 12, _, hq => Or.inl ⟨11, hq⟩
  | 13, _, hq => Or.inl ⟨12, hq⟩
  | 14, _, hq => Or.inl ⟨13, hq⟩
  | 15, _, hq => Or.inl ⟨14, hq⟩
  | 16, _, hq => Or.inl ⟨15, hq⟩
  | 17, _, hq => Or.inr ⟨by decide, hq⟩
  | 18, _, hq => Or.inr ⟨by decide, hq⟩
  | 19, _, hq => Or.inr ⟨by decide, hq⟩
  | 20, _, hq => Or.inr ⟨by decide, hq⟩
  | 21, _, hq => Or.inr ⟨by decide, hq⟩
  | 22, _, hq => Or.inr ⟨by decide, hq⟩
  | 23, _, hq => Or.inr ⟨by decide, hq⟩
  | 24, _, hq => Or.inr ⟨by decide, hq⟩
  | 25, _, hq => Or.inr ⟨by decide, hq⟩
  | 26, _, hq => Or.inr ⟨by decide, hq⟩
  | 27, _, hq => Or.inr ⟨by decide, hq⟩
  | 28, _, hq => Or.inr ⟨by decide, hq⟩
  | 29, _, hq => Or.inr ⟨by decide, hq⟩
  | 30, _, hq => Or.inr ⟨by decide, hq⟩
  | 31, _, hq => Or.inr ⟨by decide, hq⟩
  | 32, _, hq => Or.inr ⟨by decide, hq⟩
  | 33, _, hq => Or.inr ⟨by decide, hq⟩
  | 34, _, hq => Or.inr ⟨by decide, hq⟩
  | 35, _, hq => Or.inr ⟨by decide, hq⟩
  | 36, _, hq => Or.inr ⟨by decide, hq⟩
  | 37, _, hq => Or.inr ⟨by decide, hq⟩
  | 38, _, hq => Or.inr ⟨by decide, hq⟩
  | 39, _, hq => Or.inr ⟨by decide, hq⟩
  | 40, _, hq => Or.inr ⟨by decide, hq⟩
  | 41, _, hq => Or.inr ⟨by decide, hq⟩
  | 42, _, hq => Or.inr ⟨by decide, hq⟩
  | 43, _, hq => Or.inr ⟨by decide, hq⟩
  | 44, _, hq => Or.inr ⟨by decide, hq⟩
  | 45, _, hq => Or.inr ⟨by decide, hq⟩
  | 46, _, hq => Or.inr ⟨by decide, hq⟩
  | n + 47, z, hq => by have h9 : (none : Option (Nat × va_E)) = some z := hq; cases h9
theorem fit_T {f2 : Row} {q2 sp2 : Nat} {rg2 : Int32} {wd2 : Row} {it2 : Nat} : ∀ (k : Nat) (z : Nat × va_E), (wC G o f st tb tn nu bi si kp g (D.1, (f2, (q2, sp2, rg2, wd2, it2)), D.2.2))[k]? = some z → (∃ j : Nat, (wF G (aT o) f2 q2 sp2 rg2 wd2 it2)[j]? = some z) ∨ (k ∉ ([17, 18, 19, 20, 21, 22, 23, 24, 25, 10, 11, 12, 13, 14, 15, 16] : List Nat) ∧ (wC G o f st tb tn nu bi si kp g D)[k]? = some z)
  | 0, _, hq => Or.inr ⟨by decide, hq⟩
  | 1, _, hq => Or.inr ⟨by decide, hq⟩
  | 2, _, hq => Or.inr ⟨by decide, hq⟩
  | 3, _, hq => Or.inr ⟨by decide, hq⟩
  | 4, _, hq => Or.inr ⟨by decide, hq⟩
  | 5, _, hq => Or.inr ⟨by decide, hq⟩
  | 6, _, hq => Or.inr ⟨by decide, hq⟩
  | 7, _, hq => Or.inr ⟨by decide, hq⟩
  | 8, _, hq => Or.inr ⟨by decide, hq⟩
  | 9, _, hq => Or.inr ⟨by decide, hq⟩
  | 10, _, hq => Or.inl ⟨9, hq⟩
  | 11, _, hq => Or.inl ⟨10, hq⟩
  | 12, _, hq => Or.inl ⟨11, hq⟩
  | 13, _, hq => Or.inl ⟨12, hq⟩
  | 14, _, hq => Or.inl ⟨13, hq⟩
  | 15, _, hq => Or.inl ⟨14, hq⟩
  | 16, _, hq => Or.inl ⟨15, hq⟩
  | 17, _, hq => Or.inl ⟨0, hq⟩
  | 18, _, hq => Or.inl ⟨1, hq⟩
  | 19, _, hq => Or.inl ⟨2, hq⟩
  | 20, _, hq => Or.inl ⟨3, hq⟩
  | 21, _, hq => Or.inl ⟨4, hq⟩
  | 22, _, hq => Or.inl ⟨5, hq⟩
  | 23, _, hq => Or.inl ⟨6, hq⟩
  | 24, _, hq => Or.inl ⟨7, hq⟩
  | 25, _, hq => Or.inl ⟨8, hq⟩
  | 26, _, hq => Or.inr ⟨by decide, hq⟩
  | 27, _, hq => Or.inr ⟨by decide, hq⟩
  | 28, _, hq => Or.inr ⟨by decide, hq⟩
  | 29, _, hq => Or.inr ⟨by decide, hq⟩
  | 30, _, hq => Or.inr ⟨by decide, hq⟩
  | 31, _, hq => Or.inr ⟨by decide, hq⟩
  | 32, _, hq => Or.inr ⟨by decide, hq⟩
  | 33, _, hq => Or.inr ⟨by decide, hq⟩
  | 34, _, hq => Or.inr ⟨by decide, hq⟩
  | 35, _, hq => Or.inr ⟨by decide, hq⟩
  | 36, _, hq => Or.inr ⟨by decide, hq⟩
  | 37, _, hq => Or.inr ⟨by decide, hq⟩
  | 38, _, hq => Or.inr ⟨by decide, hq⟩
  | 39, _, hq => Or.inr ⟨by decide, hq⟩
  | 40, _, hq => Or.inr ⟨by decide, hq⟩
  | 41, _, hq => Or.inr ⟨by decide, hq⟩
  | 42, _, hq => Or.inr ⟨by decide, hq⟩
  | 43, _, hq => Or.inr ⟨by decide, hq⟩
  | 44, _, hq => Or.inr ⟨by decide, hq⟩
  | 45, _, hq => Or.inr ⟨by decide, hq⟩
  | 46, _, hq => Or.inr ⟨by decide, hq⟩
  | n + 47, z, hq => by have h9 : (none : Option (Nat × va_E)) = some z := hq; cases h9
theorem fit_TP  : ∀ (k : Nat) (z : Nat × va_E), (wC G o f st tb tn nu bi si kp g (D.1, (f, D.2.1.2), D.2.2))[k]? = some z → (∃ j : Nat, (wFF G (aT o) (aP o) f D.2.1.2.1 D.2.1.2.2.1 D.2.1.2.2.2.1 D.2.1.2.2.2.2.1 D.2.1.2.2.2.2.2 f D.1.1 D.1.2.1 D.1.2.2.1 D.1.2.2.2.1 D.1.2.2.2.2)[j]? = some z) ∨ (k ∉ ([17, 18, 19, 20, 21, 22, 23, 24, 25, 1, 2, 3, 4, 5, 6, 7, 8, 9] : List Nat) ∧ (wC G o f st tb tn nu bi si kp g D)[k]? = some z)
  | 0, _, hq => Or.inr ⟨by decide, hq⟩
  | 1, _, hq => Or.inl ⟨9, hq⟩
  | 2, _, hq => Or.inl ⟨10, hq⟩
  | 3, _, hq => Or.inl ⟨11, hq⟩
  | 4, _, hq => Or.inl ⟨12, hq⟩
  | 5, _, hq => Or.inl ⟨13, hq⟩
  | 6, _, hq => Or.inl ⟨14, hq⟩
  | 7, _, hq => Or.inl ⟨15, hq⟩
  | 8, _, hq => Or.inl ⟨16, hq⟩
  | 9, _, hq => Or.inl ⟨17, hq⟩
  | 10, _, hq => Or.inr ⟨by decide, hq⟩
  | 11, _, hq => Or.inr ⟨by decide, hq⟩
  | 12, _, hq => Or.inr ⟨by decide, hq⟩
  | 13, _, hq => Or.inr ⟨by decide, hq⟩
  | 14, _, hq => Or.inr ⟨by decide, hq⟩
  | 15, _, hq => Or.inr ⟨by decide, hq⟩
  | 16, _, hq => Or.inr ⟨by decide, hq⟩
  | 17, _, hq => Or.inl ⟨0, hq⟩
  | 18, _, hq => Or.inl ⟨1, hq⟩
  | 19, _, hq => Or.inl ⟨2, hq⟩
  | 20, _, hq => Or.inl ⟨3, hq⟩
  | 21, _, hq => Or.inl ⟨4, hq⟩
  | 22, _, hq => Or.inl ⟨5, hq⟩
  | 23, _, hq => Or.inl ⟨6, hq⟩
  | 24, _, hq => Or.inl ⟨7, hq⟩
  | 25, _, hq => Or.inl ⟨8, hq⟩
  | 26, _, hq => Or.inr ⟨by decide, hq⟩
  | 27, _, hq => Or.inr ⟨by decide, hq⟩
  | 28, _, hq => Or.inr ⟨by decide, hq⟩
  | 29, _, hq => Or.inr ⟨by decide, hq⟩
  | 30, _, hq => Or.inr ⟨by decide, hq⟩
  | 31, _, hq => Or.inr ⟨by decide, hq⟩
  | 32, _, hq => Or.inr ⟨by decide, hq⟩
  | 33, _, hq => Or.inr ⟨by decide, hq⟩
  | 34, _, hq => Or.inr ⟨by decide, hq⟩
  | 35, _, hq => Or.inr ⟨by decide, hq⟩
  | 36, _, hq => Or.inr ⟨by decide, hq⟩
  | 37, _, hq => Or.inr ⟨by decide, hq⟩
  | 38, _, hq => Or.inr ⟨by decide, hq⟩
  | 39, _, hq => Or.inr ⟨by decide, hq⟩
  | 40, _, hq => Or.inr ⟨by decide, hq⟩
  | 41, _, hq => Or.inr ⟨by decide, hq⟩
  | 42, _, hq => Or.inr ⟨by decide, hq⟩
  | 43, _, hq => Or.inr ⟨by decide, hq⟩
  | 44, _, hq => Or.inr ⟨by decide, hq⟩
  | 45, _, hq => Or.inr ⟨by decide, hq⟩
  | 46, _, hq => Or.inr ⟨by decide, hq⟩
  | n + 47, z, hq => by have h9 : (none : Option (Nat × va_E)) = some z := hq; cases h9
theorem fit_PT  : ∀ (k : Nat) (z : Nat × va_E), (wC G o D.2.1.1 st tb tn nu bi si kp g D)[k]? = some z → (∃ j : Nat, (wFF G (aP o) (aT o) D.2.1.1 D.1.1 D.1.2.1 D.1.2.2.1 D.1.2.2.2.1 D.1.2.2.2.2 D.2.1.1 D.2.1.2.1 D.2.1.2.2.1 D.2.1.2.2.2.1 D.2.1.2.2.2.2.1 D.2.1.2.2.2.2.2)[j]? = some z) ∨ (k ∉ ([1, 2, 3, 4, 5, 6, 7, 8, 9, 17, 18, 19, 20, 21, 22, 23, 24, 25] : List Nat) ∧ (wC G o f st tb tn nu bi si kp g D)[k]? = some z)
  | 0, _, hq => Or.inr ⟨by decide, hq⟩
  | 1, _, hq => Or.inl ⟨0, hq⟩
  | 2, _, hq => Or.inl ⟨1, hq⟩
  | 3, _, hq => Or.inl ⟨2, hq⟩
  | 4, _, hq => Or.inl ⟨3, hq⟩
  | 5, _, hq => Or.inl ⟨4, hq⟩
  | 6, _, hq => Or.inl ⟨5, hq⟩
  | 7, _, hq => Or.inl ⟨6, hq⟩
  | 8, _, hq => Or.inl ⟨7, hq⟩
  | 9, _, hq => Or.inl ⟨8, hq⟩
  | 10, _, hq => Or.inr ⟨by decide, hq⟩
  | 11, _, hq => Or.inr ⟨by decide, hq⟩
  | 12, _, hq => Or.inr ⟨by decide, hq⟩
  | 13, _, hq => Or.inr ⟨by decide, hq⟩
  | 14, _, hq => Or.inr ⟨by decide, hq⟩
  | 15, _, hq => Or.inr ⟨by decide, hq⟩
  | 16, _, hq => Or.inr ⟨by decide, hq⟩
  | 17, _, hq => Or.inl ⟨9, hq⟩
  | 18, _, hq => Or.inl ⟨10, hq⟩
  | 19, _, hq => Or.inl ⟨11, hq⟩
  | 20, _, hq => Or.inl ⟨12, hq⟩
  | 21, _, hq => Or.inl ⟨13, hq⟩
  | 22, _, hq => Or.inl ⟨14, hq⟩
  | 23, _, hq => Or.inl ⟨15, hq⟩
  | 24, _, hq => Or.inl ⟨16, hq⟩
  | 25, _, hq => Or.inl ⟨17, hq⟩
  | 26, _, hq => Or.inr ⟨by decide, hq⟩
  | 27, _, hq => Or.inr ⟨by decide, hq⟩
  | 28, _, hq => Or.inr ⟨by decide, hq⟩
  | 29, _, hq => Or.inr ⟨by decide, hq⟩
  | 30, _, hq => Or.inr ⟨by decide, hq⟩
  | 31, _, hq => Or.inr ⟨by decide, hq⟩
  | 32, _, hq => Or.inr ⟨by decide, hq⟩
  | 33, _, hq => Or.inr ⟨by decide, hq⟩
  | 34, _, hq => Or.inr ⟨by decide, hq⟩
  | 35, _, hq => Or.inr ⟨by decide, hq⟩
  | 36, _, hq => Or.inr ⟨by decide, hq⟩
  | 37, _, hq => Or.inr ⟨by decide, hq⟩
  | 38, _, hq => Or.inr ⟨by decide, hq⟩
  | 39, _, hq => Or.inr ⟨by decide, hq⟩
  | 40, _, hq => Or.inr ⟨by decide, hq⟩
  | 41, _, hq => Or.inr ⟨by decide, hq⟩
  | 42, _, hq => Or.inr ⟨by decide, hq⟩
  | 43, _, hq => Or.inr ⟨by decide, hq⟩
  | 44, _, hq => Or.inr ⟨by decide, hq⟩
  | 45, _, hq => Or.inr ⟨by decide, hq⟩
  | 46, _, hq => Or.inr ⟨by decide, hq⟩
  | n + 47, z, hq => by have h9 : (none : Option (Nat × va_E)) = some z := hq; cases h9
theorem fit_KP  : ∀ (k : Nat) (z : Nat × va_E), (wC G o f st tb tn nu bi si kp f D)[k]? = some z → (∃ j : Nat, (wFF G (aK o) (aP o) f D.2.2.1.1 D.2.2.1.2.1 D.2.2.1.2.2.1 D.2.2.1.2.2.2.1 D.2.2.1.2.2.2.2 f D.1.1 D.1.2.1 D.1.2.2.1 D.1.2.2.2.1 D.1.2.2.2.2)[j]? = some z) ∨ (k ∉ ([26, 27, 28, 29, 30, 31, 32, 33, 34, 1, 2, 3, 4, 5, 6, 7, 8, 9] : List Nat) ∧ (wC G o f st tb tn nu bi si kp g D)[k]? = some z)
  | 0, _, hq => Or.inr ⟨by decide, hq⟩
  | 1, _, hq => Or.inl ⟨9, hq⟩
  | 2, _, hq => Or.inl ⟨10, hq⟩
  | 3, _, hq => Or.inl ⟨11, hq⟩
  | 4, _, hq => Or.inl ⟨12, hq⟩
  | 5, _, hq => Or.inl ⟨13, hq⟩
  | 6, _, hq => Or.inl ⟨14, hq⟩
  | 7, _, hq => Or.inl ⟨15, hq⟩
  | 8, _, hq => Or.inl ⟨16, hq⟩
  | 9, _, hq => Or.inl ⟨17, hq⟩
  | 10, _, hq => Or.inr ⟨by decide, hq⟩
  | 11, _, hq => Or.inr ⟨by decide, hq⟩
  | 12, _, hq => Or.inr ⟨by decide, hq⟩
  | 13, _, hq => Or.inr ⟨by decide, hq⟩
  | 14, _, hq => Or.inr ⟨by decide, hq⟩
  | 15, _, hq => Or.inr ⟨by decide, hq⟩
  | 16, _, hq => Or.inr ⟨by decide, hq⟩
  | 17, _, hq => Or.inr ⟨by decide, hq⟩
  | 18, _, hq => Or.inr ⟨by decide, hq⟩
  | 19, _, hq => Or.inr ⟨by decide, hq⟩
  | 20, _, hq => Or.inr ⟨by decide, hq⟩
  | 21, _, hq => Or.inr ⟨by decide, hq⟩
  | 22, _, hq => Or.inr ⟨by decide, hq⟩
  | 23, _, hq => Or.inr ⟨by decide, hq⟩
  | 24, _, hq => Or.inr ⟨by decide, hq⟩
  | 25, _, hq => Or.inr ⟨by decide, hq⟩
  | 26, _, hq => Or.inl ⟨0, hq⟩
  | 27, _, hq => Or.inl ⟨1, hq⟩
  | 28, _, hq => Or.inl ⟨2, hq⟩
  | 29, _, hq => Or.inl ⟨3, hq⟩
  | 30, _, hq => Or.inl ⟨4, hq⟩
  | 31, _, hq => Or.inl ⟨5, hq⟩
  | 32, _, hq => Or.inl ⟨6, hq⟩
  | 33, _, hq => Or.inl ⟨7, hq⟩
  | 34, _, hq => Or.inl ⟨8, hq⟩
  | 35, _, hq => Or.inr ⟨by decide, hq⟩
  | 36, _, hq => Or.inr ⟨by decide, hq⟩
  | 37, _, hq => Or.inr ⟨by decide, hq⟩
  | 38, _, hq => Or.inr ⟨by decide, hq⟩
  | 39, _, hq => Or.inr ⟨by decide, hq⟩
  | 40, _, hq => Or.inr ⟨by decide, hq⟩
  | 41, _, hq => Or.inr ⟨by decide, hq⟩
  | 42, _, hq => Or.inr ⟨by decide, hq⟩
  | 43, _, hq => Or.inr ⟨by decide, hq⟩
  | 44, _, hq => Or.inr ⟨by decide, hq⟩
  | 45, _, hq => Or.inr ⟨by decide, hq⟩
  | 46, _, hq => Or.inr ⟨by decide, hq⟩
  | n + 47, z, hq => by have h9 : (none : Option (Nat × va_E)) = some z := hq; cases h9
theorem fit_PK  : ∀ (k : Nat) (z : Nat × va_E), (wC G o g st tb tn nu bi si kp g D)[k]? = some z → (∃ j : Nat, (wFF G (aP o) (aK o) g D.1.1 D.1.2.1 D.1.2.2.1 D.1.2.2.2.1 D.1.2.2.2.2 g D.2.2.1.1 D.2.2.1.2.1 D.2.2.1.2.2.1 D.2.2.1.2.2.2.1 D.2.2.1.2.2.2.2)[j]? = some z) ∨ (k ∉ ([1, 2, 3, 4, 5, 6, 7, 8, 9, 26, 27, 28, 29, 30, 31, 32, 33, 34] : List Nat) ∧ (wC G o f st tb tn nu bi si kp g D)[k]? = some z)
  | 0, _, hq => Or.inr ⟨by decide, hq⟩
  | 1, _, hq => Or.inl ⟨0, hq⟩
  | 2, _, hq => Or.inl ⟨1, hq⟩
  | 3, _, hq => Or.inl ⟨2, hq⟩
  | 4, _, hq => Or.inl ⟨3, hq⟩
  | 5, _, hq => Or.inl ⟨4, hq⟩
  | 6, _, hq => Or.inl ⟨5, hq⟩
  | 7, _, hq => Or.inl ⟨6, hq⟩
  | 8, _, hq => Or.inl ⟨7, hq⟩
  | 9, _, hq => Or.inl ⟨8, hq⟩
  | 10, _, hq => Or.inr ⟨by decide, hq⟩
  | 11, _, hq => Or.inr ⟨by decide, hq⟩
  | 12, _, hq => Or.inr ⟨by decide, hq⟩
  | 13, _, hq => Or.inr ⟨by decide, hq⟩
  | 14, _, hq => Or.inr ⟨by decide, hq⟩
  | 15, _, hq => Or.inr ⟨by decide, hq⟩
  | 16, _, hq => Or.inr ⟨by decide, hq⟩
  | 17, _, hq => Or.inr ⟨by decide, hq⟩
  | 18, _, hq => Or.inr ⟨by decide, hq⟩
  | 19, _, hq => Or.inr ⟨by decide, hq⟩
  | 20, _, hq => Or.inr ⟨by decide, hq⟩
  | 21, _, hq => Or.inr ⟨by decide, hq⟩
  | 22, _, hq => Or.inr ⟨by decide, hq⟩
  | 23, _, hq => Or.inr ⟨by decide, hq⟩
  | 24, _, hq => Or.inr ⟨by decide, hq⟩
  | 25, _, hq => Or.inr ⟨by decide, hq⟩
  | 26, _, hq => Or.inl ⟨9, hq⟩
  | 27, _, hq => Or.inl ⟨10, hq⟩
  | 28, _, hq => Or.inl ⟨11, hq⟩
  | 29, _, hq => Or.inl ⟨12, hq⟩
  | 30, _, hq => Or.inl ⟨13, hq⟩
  | 31, _, hq => Or.inl ⟨14, hq⟩
  | 32, _, hq => Or.inl ⟨15, hq⟩
  | 33, _, hq => Or.inl ⟨16, hq⟩
  | 34, _, hq => Or.inl ⟨17, hq⟩
  | 35, _, hq => Or.inr ⟨by decide, hq⟩
  | 36, _, hq => Or.inr ⟨by decide, hq⟩
  | 37, _, hq => Or.inr ⟨by decide, hq⟩
  | 38, _, hq => Or.inr ⟨by decide, hq⟩
  | 39, _, hq => Or.inr ⟨by decide, hq⟩
  | 40, _, hq => Or.inr ⟨by decide, hq⟩
  | 41, _, hq => Or.inr ⟨by decide, hq⟩
  | 42, _, hq => Or.inr ⟨by decide, hq⟩
  | 43, _, hq => Or.inr ⟨by decide, hq⟩
  | 44, _, hq => Or.inr ⟨by decide, hq⟩
  | 45, _, hq => Or.inr ⟨by decide, hq⟩
  | 46, _, hq => Or.inr ⟨by decide, hq⟩
  | n + 47, z, hq => by have h9 : (none : Option (Nat × va_E)) = some z := hq; cases h9
theorem fit_Tp {f2 tb2 : Row} {tn2 k2 s2 x2 v2 : Nat} : ∀ (k : Nat) (z : Nat × va_E), (wC G o f st tb2 tn2 nu bi si kp g (D.1, (f2, D.2.1.2), D.2.2.1, (k2, s2, x2, v2)))[k]? = some z → (∃ j : Nat, (wT G (aTp o) (aT o) tb2 tn2 k2 s2 x2 v2 f2 D.2.1.2.1 D.2.1.2.2.1 D.2.1.2.2.2.1 D.2.1.2.2.2.2.1 D.2.1.2.2.2.2.2)[j]? = some z) ∨ (k ∉ ([35, 36, 17, 18, 19, 20, 21, 22, 23, 24, 25, 10, 11, 12, 13, 14, 15, 16] : List Nat) ∧ (wC G o f st tb tn nu bi si kp g D)[k]? = some z)
  | 0, _, hq => Or.inr ⟨by decide, hq⟩
  | 1, _, hq => Or.inr ⟨by decide, hq⟩
  | 2, _, hq => Or.inr ⟨by decide, hq⟩
  | 3, _, hq => Or.inr ⟨by decide, hq⟩
  | 4, _, hq => Or.inr ⟨by decide, hq⟩
  | 5, _, hq => Or.inr ⟨by decide, hq⟩
  | 6, _, hq => Or.inr ⟨by decide, hq⟩
  | 7, _, hq => Or.inr ⟨by decide, hq⟩
  | 8, _, hq => Or.inr ⟨by decide, hq⟩
  | 9, _, hq => Or.inr ⟨by decide, hq⟩
  | 10, _, hq => Or.inl ⟨11, hq⟩
  | 11, _, hq => Or.inl ⟨12, hq⟩
  | 12, _, hq => Or.inl ⟨13, hq⟩
  | 13, _, hq => Or.inl ⟨14, hq⟩
  | 14, _, hq => Or.inl ⟨15, hq⟩
  | 15, _, hq => Or.inl ⟨16, hq⟩
  | 16, _, hq => Or.inl ⟨17, hq⟩
  | 17, _, hq => Or.inl ⟨2, hq⟩
  | 18, _, hq => Or.inl ⟨3, hq⟩
  | 19, _, hq => Or.inl ⟨4, hq⟩
  | 20, _, hq => Or.inl ⟨5, hq⟩
  | 21, _, hq => Or.inl ⟨6, hq⟩
  | 22, _, hq => Or.inl ⟨7, hq⟩
  | 23, _, hq => Or.inl ⟨8, hq⟩
  | 24, _, hq => Or.inl ⟨9, hq⟩
  | 25, _, hq => Or.inl ⟨10, hq⟩
  | 26, _, hq => Or.inr ⟨by decide, hq⟩
  | 27, _, hq => Or.inr ⟨by decide, hq⟩
  | 28, _, hq => Or.inr ⟨by decide, hq⟩
  | 29, _, hq => Or.inr ⟨by decide, hq⟩
  | 30, _, hq => Or.inr ⟨by decide, hq⟩
  | 31, _, hq => Or.inr ⟨by decide, hq⟩
  | 32, _, hq => Or.inr ⟨by decide, hq⟩
  | 33, _, hq => Or.inr ⟨by decide, hq⟩
  | 34, _, hq => Or.inr ⟨by decide, hq⟩
  | 35, _, hq => Or.inl ⟨0, hq⟩
  | 36, _, hq => Or.inl ⟨1, hq⟩
  | 37, _, hq => Or.inr ⟨by decide, hq⟩
  | 38, _, hq => Or.inr ⟨by decide, hq⟩
  | 39, _, hq => Or.inr ⟨by decide, hq⟩
  | 40, _, hq => Or.inr ⟨by decide, hq⟩
  | 41, _, hq => Or.inr ⟨by decide, hq⟩
  | 42, _, hq => Or.inr ⟨by decide, hq⟩
  | 43, _, hq => Or.inr ⟨by decide, hq⟩
  | 44, _, hq => Or.inr ⟨by decide, hq⟩
  | 45, _, hq => Or.inr ⟨by decide, hq⟩
  | 46, _, hq => Or.inr ⟨by decide, hq⟩
  | n + 47, z, hq => by have h9 : (none : Option (Nat × va_E)) = some z := hq; cases h9
abbrev shC (x : Nat) : List Nat := [38 + 2 * x, 39 + 2 * x]
theorem shC_nd {x : Nat} (hx : x < 4) : va_nd (shC x) = true := by rcases r4 hx with rfl | rfl | rfl | rfl <;> rfl
theorem shC_m {x : Nat} (hx : x < 4) : (shC x).map (fun i => (wC G o f st tb tn nu bi si kp g D)[i]?) = (wSh G (aSh o x) (fun k => nu (40 * x + k)) (bi x) (si x)).map some := by rcases r4 hx with rfl | rfl | rfl | rfl <;> rfl
theorem shC_f {x : Nat} (hx : x < 4) : (shC x).filterMap (fun i => (wC G o f st tb tn nu bi si kp g D)[i]?) = wSh G (aSh o x) (fun k => nu (40 * x + k)) (bi x) (si x) := by rcases r4 hx with rfl | rfl | rfl | rfl <;> rfl
/-- a sheet laid anew -/
abbrev wLay (G : GT) (o : Nat → Nat) (f st tb : Row) (tn : Nat) (nu : Nat → Int64) (bi si : Row) (kp : Nat) (g : Row) (D : DT) (x b z : Nat) : va_W := ((wC G o f st tb tn nu bi si kp g D).set (38 + 2 * x) (o (38 + 2 * x), .inr (7, [.ref (o (39 + 2 * x)), .int (nI b), .int (nI z)]))).set (39 + 2 * x) (o (39 + 2 * x), .inl (gJ G, 40, .inr (.inl (fun _ => 0))))
theorem wLay_a {x b z : Nat} (hx : x < 4) : (wLay G o f st tb tn nu bi si kp g D x b z).map Prod.fst = (wC G o f st tb tn nu bi si kp g D).map Prod.fst := by rcases r4 hx with rfl | rfl | rfl | rfl <;> rfl
theorem wLay_fit {x b z : Nat} (hx : x < 4) (k : Nat) (q : Nat × va_E) (hq : (wLay G o f st tb tn nu bi si kp g D x b z)[k]? = some q) : (∃ j : Nat, (wSh G (aSh o x) (fun _ => 0) b z)[j]? = some q) ∨ (k ∉ shC x ∧ (wC G o f st tb tn nu bi si kp g D)[k]? = some q) := by
  by_cases h1 : k = 39 + 2 * x
  · subst h1
    refine Or.inl ⟨1, ?_⟩
    rcases r4 hx with rfl | rfl | rfl | rfl <;> exact hq
  · by_cases h2 : k = 38 + 2 * x
    · subst h2
      refine Or.inl ⟨0, ?_⟩
      rcases r4 hx with rfl | rfl | rfl | rfl <;> exact hq
    · refine Or.inr ⟨fun h => ?_, ?_⟩
      · simp only [shC, List.mem_cons, List.not_mem_nil, or_false] at h; omega
      · rw [List.getElem?_set_ne (by omega), List.getElem?_set_ne (by omega)] at hq; exact hq
theorem znu_e {nu : Nat → Int64} {x k : Nat} (hk : k < 40) : (0 : Int64) = znu nu x 40 (40 * x + k) := by unfold znu; rw [if_pos (by omega)]
theorem znu_n {nu : Nat → Int64} {x i k : Nat} (hk : k < 40) (h : i ≠ x) : nu (40 * i + k) = znu nu x 40 (40 * i + k) := by unfold znu; rw [if_neg (by omega)]
theorem wLay_to {A : Nat → Prop} {s : State} {H : Heap} {locs : List Loc} {x b z : Nat} (hx : x < 4) (h : WX G A s H locs (wLay G o f st tb tn nu bi si kp g D x b z)) : WX G A s H locs (wC G o f st tb tn (znu nu x 40) (va_up bi x b) (va_up si x z) kp g D) := by
  rcases r4 hx with rfl | rfl | rfl | rfl
  · exact ((((h.ext_l 39 rfl (fun k9 hk => znu_e hk)).ext_l 41 rfl (fun k9 hk => znu_n hk (by decide))).ext_l 43 rfl (fun k9 hk => znu_n hk (by decide))).ext_l 45 rfl (fun k9 hk => znu_n hk (by decide)))
  · exact ((((h.ext_l 39 rfl (fun k9 hk => znu_n hk (by decide))).ext_l 41 rfl (fun k9 hk => znu_e hk)).ext_l 43 rfl (fun k9 hk => znu_n hk (by decide))).ext_l 45 rfl (fun k9 hk => znu_n hk (by decide)))
  · exact ((((h.ext_l 39 rfl (fun k9 hk => znu_n hk (by decide))).ext_l 41 rfl (fun k9 hk => znu_n hk (by decide))).ext_l 43 rfl (fun k9 hk => znu_e hk)).ext_l 45 rfl (fun k9 hk => znu_n hk (by decide)))
  · exact ((((h.ext_l 39 rfl (fun k9 hk => znu_n hk (by decide))).ext_l 41 rfl (fun k9 hk => znu_n hk (by decide))).ext_l 43 rfl (fun k9 hk => znu_n hk (by decide))).ext_l 45 rfl (fun k9 hk => znu_e hk))
