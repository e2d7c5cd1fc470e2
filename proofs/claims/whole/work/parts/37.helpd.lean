variable {G : GT} {l : Launch} {o : Nat → Nat} {f st tb : Row} {tn : Nat} {nu : Nat → Int64} {bi si : Row} {kp : Nat} {g : Row} {D : DT}
set_option maxHeartbeats 4000000 in
set_option maxRecDepth 100000 in
theorem c_X10_isNoSheet {x : Int32} : Ki G l yX10_isNoSheet cX10_isNoSheet 1 (some .boolean) (RM 2 22) [.int x] ([]) (fun u : Unit => []) (fun r _ => (r = nI 1 ∧ ¬ inR x 0 3) ∨ (r = nI 0 ∧ inR x 0 3)) := by
  refine Ki.ofz (by decide) (Nat.le_of_ble_eq_true rfl) ?_
  intro p e s m args below meth c A Q ls hx hb S0 hG hA h hret hl
  have S0 : CF p m c cX10_isNoSheet 1 s args RX10 := S0
  have hl : lv_has ls 1 [(0, .int x)] := hl
  refine lv_iload_n hx hb dX10_isNoSheet_0 rfl (lv_at hl 0 rfl) ?_
  refine lv_iconst (v := nI 0) hx hb dX10_isNoSheet_1 (by decide) ?_
  refine lv_iconst (v := nI 3) hx hb dX10_isNoSheet_2 (by decide) ?_
  refine cS_iE S0 hG hA h hl.1 kw_RX10_49 kdS_X10_isOutside (c_X10_isOutside) ⟨rfl, rfl, by decide, by decide, Nat.le_refl _, Nat.le_refl _⟩ rfl rfl (Nat.le_of_ble_eq_true rfl) dX10_isNoSheet_3 (fun r u H locs hq h => ?_)
  have hq : (r = nI 1 ∧ ¬ inR x 0 3) ∨ (r = nI 0 ∧ inR x 0 3) := hq
  rcases hq with ⟨rfl, b3⟩ | ⟨rfl, b3⟩
  ·
    exact hret _ () _ _ _ _ (by decide) (Or.inl ⟨rfl, b3⟩) h dX10_isNoSheet_6
  ·
    exact hret _ () _ _ _ _ (by decide) (Or.inr ⟨rfl, b3⟩) h dX10_isNoSheet_6
