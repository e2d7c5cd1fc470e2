variable {G : GT} {l : Launch} {t a : Nat → Nat} {tb : Nat → Nat} {tn tk ts tx tv : Nat} {f : Nat → Nat} {q sp : Nat} {rg : Int32} {wd : Nat → Nat} {it : Nat}
set_option maxHeartbeats 4000000 in
set_option maxRecDepth 100000 in
theorem c_X0_nameOf {x : Nat} (hx1 : x < 6) : Kr G l yX0_nameOf cX0_nameOf 1 (some (.object "java/lang/String")) (RM 1 0) [.int (nI x)] ([]) (fun u : Unit => []) (fun _ => G.2.2.2.1 (nmI x)) (fun _ => True) := by
  refine Kr.of (by decide) (Nat.le_of_ble_eq_true rfl) ?_
  intro p e s m args below meth c A Q ls hx hb S0 hG hA h hret hl
  have S0 : CF p m c cX0_nameOf 1 s args RX0 := S0
  have hl : lv_has ls 1 [(0, .int (nI x))] := hl
  refine lv_iload_n hx hb dX0_nameOf_0 rfl (lv_at hl 0 rfl) ?_
  rcases (show x = 1 ∨ x = 2 ∨ x = 3 ∨ x = 4 ∨ x = 5 ∨ (x ≠ 1 ∧ x ≠ 2 ∧ x ≠ 3 ∧ x ≠ 4 ∧ x ≠ 5) by omega) with e1 | e1 | e1 | e1 | e1 | e1
  ·
    refine n_swIn hx hb e1 (by decide) (off := 35) (tgt := 36) dX0_nameOf_1 (by decide) (by decide) rfl (by decide) ?_
    refine va_ldcS hx hb S0.2.2.2.1 (sR_2 hG) dX0_nameOf_36 ?_
    exact tRf (congrArg G.2.2.2.1 (show 2 = nmI x by unfold nmI; simp [e1])) (hret () _ _ _ _ trivial h dX0_nameOf_38)
  ·
    refine n_swIn hx hb e1 (by decide) (off := 38) (tgt := 39) dX0_nameOf_1 (by decide) (by decide) rfl (by decide) ?_
    refine va_ldcS hx hb S0.2.2.2.1 (sR_3 hG) dX0_nameOf_39 ?_
    exact tRf (congrArg G.2.2.2.1 (show 3 = nmI x by unfold nmI; simp [e1])) (hret () _ _ _ _ trivial h dX0_nameOf_41)
  ·
    refine n_swIn hx hb e1 (by decide) (off := 41) (tgt := 42) dX0_nameOf_1 (by decide) (by decide) rfl (by decide) ?_
    refine va_ldcS hx hb S0.2.2.2.1 (sR_4 hG) dX0_nameOf_42 ?_
    exact tRf (congrArg G.2.2.2.1 (show 4 = nmI x by unfold nmI; simp [e1])) (hret () _ _ _ _ trivial h dX0_nameOf_44)
  ·
    refine n_swIn hx hb e1 (by decide) (off := 44) (tgt := 45) dX0_nameOf_1 (by decide) (by decide) rfl (by decide) ?_
    refine va_ldcS hx hb S0.2.2.2.1 (sR_5 hG) dX0_nameOf_45 ?_
    exact tRf (congrArg G.2.2.2.1 (show 5 = nmI x by unfold nmI; simp [e1])) (hret () _ _ _ _ trivial h dX0_nameOf_47)
  ·
    refine n_swIn hx hb e1 (by decide) (off := 47) (tgt := 48) dX0_nameOf_1 (by decide) (by decide) rfl (by decide) ?_
    refine va_ldcS hx hb S0.2.2.2.1 (sR_6 hG) dX0_nameOf_48 ?_
    exact tRf (congrArg G.2.2.2.1 (show 6 = nmI x by unfold nmI; simp [e1])) (hret () _ _ _ _ trivial h dX0_nameOf_50)
  ·
    refine n_swOut hx hb (by omega) (tgt := 51) dX0_nameOf_1 (by omega) (by decide) ?_
    refine va_ldcS hx hb S0.2.2.2.1 (sR_7 hG) dX0_nameOf_51 ?_
    exact tRf (congrArg G.2.2.2.1 (show 7 = nmI x by unfold nmI; rw [if_neg e1.1, if_neg e1.2.1, if_neg e1.2.2.1, if_neg e1.2.2.2.1, if_neg e1.2.2.2.2])) (hret () _ _ _ _ trivial h dX0_nameOf_53)
