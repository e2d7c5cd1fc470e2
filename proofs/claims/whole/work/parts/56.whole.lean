/-! from the entry on -/
theorem kdS_X10_init : yX10_init.cls ≠ "java/lang/invoke/MethodHandle" ∧ yX10_init.cls ≠ "java/lang/invoke/VarHandle" ∧ (parseMethodDescriptor yX10_init.desc).map (fun d => d.parameters.length) = some 0 := ⟨by decide +kernel, by decide +kernel, by decide +kernel⟩
theorem kdS_X11_init : yX11_init.cls ≠ "java/lang/invoke/MethodHandle" ∧ yX11_init.cls ≠ "java/lang/invoke/VarHandle" ∧ (parseMethodDescriptor yX11_init.desc).map (fun d => d.parameters.length) = some 0 := ⟨by decide +kernel, by decide +kernel, by decide +kernel⟩
theorem Ok_0 : Ok f0 z0 0 z0 z0 0 f0 := by
  have hI : Inv f0 ∧ f0 0 ≤ 99999 := ⟨by unfold Inv; decide, by decide⟩
  exact ⟨hI, ⟨fun i => by unfold z0; decide, by decide⟩, fun i hi => ⟨Nat.zero_le _, Or.inl rfl, fun _ => rfl⟩, by decide, hI⟩
set_option maxHeartbeats 4000000 in
set_option maxRecDepth 100000 in
theorem whole_start {p : Program} {e : Env} {s : State} {m : MethodId} {below : List Frame} {meth : Method} {c : Code} (l : Launch) (hflags : l.flags = flags0) {b L : Nat} {xs : Nat → Int32} (hL : L ≤ 3072) (C0 : lw_At p s m meth c b L xs) : W p l e room_1 s m #[Value.ref b] below meth c s.heap [] 0 0 (lw_Z below #[Value.ref b] s) (entryFrame m ([Value.ref b] : List Value).toArray 4) := by
  obtain ⟨hx, hb, hr, hml, hown, hts, hX, hbl, hlocks, hgv⟩ := C0
  obtain ⟨G, hG⟩ := start_G hts hgv
  have hO : va_AO "ComposedInterval$Sheet" s := va_AO.of (hts (.arrayOver (.object "ComposedInterval$Sheet")) (List.mem_of_getElem? (i := 127) (by decide +kernel)))
  have S0 : CF p m c cL_law 4 s #[Value.ref b] RL := ⟨hx, hb, hml, hown, fun w hw => hts w (wsL_in w hw)⟩
  have hA : ∀ q : Nat, s.heap.size ≤ q → (fun q : Nat => s.heap.size ≤ q) q := fun _ h => h
  have hbA : ¬ (fun q : Nat => s.heap.size ≤ q) b := Nat.not_le.mpr hbl
  have hl := lv_entry ([.ref b]) (n := 4) (Nat.le_of_ble_eq_true rfl)
  rw [lg_entry_eq]
  generalize (lg_sl ([.ref b]) ++ List.replicate (4 - (lg_sl ([.ref b])).length) Slot.unset).toArray = ls at hl ⊢
  have hl : lv_has ls 4 [(0, .ref b)] := hl
  have h : WX G (fun q : Nat => s.heap.size ≤ q) s s.heap [] [] := ⟨fun k q hk => by simp at hk, ⟨fun i j p q hp => by simp at hp, fun k q hk => by simp at hk⟩, va_S.rf⟩
  refine ct_new (ci := 10) (fs := [.null, .null, .null, .null, .null, .null, .int 0]) S0 hG hA h inlX10 tyX10 tyX10_ok (rin1 _ (List.mem_of_getElem? (i := 0) rfl)) (rin1 _ (List.mem_of_getElem? (i := 1) rfl)) (rin1 _ (List.mem_of_getElem? (i := 2) rfl)) rfl fsX10 (Nat.le_of_ble_eq_true rfl) (Nat.le_of_ble_eq_true rfl) dL_law_0 (fun q0 H h => ?_)
  have h : WX G (fun q : Nat => s.heap.size ≤ q) s _ _ [(q0, .inr (10, [.null, .null, .null, .null, .null, .null, .int 0]))] := h
  refine lv_dup hx hb dL_law_3 rfl ?_
  refine cI_m (wr := []) S0 hG hA hO h hl.1 (ws_ok (rin1 _ (List.mem_of_getElem? (i := 9) rfl))) (rin1 _ (List.mem_of_getElem? (i := 2) rfl)) (rin1 _ (List.mem_of_getElem? (i := 8) rfl)) (rin1 _ (List.mem_of_getElem? (i := 7) rfl)) kdS_X10_init rfl (c_X10_init (b0 := q0)) ⟨rfl, rfl, by decide, by decide, (Nat.le_of_ble_eq_true rfl), (Nat.le_of_ble_eq_true rfl)⟩ rfl [0] [] (by decide) rfl rfl rfl (by decide) (by decide) rfl (Nat.le_of_ble_eq_true rfl) dL_law_4 (fun u H locs h => ?_)
  have h : WX G (fun q : Nat => s.heap.size ≤ q) s _ _ (wC G (ax q0 u) f0 z0 z0 0 z8 z0 z0 0 f0 D0) := h
  refine lv_astore_n hx hb dL_law_7 rfl hl (by decide) rfl (fun ls hl => ?_)
  refine ct_new (ci := 11) (fs := [.null, .null, .null, .null, .null, .null, .int 0, .int 0, .null, .int 0, .int 0, .int 0, .int 0, .int 0, .null, .null, .null, .null]) S0 hG hA h inlX11 tyX11 tyX11_ok (rin1 _ (List.mem_of_getElem? (i := 3) rfl)) (rin1 _ (List.mem_of_getElem? (i := 4) rfl)) (rin1 _ (List.mem_of_getElem? (i := 5) rfl)) rfl fsX11 (Nat.le_of_ble_eq_true rfl) (Nat.le_of_ble_eq_true rfl) dL_law_8 (fun q1 H h => ?_)
  have h : WX G (fun q : Nat => s.heap.size ≤ q) s _ _ (wC G (ax q0 u) f0 z0 z0 0 z8 z0 z0 0 f0 D0 ++ [(q1, .inr (11, [.null, .null, .null, .null, .null, .null, .int 0, .int 0, .null, .int 0, .int 0, .int 0, .int 0, .int 0, .null, .null, .null, .null]))]) := h
  refine lv_dup hx hb dL_law_11 rfl ?_
  refine cI_m (wr := wC G (ax q0 u) f0 z0 z0 0 z8 z0 z0 0 f0 D0) S0 hG hA hO h hl.1 (ws_ok (rin5 _ (List.mem_of_getElem? (i := 13) rfl))) (rin1 _ (List.mem_of_getElem? (i := 5) rfl)) (rin5 _ (List.mem_of_getElem? (i := 12) rfl)) (rin5 _ (List.mem_of_getElem? (i := 11) rfl)) kdS_X11_init rfl (c_X11_init (b0 := q1)) ⟨rfl, rfl, by decide, by decide, (Nat.le_of_ble_eq_true rfl), (Nat.le_of_ble_eq_true rfl)⟩ rfl [47] isL (by decide) rfl rfl isL_m isL_nd (by decide) rfl (Nat.le_of_ble_eq_true rfl) dL_law_12 (fun v H locs h => ?_)
  have h : WX G (fun q : Nat => s.heap.size ≤ q) s _ _ (wC G (ax q0 u) f0 z0 z0 0 z8 z0 z0 0 f0 D0 ++ wM G (ax q1 v) f0 z0 z0 z0 z0 z0 z0 z0 z0 z8 z8 0 0 0 0 0 0 0) := h
  refine lv_astore_n hx hb dL_law_15 rfl hl (by decide) rfl (fun ls hl => ?_)
  refine lv_iconst (v := nI 0) hx hb dL_law_16 (by decide) ?_
  refine lv_istore_n hx hb dL_law_17 rfl hl (by decide) rfl (fun ls hl => ?_)
  exact law_loop (o := ax q0 u) (a := ax q1 v) S0 hG hA hX hbl hbA hL (Nat.le_of_ble_eq_true rfl) (Nat.le_of_ble_eq_true rfl) hr hlocks (fun _ h => h) (L + 1) 0 (Nat.zero_le _) (by omega) f0 z0 z0 0 z8 z0 z0 0 f0 z0 D0 z0 z0 z0 z8 0 0 0 0 0 _ _ _ Ok_0 (fun q => absurd rfl q) h (lv_sub hl [3, 2, 1, 0] rfl)
