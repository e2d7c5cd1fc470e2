/-! the tape, with a foyer -/
def wT (G : GT) (t a : Nat → Nat) (tb : Nat → Nat) (tn tk ts tx tv : Nat) (f : Nat → Nat) (q sp : Nat) (rg : Int32) (wd : Nat → Nat) (it : Nat) : va_W := [(t 0, .inr (9, [.ref (t 1), .int (nI tn), .int (nI tk), .int (nI ts), .int (nI tx), .int (nI tv)])), (t 1, .inl (gI G, 120, .inl (fun i => nI (tb i)))), (a 0, .inr (3, [.ref (a 9), .ref (a 1), .ref (a 2), .ref (a 3), .ref (a 4), .ref (a 5), .ref (a 6), .ref (a 7), .int (nI (f 0)), .int (nI (f 1)), .int (nI q), .int (nI sp), .int rg, .ref (a 8), .int (nI it)])), (a 1, .inl (gI G, 6, .inl (fun i => nI (sc f i)))), (a 2, .inl (gI G, 3, .inl (fun i => nI (be f i)))), (a 3, .inl (gI G, 8, .inl (fun i => nI (its f i 0)))), (a 4, .inl (gI G, 8, .inl (fun i => nI (its f i 1)))), (a 5, .inl (gI G, 8, .inl (fun i => nI (its f i 2)))), (a 6, .inl (gI G, 8, .inl (fun i => nI (its f i 3)))), (a 7, .inl (gI G, 8, .inl (fun i => nI (its f i 4)))), (a 8, .inl (gI G, 8, .inl (fun i => nI (wd i)))), (a 9, .inr (0, [.ref (a 10), .ref (a 11), .ref (a 12), .ref (a 13), .ref (a 14), .ref (a 15)])), (a 10, .inr (4, [])), (a 11, .inr (2, [])), (a 12, .inr (8, [])), (a 13, .inr (5, [])), (a 14, .inr (1, [])), (a 15, .inr (6, []))]
section TR
variable {p : Program} {l : Launch} {e : Env} {R : Room} {s : State} {m : MethodId} {args : Array Value} {below : List Frame} {meth : Method} {c : Code} {H : Heap} {locs : List Loc} {cells slots : Nat} {Q : State → Prop}
variable {cc : ByteArray} {pc nL : Nat} {ls : Array Slot} {rest : List Value} {A : Nat → Prop} {G : GT} {a : Nat → Nat} {own : String}
variable {t : Nat → Nat} {tb : Nat → Nat} {tn tk ts tx tv : Nat} {f : Nat → Nat} {q sp : Nat} {rg : Int32} {wd : Nat → Nat} {it : Nat}
theorem gT_bytes (S0 : CF p m c cc nL s args RX9) (hG : GX G A s) (h : WX G A s H locs (wT G t a tb tn tk ts tx tv f q sp rg wd it)) (hdg : decode cc pc = .ok (.getfield 9, 3)) (kk : W p l e R s m args below meth c H locs cells slots Q (F0 m (pc + 3) ls (.ref (t 1) :: rest))) : W p l e R s m args below meth c H locs cells slots Q (F0 m pc ls (.ref (t 0) :: rest)) :=
  va_get S0.1 S0.2.1 S0.2.2.2.2 inlX9 S0.2.2.2.1 hG.2.2.1 h.1 0 rfl rfl 0 (by decide) (S0.2.2.2.2 _ (rin2 _ (List.mem_of_getElem? (i := 12) rfl))) (fun _ h => h) rfl hdg kk
theorem gT_length (S0 : CF p m c cc nL s args RX9) (hG : GX G A s) (h : WX G A s H locs (wT G t a tb tn tk ts tx tv f q sp rg wd it)) (hdg : decode cc pc = .ok (.getfield 15, 3)) (kk : W p l e R s m args below meth c H locs cells slots Q (F0 m (pc + 3) ls (.int (nI tn) :: rest))) : W p l e R s m args below meth c H locs cells slots Q (F0 m pc ls (.ref (t 0) :: rest)) :=
  va_get S0.1 S0.2.1 S0.2.2.2.2 inlX9 S0.2.2.2.1 hG.2.2.1 h.1 0 rfl rfl 1 (by decide) (S0.2.2.2.2 _ (rin2 _ (List.mem_of_getElem? (i := 13) rfl))) (fun _ h => h) rfl hdg kk
theorem pT_length {v : Nat} (S0 : CF p m c cc nL s args RX9) (hG : GX G A s) (h : WX G A s H locs (wT G t a tb tn tk ts tx tv f q sp rg wd it)) (hdg : decode cc pc = .ok (.putfield 15, 3)) (kk : ∀ (H1 : Heap) (locs1 : List Loc), WX G A s H1 locs1 (wT G t a tb v tk ts tx tv f q sp rg wd it) → W p l e R s m args below meth c H1 locs1 cells slots Q (F0 m (pc + 3) ls rest)) : W p l e R s m args below meth c H locs cells slots Q (F0 m pc ls (.int (nI v) :: .ref (t 0) :: rest)) :=
  va_put (ty := .int) S0.1 S0.2.1 S0.2.2.2.2 inlX9 tyX9 tyX9_ok nmX9 S0.2.2.2.1 hG.2.2.1 h.1 h.2.1 h.2.2 0 rfl rfl 1 (by decide) (S0.2.2.2.2 _ (rin2 _ (List.mem_of_getElem? (i := 13) rfl))) (fun _ h => h) rfl (by decide +kernel) rfl rfl (Nat.le_of_ble_eq_true rfl) hdg (fun H1 locs1 hP hD hS => kk H1 locs1 (⟨hP, hD, hS⟩))
theorem gT_token (S0 : CF p m c cc nL s args RX9) (hG : GX G A s) (h : WX G A s H locs (wT G t a tb tn tk ts tx tv f q sp rg wd it)) (hdg : decode cc pc = .ok (.getfield 19, 3)) (kk : W p l e R s m args below meth c H locs cells slots Q (F0 m (pc + 3) ls (.int (nI tk) :: rest))) : W p l e R s m args below meth c H locs cells slots Q (F0 m pc ls (.ref (t 0) :: rest)) :=
  va_get S0.1 S0.2.1 S0.2.2.2.2 inlX9 S0.2.2.2.1 hG.2.2.1 h.1 0 rfl rfl 2 (by decide) (S0.2.2.2.2 _ (rin2 _ (List.mem_of_getElem? (i := 14) rfl))) (fun _ h => h) rfl hdg kk
theorem pT_token {v : Nat} (S0 : CF p m c cc nL s args RX9) (hG : GX G A s) (h : WX G A s H locs (wT G t a tb tn tk ts tx tv f q sp rg wd it)) (hdg : decode cc pc = .ok (.putfield 19, 3)) (kk : ∀ (H1 : Heap) (locs1 : List Loc), WX G A s H1 locs1 (wT G t a tb tn v ts tx tv f q sp rg wd it) → W p l e R s m args below meth c H1 locs1 cells slots Q (F0 m (pc + 3) ls rest)) : W p l e R s m args below meth c H locs cells slots Q (F0 m pc ls (.int (nI v) :: .ref (t 0) :: rest)) :=
  va_put (ty := .int) S0.1 S0.2.1 S0.2.2.2.2 inlX9 tyX9 tyX9_ok nmX9 S0.2.2.2.1 hG.2.2.1 h.1 h.2.1 h.2.2 0 rfl rfl 2 (by decide) (S0.2.2.2.2 _ (rin2 _ (List.mem_of_getElem? (i := 14) rfl))) (fun _ h => h) rfl (by decide +kernel) rfl rfl (Nat.le_of_ble_eq_true rfl) hdg (fun H1 locs1 hP hD hS => kk H1 locs1 (⟨hP, hD, hS⟩))
theorem gT_start (S0 : CF p m c cc nL s args RX9) (hG : GX G A s) (h : WX G A s H locs (wT G t a tb tn tk ts tx tv f q sp rg wd it)) (hdg : decode cc pc = .ok (.getfield 22, 3)) (kk : W p l e R s m args below meth c H locs cells slots Q (F0 m (pc + 3) ls (.int (nI ts) :: rest))) : W p l e R s m args below meth c H locs cells slots Q (F0 m pc ls (.ref (t 0) :: rest)) :=
  va_get S0.1 S0.2.1 S0.2.2.2.2 inlX9 S0.2.2.2.1 hG.2.2.1 h.1 0 rfl rfl 3 (by decide) (S0.2.2.2.2 _ (rin2 _ (List.mem_of_getElem? (i := 15) rfl))) (fun _ h => h) rfl hdg kk
theorem pT_start {v : Nat} (S0 : CF p m c cc nL s args RX9) (hG : GX G A s) (h : WX G A s H locs (wT G t a tb tn tk ts tx tv f q sp rg wd it)) (hdg : decode cc pc = .ok (.putfield 22, 3)) (kk : ∀ (H1 : Heap) (locs1 : List Loc), WX G A s H1 locs1 (wT G t a tb tn tk v tx tv f q sp rg wd it) → W p l e R s m args below meth c H1 locs1 cells slots Q (F0 m (pc + 3) ls rest)) : W p l e R s m args below meth c H locs cells slots Q (F0 m pc ls (.int (nI v) :: .ref (t 0) :: rest)) :=
  va_put (ty := .int) S0.1 S0.2.1 S0.2.2.2.2 inlX9 tyX9 tyX9_ok nmX9 S0.2.2.2.1 hG.2.2.1 h.1 h.2.1 h.2.2 0 rfl rfl 3 (by decide) (S0.2.2.2.2 _ (rin2 _ (List.mem_of_getElem? (i := 15) rfl))) (fun _ h => h) rfl (by decide +kernel) rfl rfl (Nat.le_of_ble_eq_true rfl) hdg (fun H1 locs1 hP hD hS => kk H1 locs1 (⟨hP, hD, hS⟩))
theorem gT_next (S0 : CF p m c cc nL s args RX9) (hG : GX G A s) (h : WX G A s H locs (wT G t a tb tn tk ts tx tv f q sp rg wd it)) (hdg : decode cc pc = .ok (.getfield 25, 3)) (kk : W p l e R s m args below meth c H locs cells slots Q (F0 m (pc + 3) ls (.int (nI tx) :: rest))) : W p l e R s m args below meth c H locs cells slots Q (F0 m pc ls (.ref (t 0) :: rest)) :=
  va_get S0.1 S0.2.1 S0.2.2.2.2 inlX9 S0.2.2.2.1 hG.2.2.1 h.1 0 rfl rfl 4 (by decide) (S0.2.2.2.2 _ (rin2 _ (List.mem_of_getElem? (i := 16) rfl))) (fun _ h => h) rfl hdg kk
theorem pT_next {v : Nat} (S0 : CF p m c cc nL s args RX9) (hG : GX G A s) (h : WX G A s H locs (wT G t a tb tn tk ts tx tv f q sp rg wd it)) (hdg : decode cc pc = .ok (.putfield 25, 3)) (kk : ∀ (H1 : Heap) (locs1 : List Loc), WX G A s H1 locs1 (wT G t a tb tn tk ts v tv f q sp rg wd it) → W p l e R s m args below meth c H1 locs1 cells slots Q (F0 m (pc + 3) ls rest)) : W p l e R s m args below meth c H locs cells slots Q (F0 m pc ls (.int (nI v) :: .ref (t 0) :: rest)) :=
  va_put (ty := .int) S0.1 S0.2.1 S0.2.2.2.2 inlX9 tyX9 tyX9_ok nmX9 S0.2.2.2.1 hG.2.2.1 h.1 h.2.1 h.2.2 0 rfl rfl 4 (by decide) (S0.2.2.2.2 _ (rin2 _ (List.mem_of_getElem? (i := 16) rfl))) (fun _ h => h) rfl (by decide +kernel) rfl rfl (Nat.le_of_ble_eq_true rfl) hdg (fun H1 locs1 hP hD hS => kk H1 locs1 (⟨hP, hD, hS⟩))
theorem gT_value (S0 : CF p m c cc nL s args RX9) (hG : GX G A s) (h : WX G A s H locs (wT G t a tb tn tk ts tx tv f q sp rg wd it)) (hdg : decode cc pc = .ok (.getfield 28, 3)) (kk : W p l e R s m args below meth c H locs cells slots Q (F0 m (pc + 3) ls (.int (nI tv) :: rest))) : W p l e R s m args below meth c H locs cells slots Q (F0 m pc ls (.ref (t 0) :: rest)) :=
  va_get S0.1 S0.2.1 S0.2.2.2.2 inlX9 S0.2.2.2.1 hG.2.2.1 h.1 0 rfl rfl 5 (by decide) (S0.2.2.2.2 _ (rin2 _ (List.mem_of_getElem? (i := 17) rfl))) (fun _ h => h) rfl hdg kk
theorem pT_value {v : Nat} (S0 : CF p m c cc nL s args RX9) (hG : GX G A s) (h : WX G A s H locs (wT G t a tb tn tk ts tx tv f q sp rg wd it)) (hdg : decode cc pc = .ok (.putfield 28, 3)) (kk : ∀ (H1 : Heap) (locs1 : List Loc), WX G A s H1 locs1 (wT G t a tb tn tk ts tx v f q sp rg wd it) → W p l e R s m args below meth c H1 locs1 cells slots Q (F0 m (pc + 3) ls rest)) : W p l e R s m args below meth c H locs cells slots Q (F0 m pc ls (.int (nI v) :: .ref (t 0) :: rest)) :=
  va_put (ty := .int) S0.1 S0.2.1 S0.2.2.2.2 inlX9 tyX9 tyX9_ok nmX9 S0.2.2.2.1 hG.2.2.1 h.1 h.2.1 h.2.2 0 rfl rfl 5 (by decide) (S0.2.2.2.2 _ (rin2 _ (List.mem_of_getElem? (i := 17) rfl))) (fun _ h => h) rfl (by decide +kernel) rfl rfl (Nat.le_of_ble_eq_true rfl) hdg (fun H1 locs1 hP hD hS => kk H1 locs1 (⟨hP, hD, hS⟩))
theorem gTF_score (S0 : CF p m c cc nL s args RX9) (hG : GX G A s) (h : WX G A s H locs (wT G t a tb tn tk ts tx tv f q sp rg wd it)) (hdg : decode cc pc = .ok (.getfield 66, 3)) (kk : W p l e R s m args below meth c H locs cells slots Q (F0 m (pc + 3) ls (.ref (a 1) :: rest))) : W p l e R s m args below meth c H locs cells slots Q (F0 m pc ls (.ref (a 0) :: rest)) :=
  va_getN (host := "ComposedInterval") S0.1 S0.2.1 S0.2.2.2.2 inlX3 S0.2.2.2.1 hG.2.2.1 h.1 2 rfl rfl 1 (by decide) ((hG.1 _ (List.mem_of_getElem? (i := 16) rfl)).use rfl) (fun _ h => h) rfl hdg kk
theorem gTF_bells (S0 : CF p m c cc nL s args RX9) (hG : GX G A s) (h : WX G A s H locs (wT G t a tb tn tk ts tx tv f q sp rg wd it)) (hdg : decode cc pc = .ok (.getfield 70, 3)) (kk : W p l e R s m args below meth c H locs cells slots Q (F0 m (pc + 3) ls (.ref (a 2) :: rest))) : W p l e R s m args below meth c H locs cells slots Q (F0 m pc ls (.ref (a 0) :: rest)) :=
  va_getN (host := "ComposedInterval") S0.1 S0.2.1 S0.2.2.2.2 inlX3 S0.2.2.2.1 hG.2.2.1 h.1 2 rfl rfl 2 (by decide) ((hG.1 _ (List.mem_of_getElem? (i := 18) rfl)).use rfl) (fun _ h => h) rfl hdg kk
theorem gTF_people (S0 : CF p m c cc nL s args RX9) (hG : GX G A s) (h : WX G A s H locs (wT G t a tb tn tk ts tx tv f q sp rg wd it)) (hdg : decode cc pc = .ok (.getfield 73, 3)) (kk : W p l e R s m args below meth c H locs cells slots Q (F0 m (pc + 3) ls (.int (nI (f 1)) :: rest))) : W p l e R s m args below meth c H locs cells slots Q (F0 m pc ls (.ref (a 0) :: rest)) :=
  va_getN (host := "ComposedInterval") S0.1 S0.2.1 S0.2.2.2.2 inlX3 S0.2.2.2.1 hG.2.2.1 h.1 2 rfl rfl 9 (by decide) ((hG.1 _ (List.mem_of_getElem? (i := 31) rfl)).use rfl) (fun _ h => h) rfl hdg kk
theorem rT_bytes {j : Nat} (S0 : CF p m c cc nL s args own) (hG : GX G A s) (h : WX G A s H locs (wT G t a tb tn tk ts tx tv f q sp rg wd it)) (hj : j < 120) (hdg : decode cc pc = .ok (.iaload, 1)) (kk : W p l e R s m args below meth c H locs cells slots Q (F0 m (pc + 1) ls (.int (nI (tb j)) :: rest))) : W p l e R s m args below meth c H locs cells slots Q (F0 m pc ls (.int (nI j) :: .ref (t 1) :: rest)) :=
  va_iald S0.1 S0.2.1 hG.2.2.1 h.1 1 0 rfl rfl (vp_in_nI hj (by decide)) hdg (by rw [cl_nI hj (by decide)]; exact kk)
theorem sT_bytes {j v : Nat} (S0 : CF p m c cc nL s args own) (hG : GX G A s) (h : WX G A s H locs (wT G t a tb tn tk ts tx tv f q sp rg wd it)) (hj : j < 120) (hdg : decode cc pc = .ok (.iastore, 1)) (kk : ∀ (H1 : Heap) (locs1 : List Loc), WX G A s H1 locs1 (wT G t a (va_up tb j v) tn tk ts tx tv f q sp rg wd it) → W p l e R s m args below meth c H1 locs1 cells slots Q (F0 m (pc + 1) ls rest)) : W p l e R s m args below meth c H locs cells slots Q (F0 m pc ls (.int (nI v) :: .int (nI j) :: .ref (t 1) :: rest)) :=
  va_iast S0.1 S0.2.1 hG.2.2.1 h.1 h.2.1 h.2.2 1 0 rfl rfl (vp_in_nI hj (by decide)) hdg (fun H1 locs1 hP hD hS => kk H1 locs1 (by rw [cl_nI hj (by decide), up_nI] at hP hD; exact ⟨hP, hD, hS⟩))
theorem sT_score {j v : Nat} (S0 : CF p m c cc nL s args own) (hG : GX G A s) (h : WX G A s H locs (wT G t a tb tn tk ts tx tv f q sp rg wd it)) (hj : j < 6) (hdg : decode cc pc = .ok (.iastore, 1)) (kk : ∀ (H1 : Heap) (locs1 : List Loc), WX G A s H1 locs1 (wT G t a tb tn tk ts tx tv (va_up f (2 + j) v) q sp rg wd it) → W p l e R s m args below meth c H1 locs1 cells slots Q (F0 m (pc + 1) ls rest)) : W p l e R s m args below meth c H locs cells slots Q (F0 m pc ls (.int (nI v) :: .int (nI j) :: .ref (a 1) :: rest)) :=
  va_iast S0.1 S0.2.1 hG.2.2.1 h.1 h.2.1 h.2.2 3 0 rfl rfl (vp_in_nI hj (by decide)) hdg (fun H1 locs1 hP hD hS => kk H1 locs1 (WX.sim (ws := ((wT G t a tb tn tk ts tx tv f q sp rg wd it).set 3 _)) ⟨hP, hD, hS⟩ ⟨rfl, Or.inl rfl, rfl, Or.inl rfl, rfl, Or.inl (by simp only [va_up_n f v (show (0 : Nat) ≠ (2 + j) by omega), va_up_n f v (show (1 : Nat) ≠ (2 + j) by omega)]), rfl, Or.inr ⟨_, _, _, _, rfl, rfl, fun i hi => by rw [cl_nI hj (by decide)]; unfold upd; by_cases e : i = j; rw [if_pos e, e]; exact nI_cong (by unfold sc; rw [va_up_s]); rw [if_neg e]; exact nI_cong (by unfold sc; rw [va_up_n _ _ (by omega)])⟩, rfl, Or.inr ⟨_, _, _, _, rfl, rfl, fun i hi => nI_cong (by unfold be; rw [va_up_n _ _ (by omega)])⟩, rfl, Or.inr ⟨_, _, _, _, rfl, rfl, fun i hi => nI_cong (by rw [its_lo (by omega)])⟩, rfl, Or.inr ⟨_, _, _, _, rfl, rfl, fun i hi => nI_cong (by rw [its_lo (by omega)])⟩, rfl, Or.inr ⟨_, _, _, _, rfl, rfl, fun i hi => nI_cong (by rw [its_lo (by omega)])⟩, rfl, Or.inr ⟨_, _, _, _, rfl, rfl, fun i hi => nI_cong (by rw [its_lo (by omega)])⟩, rfl, Or.inr ⟨_, _, _, _, rfl, rfl, fun i hi => nI_cong (by rw [its_lo (by omega)])⟩, rfl, Or.inl rfl, rfl, Or.inl rfl, rfl, Or.inl rfl, rfl, Or.inl rfl, rfl, Or.inl rfl, rfl, Or.inl rfl, rfl, Or.inl rfl, rfl, Or.inl rfl, trivial⟩))
theorem sT_bells {j v : Nat} (S0 : CF p m c cc nL s args own) (hG : GX G A s) (h : WX G A s H locs (wT G t a tb tn tk ts tx tv f q sp rg wd it)) (hj : j < 3) (hdg : decode cc pc = .ok (.iastore, 1)) (kk : ∀ (H1 : Heap) (locs1 : List Loc), WX G A s H1 locs1 (wT G t a tb tn tk ts tx tv (va_up f (8 + j) v) q sp rg wd it) → W p l e R s m args below meth c H1 locs1 cells slots Q (F0 m (pc + 1) ls rest)) : W p l e R s m args below meth c H locs cells slots Q (F0 m pc ls (.int (nI v) :: .int (nI j) :: .ref (a 2) :: rest)) :=
  va_iast S0.1 S0.2.1 hG.2.2.1 h.1 h.2.1 h.2.2 4 0 rfl rfl (vp_in_nI hj (by decide)) hdg (fun H1 locs1 hP hD hS => kk H1 locs1 (WX.sim (ws := ((wT G t a tb tn tk ts tx tv f q sp rg wd it).set 4 _)) ⟨hP, hD, hS⟩ ⟨rfl, Or.inl rfl, rfl, Or.inl rfl, rfl, Or.inl (by simp only [va_up_n f v (show (0 : Nat) ≠ (8 + j) by omega), va_up_n f v (show (1 : Nat) ≠ (8 + j) by omega)]), rfl, Or.inr ⟨_, _, _, _, rfl, rfl, fun i hi => nI_cong (by unfold sc; rw [va_up_n _ _ (by omega)])⟩, rfl, Or.inr ⟨_, _, _, _, rfl, rfl, fun i hi => by rw [cl_nI hj (by decide)]; unfold upd; by_cases e : i = j; rw [if_pos e, e]; exact nI_cong (by unfold be; rw [va_up_s]); rw [if_neg e]; exact nI_cong (by unfold be; rw [va_up_n _ _ (by omega)])⟩, rfl, Or.inr ⟨_, _, _, _, rfl, rfl, fun i hi => nI_cong (by rw [its_lo (by omega)])⟩, rfl, Or.inr ⟨_, _, _, _, rfl, rfl, fun i hi => nI_cong (by rw [its_lo (by omega)])⟩, rfl, Or.inr ⟨_, _, _, _, rfl, rfl, fun i hi => nI_cong (by rw [its_lo (by omega)])⟩, rfl, Or.inr ⟨_, _, _, _, rfl, rfl, fun i hi => nI_cong (by rw [its_lo (by omega)])⟩, rfl, Or.inr ⟨_, _, _, _, rfl, rfl, fun i hi => nI_cong (by rw [its_lo (by omega)])⟩, rfl, Or.inl rfl, rfl, Or.inl rfl, rfl, Or.inl rfl, rfl, Or.inl rfl, rfl, Or.inl rfl, rfl, Or.inl rfl, rfl, Or.inl rfl, rfl, Or.inl rfl, trivial⟩))
end TR
/-- what a token is; a number's value -/
def tkK (tb : Row) (tn s : Nat) : Nat := if tn ≤ s then 0 else if cL tb tn s = true then 1 else if cD tb tn s = true then 2 else if tb s = 59 then 3 else 4
def tkV (tb : Row) (tn s : Nat) : Nat := if cD tb tn s = true then val tb tn s else 0
theorem numC_le (tb : Row) (s : Nat) : ∀ n, numC tb s n ≤ 1000
  | 0 => Nat.zero_le _
  | n + 1 => Nat.min_le_left _ _
theorem tkV_le (tb : Row) (tn s : Nat) : tkV tb tn s ≤ 1000 := by
  unfold tkV
  split
  · exact numC_le _ _ _
  · omega
theorem tkK_le (tb : Row) (tn s : Nat) : tkK tb tn s ≤ 4 := by
  unfold tkK
  repeat' split
  all_goals omega
theorem min1000 {v : Nat} (hv : v < 2147483648) : (if nI v < nI 1000 then nI v else nI 1000) = nI (min 1000 v) := by
  by_cases h : v < 1000
  · rw [if_pos ((nI_ltI hv (by omega)).mpr h)]; exact nI_cong (by omega)
  · rw [if_neg (fun q => h ((nI_ltI hv (by omega)).mp q))]; exact nI_cong (by omega)
theorem fit_TF {f2 : Nat → Nat} {q2 sp2 : Nat} {rg2 : Int32} {wd2 : Nat → Nat} {it2 : Nat} {G : GT} {t a : Nat → Nat} {tb : Nat → Nat} {tn tk ts tx tv : Nat} {f : Nat → Nat} {q sp : Nat} {rg : Int32} {wd : Nat → Nat} {it : Nat} : ∀ (k : Nat) (z : Nat × va_E), (wT G t a tb tn tk ts tx tv f2 q2 sp2 rg2 wd2 it2)[k]? = some z → (∃ j : Nat, (wF G a f2 q2 sp2 rg2 wd2 it2)[j]? = some z) ∨ (k ∉ [2, 3, 4, 5, 6, 7, 8, 9, 10, 11, 12, 13, 14, 15, 16, 17] ∧ (wT G t a tb tn tk ts tx tv f q sp rg wd it)[k]? = some z)
  | 0, _, hq => Or.inr ⟨by decide, hq⟩
  | 1, _, hq => Or.inr ⟨by decide, hq⟩
  | 2, _, hq => Or.inl ⟨0, hq⟩
  | 3, _, hq => Or.inl ⟨1, hq⟩
  | 4, _, hq => Or.inl ⟨2, hq⟩
  | 5, _, hq => Or.inl ⟨3, hq⟩
  | 6, _, hq => Or.inl ⟨4, hq⟩
  | 7, _, hq => Or.inl ⟨5, hq⟩
  | 8, _, hq => Or.inl ⟨6, hq⟩
  | 9, _, hq => Or.inl ⟨7, hq⟩
  | 10, _, hq => Or.inl ⟨8, hq⟩
  | 11, _, hq => Or.inl ⟨9, hq⟩
  | 12, _, hq => Or.inl ⟨10, hq⟩
  | 13, _, hq => Or.inl ⟨11, hq⟩
  | 14, _, hq => Or.inl ⟨12, hq⟩
  | 15, _, hq => Or.inl ⟨13, hq⟩
  | 16, _, hq => Or.inl ⟨14, hq⟩
  | 17, _, hq => Or.inl ⟨15, hq⟩
  | n + 18, z, hq => by have h9 : (none : Option (Nat × va_E)) = some z := hq; cases h9
variable {G : GT} {l : Launch} {t a : Nat → Nat} {tb : Nat → Nat} {tn tk ts tx tv : Nat} {f : Nat → Nat} {q sp : Nat} {rg : Int32} {wd : Nat → Nat} {it : Nat}
set_option maxHeartbeats 4000000 in
set_option maxRecDepth 100000 in
theorem c_X9_isLetter {x : Nat} (hx1 : x < 256) : Ki G l yX9_isLetter cX9_isLetter 1 (some .boolean) (RM 1 0) [.int (nI x)] ([]) (fun u : Unit => []) (fun r _ => (r = nI 1 ∧ 97 ≤ x ∧ x ≤ 122) ∨ (r = nI 0 ∧ ¬ (97 ≤ x ∧ x ≤ 122))) := by
  refine Ki.ofz (by decide) (Nat.le_of_ble_eq_true rfl) ?_
  intro p e s m args below meth c A Q ls hx hb S0 hG hA h hret hl
  have S0 : CF p m c cX9_isLetter 1 s args RX9 := S0
  have hl : lv_has ls 1 [(0, .int (nI x))] := hl
  refine lv_iload_n hx hb dX9_isLetter_0 rfl (lv_at hl 0 rfl) ?_
  refine lv_bipush (v := nI 97) hx hb dX9_isLetter_1 (by decide) ?_
  refine n_clt hx hb (by omega) (by omega) (tgt := 16) dX9_isLetter_3 (by decide) (fun c3 => ?_) (fun c3 => ?_)
  ·
    refine lv_iconst (v := nI 0) hx hb dX9_isLetter_16 (by decide) ?_
    exact hret _ () _ _ _ _ (by decide) (Or.inr ⟨rfl, by omega⟩) h dX9_isLetter_17
  ·
    refine lv_iload_n hx hb dX9_isLetter_6 rfl (lv_at hl 0 rfl) ?_
    refine lv_bipush (v := nI 122) hx hb dX9_isLetter_7 (by decide) ?_
    refine n_cgt hx hb (by omega) (by omega) (tgt := 16) dX9_isLetter_9 (by decide) (fun c9 => ?_) (fun c9 => ?_)
    ·
      refine lv_iconst (v := nI 0) hx hb dX9_isLetter_16 (by decide) ?_
      exact hret _ () _ _ _ _ (by decide) (Or.inr ⟨rfl, by omega⟩) h dX9_isLetter_17
    ·
      refine lv_iconst (v := nI 1) hx hb dX9_isLetter_12 (by decide) ?_
      refine lv_goto (tgt := 17) hx hb dX9_isLetter_13 (by decide) ?_
      exact hret _ () _ _ _ _ (by decide) (Or.inl ⟨rfl, by omega⟩) h dX9_isLetter_17
set_option maxHeartbeats 4000000 in
set_option maxRecDepth 100000 in
theorem c_X9_isDigit {x : Nat} (hx1 : x < 256) : Ki G l yX9_isDigit cX9_isDigit 1 (some .boolean) (RM 1 0) [.int (nI x)] ([]) (fun u : Unit => []) (fun r _ => (r = nI 1 ∧ 48 ≤ x ∧ x ≤ 57) ∨ (r = nI 0 ∧ ¬ (48 ≤ x ∧ x ≤ 57))) := by
  refine Ki.ofz (by decide) (Nat.le_of_ble_eq_true rfl) ?_
  intro p e s m args below meth c A Q ls hx hb S0 hG hA h hret hl
  have S0 : CF p m c cX9_isDigit 1 s args RX9 := S0
  have hl : lv_has ls 1 [(0, .int (nI x))] := hl
  refine lv_iload_n hx hb dX9_isDigit_0 rfl (lv_at hl 0 rfl) ?_
  refine lv_bipush (v := nI 48) hx hb dX9_isDigit_1 (by decide) ?_
  refine n_clt hx hb (by omega) (by omega) (tgt := 16) dX9_isDigit_3 (by decide) (fun c3 => ?_) (fun c3 => ?_)
  ·
    refine lv_iconst (v := nI 0) hx hb dX9_isDigit_16 (by decide) ?_
    exact hret _ () _ _ _ _ (by decide) (Or.inr ⟨rfl, by omega⟩) h dX9_isDigit_17
  ·
    refine lv_iload_n hx hb dX9_isDigit_6 rfl (lv_at hl 0 rfl) ?_
    refine lv_bipush (v := nI 57) hx hb dX9_isDigit_7 (by decide) ?_
    refine n_cgt hx hb (by omega) (by omega) (tgt := 16) dX9_isDigit_9 (by decide) (fun c9 => ?_) (fun c9 => ?_)
    ·
      refine lv_iconst (v := nI 0) hx hb dX9_isDigit_16 (by decide) ?_
      exact hret _ () _ _ _ _ (by decide) (Or.inr ⟨rfl, by omega⟩) h dX9_isDigit_17
    ·
      refine lv_iconst (v := nI 1) hx hb dX9_isDigit_12 (by decide) ?_
      refine lv_goto (tgt := 17) hx hb dX9_isDigit_13 (by decide) ?_
      exact hret _ () _ _ _ _ (by decide) (Or.inl ⟨rfl, by omega⟩) h dX9_isDigit_17
set_option maxHeartbeats 4000000 in
set_option maxRecDepth 100000 in
theorem c_X9_append {x : Nat} (htn : tn < 120) : Kv G l yX9_append cX9_append 2 none (RM 1 0) [.ref (t 0), .int (nI x)] (wT G t a tb tn tk ts tx tv f q sp rg wd it) (fun u : Unit => wT G t a (va_up tb tn x) (tn + 1) tk ts tx tv f q sp rg wd it) (fun _ => True) := by
  refine Kv.of (by decide) (Nat.le_of_ble_eq_true rfl) ?_
  intro p e s m args below meth c A Q ls hx hb S0 hG hA h hret hl
  have S0 : CF p m c cX9_append 2 s args RX9 := S0
  have hl : lv_has ls 2 [(0, .ref (t 0)), (1, .int (nI x))] := hl
  refine lv_aload_n hx hb dX9_append_0 rfl (lv_at hl 0 rfl) ?_
  refine gT_length S0 hG h dX9_append_1 ?_
  refine lv_bipush (v := nI 120) hx hb dX9_append_4 (by decide) ?_
  refine n_cge hx hb (by omega) (by omega) (tgt := 29) dX9_append_6 (by decide) (fun c6 => absurd c6 (by omega)) (fun c6 => ?_)
  refine lv_aload_n hx hb dX9_append_9 rfl (lv_at hl 0 rfl) ?_
  refine gT_bytes S0 hG h dX9_append_10 ?_
  refine lv_aload_n hx hb dX9_append_13 rfl (lv_at hl 0 rfl) ?_
  refine gT_length S0 hG h dX9_append_14 ?_
  refine lv_iload_n hx hb dX9_append_17 rfl (lv_at hl 1 rfl) ?_
  refine sT_bytes S0 hG h (by omega) dX9_append_18 (fun H locs h => ?_)
  refine lv_aload_n hx hb dX9_append_19 rfl (lv_at hl 0 rfl) ?_
  refine lv_dup hx hb dX9_append_20 rfl ?_
  refine gT_length S0 hG h dX9_append_21 ?_
  refine lv_iconst (v := nI 1) hx hb dX9_append_24 (by decide) ?_
  refine n_add hx hb dX9_append_25 ?_
  refine pT_length S0 hG h dX9_append_26 (fun H locs h => ?_)
  exact hret () _ _ _ _ trivial h dX9_append_29
theorem kw_RX9_91 : GoodIn wsL_law (va_wsS RX9 91 yX9_isLetter (WS yX9_isLetter cX9_isLetter 1 (some .boolean))) := gS (rin29 _ (List.mem_of_getElem? (i := 7) rfl)) (rin29 _ (List.mem_of_getElem? (i := 8) rfl)) (rin1 _ (List.mem_of_getElem? (i := 15) rfl)) (rin29 _ (List.mem_of_getElem? (i := 9) rfl))
theorem kw_RX9_95 : GoodIn wsL_law (va_wsS RX9 95 yX9_isDigit (WS yX9_isDigit cX9_isDigit 1 (some .boolean))) := gS (rin29 _ (List.mem_of_getElem? (i := 10) rfl)) (rin29 _ (List.mem_of_getElem? (i := 11) rfl)) (rin1 _ (List.mem_of_getElem? (i := 15) rfl)) (rin29 _ (List.mem_of_getElem? (i := 12) rfl))
theorem kdS_X9_isLetter : yX9_isLetter.cls ≠ "java/lang/invoke/MethodHandle" ∧ yX9_isLetter.cls ≠ "java/lang/invoke/VarHandle" ∧ (parseMethodDescriptor yX9_isLetter.desc).map (fun d => d.parameters.length) = some 1 := ⟨by decide +kernel, by decide +kernel, by decide +kernel⟩
theorem kdS_X9_isDigit : yX9_isDigit.cls ≠ "java/lang/invoke/MethodHandle" ∧ yX9_isDigit.cls ≠ "java/lang/invoke/VarHandle" ∧ (parseMethodDescriptor yX9_isDigit.desc).map (fun d => d.parameters.length) = some 1 := ⟨by decide +kernel, by decide +kernel, by decide +kernel⟩
set_option maxHeartbeats 4000000 in
set_option maxRecDepth 100000 in
theorem c_X9_advance (hT : ∀ i, tb i < 256) (htn : tn ≤ 120) (htx : tx ≤ tn) : Kv G l yX9_advance cX9_advance 2 none (RM 2 40) [.ref (t 0)] (wT G t a tb tn tk ts tx tv f q sp rg wd it) (fun u : Unit => wT G t a tb tn (tkK tb tn (tkS tb tn tx)) (tkS tb tn tx) (tkE tb tn (tkS tb tn tx)) (tkV tb tn (tkS tb tn tx)) f q sp rg wd it) (fun _ => True) := by
  refine Kv.of (by decide) (Nat.le_of_ble_eq_true rfl) ?_
  intro p e s m args below meth c A Q ls hx hb S0 hG hA h hret hl
  have S0 : CF p m c cX9_advance 2 s args RX9 := S0
  have hl : lv_has ls 2 [(0, .ref (t 0))] := hl
  have lp5 : ∀ (kf : Nat) (i : Nat) (H : Heap) (locs : List Loc) (ls : Array Slot) (hi : i ≤ tn) (hs : tkS tb tn i = tkS tb tn tx), tn - i < kf → WX G A s H locs (wT G t a tb tn tk ts tx tv f q sp rg wd it) → lv_has ls 2 [(0, .ref (t 0)), (1, .int (nI i))] → W p l e (RM 2 40) s m args below meth c H locs 0 0 Q (F0 m 5 ls []) := by
    intro kf
    induction kf with
    | zero => intro i H locs ls hi hs hm; exact absurd hm (Nat.not_lt_zero _)
    | succ kf ih5 =>
      intro i H locs ls hi hs hm h hl
      refine lv_iload_n hx hb dX9_advance_5 rfl (lv_at hl 1 rfl) ?_
      refine lv_aload_n hx hb dX9_advance_6 rfl (lv_at hl 0 rfl) ?_
      refine gT_length S0 hG h dX9_advance_7 ?_
      refine n_cge hx hb (by omega) (by omega) (tgt := 30) dX9_advance_10 (by decide) (fun c10 => ?_) (fun c10 => ?_)
      ·
        have s9 : tkS tb tn i = i := scan_f (fun z => by have := (cB_iff.mp z).1; omega)
        refine lv_aload_n hx hb dX9_advance_30 rfl (lv_at hl 0 rfl) ?_
        refine lv_iload_n hx hb dX9_advance_31 rfl (lv_at hl 1 rfl) ?_
        refine pT_start S0 hG h dX9_advance_32 (fun H locs h => ?_)
        refine lv_aload_n hx hb dX9_advance_35 rfl (lv_at hl 0 rfl) ?_
        refine lv_iconst (v := nI 0) hx hb dX9_advance_36 (by decide) ?_
        refine pT_value S0 hG h dX9_advance_37 (fun H locs h => ?_)
        refine lv_iload_n hx hb dX9_advance_40 rfl (lv_at hl 1 rfl) ?_
        refine lv_aload_n hx hb dX9_advance_41 rfl (lv_at hl 0 rfl) ?_
        refine gT_length S0 hG h dX9_advance_42 ?_
        refine n_clt hx hb (by omega) (by omega) (tgt := 56) dX9_advance_45 (by decide) (fun c45 => ?_) (fun c45 => ?_)
        ·
          refine lv_aload_n hx hb dX9_advance_56 rfl (lv_at hl 0 rfl) ?_
          refine gT_bytes S0 hG h dX9_advance_57 ?_
          refine lv_iload_n hx hb dX9_advance_60 rfl (lv_at hl 1 rfl) ?_
          refine rT_bytes S0 hG h (by omega) dX9_advance_61 ?_
          refine cS_iE S0 hG hA h hl.1 kw_RX9_91 kdS_X9_isLetter (c_X9_isLetter (hT _)) ⟨rfl, rfl, by decide, by decide, Nat.le_refl _, Nat.le_refl _⟩ rfl rfl (Nat.le_of_ble_eq_true rfl) dX9_advance_62 (fun r u H locs hq h => ?_)
          rcases hq with ⟨rfl, b62⟩ | ⟨rfl, b62⟩
          ·
            have b62 : cL tb tn i = true := cL_iff.mpr ⟨c45, b62⟩
            refine n_zeq hx hb (by decide) (tgt := 99) dX9_advance_65 (by decide) (fun q => absurd q (by decide)) (fun _ => ?_)
            refine lv_aload_n hx hb dX9_advance_68 rfl (lv_at hl 0 rfl) ?_
            refine lv_iconst (v := nI 1) hx hb dX9_advance_69 (by decide) ?_
            refine pT_token S0 hG h dX9_advance_70 (fun H locs h => ?_)
            have lp73 : ∀ (kf : Nat) (j : Nat) (H : Heap) (locs : List Loc) (ls : Array Slot) (hj : j ≤ tn) (hj1 : i ≤ j) (hE : scan tn (cL tb tn) j = tkE tb tn i), tn - j < kf → WX G A s H locs (wT G t a tb tn 1 i tx 0 f q sp rg wd it) → lv_has ls 2 [(0, .ref (t 0)), (1, .int (nI j))] → W p l e (RM 2 40) s m args below meth c H locs 0 0 Q (F0 m 73 ls []) := by
              intro kf
              induction kf with
              | zero => intro j H locs ls hj hj1 hE hm; exact absurd hm (Nat.not_lt_zero _)
              | succ kf ih73 =>
                intro j H locs ls hj hj1 hE hm h hl
                refine lv_iload_n hx hb dX9_advance_73 rfl (lv_at hl 1 rfl) ?_
                refine lv_aload_n hx hb dX9_advance_74 rfl (lv_at hl 0 rfl) ?_
                refine gT_length S0 hG h dX9_advance_75 ?_
                refine n_cge hx hb (by omega) (by omega) (tgt := 192) dX9_advance_78 (by decide) (fun c78 => ?_) (fun c78 => ?_)
                ·
                  refine lv_aload_n hx hb dX9_advance_192 rfl (lv_at hl 0 rfl) ?_
                  refine lv_iload_n hx hb dX9_advance_193 rfl (lv_at hl 1 rfl) ?_
                  refine pT_next S0 hG h dX9_advance_194 (fun H locs h => ?_)
                  have e9 : j = tkE tb tn i := by rw [← hE]; exact (scan_f (fun z => by have := (cL_iff.mp z).1; omega)).symm
                  exact hret () _ _ _ _ trivial (h.eq (by rw [← hs, s9, ← e9, show tkK tb tn i = 1 by unfold tkK; rw [if_neg (by omega), if_pos b62], show tkV tb tn i = 0 by unfold tkV; rw [if_neg (cL_nD b62)]])) dX9_advance_197
                ·
                  refine lv_aload_n hx hb dX9_advance_81 rfl (lv_at hl 0 rfl) ?_
                  refine gT_bytes S0 hG h dX9_advance_82 ?_
                  refine lv_iload_n hx hb dX9_advance_85 rfl (lv_at hl 1 rfl) ?_
                  refine rT_bytes S0 hG h (by omega) dX9_advance_86 ?_
                  refine cS_iE S0 hG hA h hl.1 kw_RX9_91 kdS_X9_isLetter (c_X9_isLetter (hT _)) ⟨rfl, rfl, by decide, by decide, Nat.le_refl _, Nat.le_refl _⟩ rfl rfl (Nat.le_of_ble_eq_true rfl) dX9_advance_87 (fun r u H locs hq h => ?_)
                  rcases hq with ⟨rfl, b87⟩ | ⟨rfl, b87⟩
                  ·
                    have b87 : cL tb tn j = true := cL_iff.mpr ⟨c78, b87⟩
                    refine n_zeq hx hb (by decide) (tgt := 192) dX9_advance_90 (by decide) (fun q => absurd q (by decide)) (fun _ => ?_)
                    refine lv_iinc hx hb dX9_advance_93 hl (k := 1) rfl (inc_1 _) (by decide) rfl (fun ls hl => ?_)
                    refine lv_goto (tgt := 73) hx hb dX9_advance_96 (by decide) ?_
                    exact ih73 (j + 1) _ _ _ (by omega) (by omega) (by rw [← hE]; exact (scan_t b87 c78).symm) (by omega) h (lv_sub hl [1, 0] rfl)
                  ·
                    have b87 : ¬ cL tb tn j = true := fun z => b87 (cL_iff.mp z).2
                    refine n_zeq hx hb (by decide) (tgt := 192) dX9_advance_90 (by decide) (fun _ => ?_) (fun q => absurd q (by decide))
                    refine lv_aload_n hx hb dX9_advance_192 rfl (lv_at hl 0 rfl) ?_
                    refine lv_iload_n hx hb dX9_advance_193 rfl (lv_at hl 1 rfl) ?_
                    refine pT_next S0 hG h dX9_advance_194 (fun H locs h => ?_)
                    have e9 : j = tkE tb tn i := by rw [← hE]; exact (scan_f b87).symm
                    exact hret () _ _ _ _ trivial (h.eq (by rw [← hs, s9, ← e9, show tkK tb tn i = 1 by unfold tkK; rw [if_neg (by omega), if_pos b62], show tkV tb tn i = 0 by unfold tkV; rw [if_neg (cL_nD b62)]])) dX9_advance_197
            exact lp73 _ i _ _ _ hi (Nat.le_refl _) (by rw [tkE_L b62]; exact scan_t b62 c45) (Nat.lt_succ_self _) h (lv_sub hl [0, 1] rfl)
          ·
            have b62 : ¬ cL tb tn i = true := fun z => b62 (cL_iff.mp z).2
            refine n_zeq hx hb (by decide) (tgt := 99) dX9_advance_65 (by decide) (fun _ => ?_) (fun q => absurd q (by decide))
            refine lv_aload_n hx hb dX9_advance_99 rfl (lv_at hl 0 rfl) ?_
            refine gT_bytes S0 hG h dX9_advance_100 ?_
            refine lv_iload_n hx hb dX9_advance_103 rfl (lv_at hl 1 rfl) ?_
            refine rT_bytes S0 hG h (by omega) dX9_advance_104 ?_
            refine cS_iE S0 hG hA h hl.1 kw_RX9_95 kdS_X9_isDigit (c_X9_isDigit (hT _)) ⟨rfl, rfl, by decide, by decide, Nat.le_refl _, Nat.le_refl _⟩ rfl rfl (Nat.le_of_ble_eq_true rfl) dX9_advance_105 (fun r u H locs hq h => ?_)
            rcases hq with ⟨rfl, b105⟩ | ⟨rfl, b105⟩
            ·
              have b105 : cD tb tn i = true := cD_iff.mpr ⟨c45, b105⟩
              refine n_zeq hx hb (by decide) (tgt := 169) dX9_advance_108 (by decide) (fun q => absurd q (by decide)) (fun _ => ?_)
              refine lv_aload_n hx hb dX9_advance_111 rfl (lv_at hl 0 rfl) ?_
              refine lv_iconst (v := nI 2) hx hb dX9_advance_112 (by decide) ?_
              refine pT_token S0 hG h dX9_advance_113 (fun H locs h => ?_)
              have lp116 : ∀ (kf : Nat) (j : Nat) (H : Heap) (locs : List Loc) (ls : Array Slot) (hj : j ≤ tn) (hj1 : i ≤ j) (hE : scan tn (cD tb tn) j = tkE tb tn i), tn - j < kf → WX G A s H locs (wT G t a tb tn 2 i tx (numC tb i (j - i)) f q sp rg wd it) → lv_has ls 2 [(0, .ref (t 0)), (1, .int (nI j))] → W p l e (RM 2 40) s m args below meth c H locs 0 0 Q (F0 m 116 ls []) := by
                intro kf
                induction kf with
                | zero => intro j H locs ls hj hj1 hE hm; exact absurd hm (Nat.not_lt_zero _)
                | succ kf ih116 =>
                  intro j H locs ls hj hj1 hE hm h hl
                  refine lv_iload_n hx hb dX9_advance_116 rfl (lv_at hl 1 rfl) ?_
                  refine lv_aload_n hx hb dX9_advance_117 rfl (lv_at hl 0 rfl) ?_
                  refine gT_length S0 hG h dX9_advance_118 ?_
                  refine n_cge hx hb (by omega) (by omega) (tgt := 192) dX9_advance_121 (by decide) (fun c121 => ?_) (fun c121 => ?_)
                  ·
                    refine lv_aload_n hx hb dX9_advance_192 rfl (lv_at hl 0 rfl) ?_
                    refine lv_iload_n hx hb dX9_advance_193 rfl (lv_at hl 1 rfl) ?_
                    refine pT_next S0 hG h dX9_advance_194 (fun H locs h => ?_)
                    have e9 : j = tkE tb tn i := by rw [← hE]; exact (scan_f (fun z => by have := (cD_iff.mp z).1; omega)).symm
                    exact hret () _ _ _ _ trivial (h.eq (by rw [← hs, s9, ← e9, show tkK tb tn i = 2 by unfold tkK; rw [if_neg (by omega), if_neg (fun z => cL_nD z b105), if_pos b105], show tkV tb tn i = numC tb i (j - i) by unfold tkV val; rw [if_pos b105, ← e9]])) dX9_advance_197
                  ·
                    refine lv_aload_n hx hb dX9_advance_124 rfl (lv_at hl 0 rfl) ?_
                    refine gT_bytes S0 hG h dX9_advance_125 ?_
                    refine lv_iload_n hx hb dX9_advance_128 rfl (lv_at hl 1 rfl) ?_
                    refine rT_bytes S0 hG h (by omega) dX9_advance_129 ?_
                    refine cS_iE S0 hG hA h hl.1 kw_RX9_95 kdS_X9_isDigit (c_X9_isDigit (hT _)) ⟨rfl, rfl, by decide, by decide, Nat.le_refl _, Nat.le_refl _⟩ rfl rfl (Nat.le_of_ble_eq_true rfl) dX9_advance_130 (fun r u H locs hq h => ?_)
                    rcases hq with ⟨rfl, b130⟩ | ⟨rfl, b130⟩
                    ·
                      have b130 : cD tb tn j = true := cD_iff.mpr ⟨c121, b130⟩
                      refine n_zeq hx hb (by decide) (tgt := 192) dX9_advance_133 (by decide) (fun q => absurd q (by decide)) (fun _ => ?_)
                      have d9 := (cD_iff.mp b130).2
                      have n9 := numC_le tb i (j - i)
                      have v9 : min 1000 (10 * numC tb i (j - i) + tb j - 48) = numC tb i (j + 1 - i) := by rw [show j + 1 - i = (j - i) + 1 by omega]; show _ = min 1000 (10 * numC tb i (j - i) + tb (i + (j - i)) - 48); rw [show i + (j - i) = j by omega]
                      refine lv_aload_n hx hb dX9_advance_136 rfl (lv_at hl 0 rfl) ?_
                      refine lv_sipush (v := nI 1000) hx hb dX9_advance_137 (by decide) ?_
                      refine lv_bipush (v := nI 10) hx hb dX9_advance_140 (by decide) ?_
                      refine lv_aload_n hx hb dX9_advance_142 rfl (lv_at hl 0 rfl) ?_
                      refine gT_value S0 hG h dX9_advance_143 ?_
                      refine n_mul hx hb dX9_advance_146 ?_
                      refine lv_aload_n hx hb dX9_advance_147 rfl (lv_at hl 0 rfl) ?_
                      refine gT_bytes S0 hG h dX9_advance_148 ?_
                      refine lv_iload_n hx hb dX9_advance_151 rfl (lv_at hl 1 rfl) ?_
                      refine rT_bytes S0 hG h (by omega) dX9_advance_152 ?_
                      refine n_add hx hb dX9_advance_153 ?_
                      refine lv_bipush (v := nI 48) hx hb dX9_advance_154 (by decide) ?_
                      refine n_sub hx hb (by omega) dX9_advance_156 ?_
                      refine va_mmin hx hb (S0.2.2.1.trans hl.1.symm) S0.2.2.2.1 (S0.2.2.2.2 _ (rin29 _ (List.mem_of_getElem? (i := 6) rfl))) (S0.2.2.2.2 _ (rin21 _ (List.mem_of_getElem? (i := 5) rfl))) (S0.2.2.2.2 _ (rin11 _ (List.mem_of_getElem? (i := 4) rfl))) (S0.2.2.2.2 _ (rin21 _ (List.mem_of_getElem? (i := 6) rfl))) (by decide) (Nat.le_of_ble_eq_true rfl) (Nat.le_refl _) (Nat.le_refl _) dX9_advance_157 ?_
                      refine tN (min1000 (by omega)) ?_
                      refine pT_value S0 hG h dX9_advance_160 (fun H locs h => ?_)
                      refine lv_iinc hx hb dX9_advance_163 hl (k := 1) rfl (inc_1 _) (by decide) rfl (fun ls hl => ?_)
                      refine lv_goto (tgt := 116) hx hb dX9_advance_166 (by decide) ?_
                      exact ih116 (j + 1) _ _ _ (by omega) (by omega) (by rw [← hE]; exact (scan_t b130 c121).symm) (by omega) (h.eq (by rw [v9])) (lv_sub hl [1, 0] rfl)
                    ·
                      have b130 : ¬ cD tb tn j = true := fun z => b130 (cD_iff.mp z).2
                      refine n_zeq hx hb (by decide) (tgt := 192) dX9_advance_133 (by decide) (fun _ => ?_) (fun q => absurd q (by decide))
                      refine lv_aload_n hx hb dX9_advance_192 rfl (lv_at hl 0 rfl) ?_
                      refine lv_iload_n hx hb dX9_advance_193 rfl (lv_at hl 1 rfl) ?_
                      refine pT_next S0 hG h dX9_advance_194 (fun H locs h => ?_)
                      have e9 : j = tkE tb tn i := by rw [← hE]; exact (scan_f b130).symm
                      exact hret () _ _ _ _ trivial (h.eq (by rw [← hs, s9, ← e9, show tkK tb tn i = 2 by unfold tkK; rw [if_neg (by omega), if_neg (fun z => cL_nD z b105), if_pos b105], show tkV tb tn i = numC tb i (j - i) by unfold tkV val; rw [if_pos b105, ← e9]])) dX9_advance_197
              exact lp116 _ i _ _ _ hi (Nat.le_refl _) (by rw [tkE_D b105]; exact scan_t b105 c45) (Nat.lt_succ_self _) (h.eq (by rw [Nat.sub_self]; rfl)) (lv_sub hl [0, 1] rfl)
            ·
              have b105 : ¬ cD tb tn i = true := fun z => b105 (cD_iff.mp z).2
              refine n_zeq hx hb (by decide) (tgt := 169) dX9_advance_108 (by decide) (fun _ => ?_) (fun q => absurd q (by decide))
              refine lv_aload_n hx hb dX9_advance_169 rfl (lv_at hl 0 rfl) ?_
              refine lv_aload_n hx hb dX9_advance_170 rfl (lv_at hl 0 rfl) ?_
              refine gT_bytes S0 hG h dX9_advance_171 ?_
              refine lv_iload_n hx hb dX9_advance_174 rfl (lv_at hl 1 rfl) ?_
              refine rT_bytes S0 hG h (by omega) dX9_advance_175 ?_
              refine lv_bipush (v := nI 59) hx hb dX9_advance_176 (by decide) ?_
              refine n_cne hx hb (by have := hT i; omega) (by have := hT i; omega) (tgt := 185) dX9_advance_178 (by decide) (fun c178 => ?_) (fun c178 => ?_)
              ·
                refine lv_iconst (v := nI 4) hx hb dX9_advance_185 (by decide) ?_
                refine pT_token S0 hG h dX9_advance_186 (fun H locs h => ?_)
                refine lv_iinc hx hb dX9_advance_189 hl (k := 1) rfl (inc_1 _) (by decide) rfl (fun ls hl => ?_)
                refine lv_aload_n hx hb dX9_advance_192 rfl (lv_at hl 1 rfl) ?_
                refine lv_iload_n hx hb dX9_advance_193 rfl (lv_at hl 0 rfl) ?_
                refine pT_next S0 hG h dX9_advance_194 (fun H locs h => ?_)
                exact hret () _ _ _ _ trivial (h.eq (by rw [← hs, s9, tkE_1 c45 b62 b105, show tkK tb tn i = 4 by unfold tkK; rw [if_neg (by omega), if_neg b62, if_neg b105, if_neg c178], show tkV tb tn i = 0 by unfold tkV; rw [if_neg b105]])) dX9_advance_197
              ·
                refine lv_iconst (v := nI 3) hx hb dX9_advance_181 (by decide) ?_
                refine lv_goto (tgt := 186) hx hb dX9_advance_182 (by decide) ?_
                refine pT_token S0 hG h dX9_advance_186 (fun H locs h => ?_)
                refine lv_iinc hx hb dX9_advance_189 hl (k := 1) rfl (inc_1 _) (by decide) rfl (fun ls hl => ?_)
                refine lv_aload_n hx hb dX9_advance_192 rfl (lv_at hl 1 rfl) ?_
                refine lv_iload_n hx hb dX9_advance_193 rfl (lv_at hl 0 rfl) ?_
                refine pT_next S0 hG h dX9_advance_194 (fun H locs h => ?_)
                exact hret () _ _ _ _ trivial (h.eq (by rw [← hs, s9, tkE_1 c45 b62 b105, show tkK tb tn i = 3 by unfold tkK; rw [if_neg (by omega), if_neg b62, if_neg b105, if_pos c178], show tkV tb tn i = 0 by unfold tkV; rw [if_neg b105]])) dX9_advance_197
        ·
          refine lv_aload_n hx hb dX9_advance_48 rfl (lv_at hl 0 rfl) ?_
          refine lv_iconst (v := nI 0) hx hb dX9_advance_49 (by decide) ?_
          refine pT_token S0 hG h dX9_advance_50 (fun H locs h => ?_)
          refine lv_goto (tgt := 192) hx hb dX9_advance_53 (by decide) ?_
          refine lv_aload_n hx hb dX9_advance_192 rfl (lv_at hl 0 rfl) ?_
          refine lv_iload_n hx hb dX9_advance_193 rfl (lv_at hl 1 rfl) ?_
          refine pT_next S0 hG h dX9_advance_194 (fun H locs h => ?_)
          exact hret () _ _ _ _ trivial (h.eq (by rw [← hs, s9, tkE_0 c45, show tkK tb tn i = 0 by unfold tkK; rw [if_pos c45], show tkV tb tn i = 0 by unfold tkV; rw [if_neg (fun z => by have := (cD_iff.mp z).1; omega)]])) dX9_advance_197
      ·
        refine lv_aload_n hx hb dX9_advance_13 rfl (lv_at hl 0 rfl) ?_
        refine gT_bytes S0 hG h dX9_advance_14 ?_
        refine lv_iload_n hx hb dX9_advance_17 rfl (lv_at hl 1 rfl) ?_
        refine rT_bytes S0 hG h (by omega) dX9_advance_18 ?_
        refine lv_bipush (v := nI 32) hx hb dX9_advance_19 (by decide) ?_
        refine n_cne hx hb (by have := hT i; omega) (by have := hT i; omega) (tgt := 30) dX9_advance_21 (by decide) (fun c21 => ?_) (fun c21 => ?_)
        ·
          have s9 : tkS tb tn i = i := scan_f (fun z => c21 (cB_iff.mp z).2)
          refine lv_aload_n hx hb dX9_advance_30 rfl (lv_at hl 0 rfl) ?_
          refine lv_iload_n hx hb dX9_advance_31 rfl (lv_at hl 1 rfl) ?_
          refine pT_start S0 hG h dX9_advance_32 (fun H locs h => ?_)
          refine lv_aload_n hx hb dX9_advance_35 rfl (lv_at hl 0 rfl) ?_
          refine lv_iconst (v := nI 0) hx hb dX9_advance_36 (by decide) ?_
          refine pT_value S0 hG h dX9_advance_37 (fun H locs h => ?_)
          refine lv_iload_n hx hb dX9_advance_40 rfl (lv_at hl 1 rfl) ?_
          refine lv_aload_n hx hb dX9_advance_41 rfl (lv_at hl 0 rfl) ?_
          refine gT_length S0 hG h dX9_advance_42 ?_
          refine n_clt hx hb (by omega) (by omega) (tgt := 56) dX9_advance_45 (by decide) (fun c45 => ?_) (fun c45 => ?_)
          ·
            refine lv_aload_n hx hb dX9_advance_56 rfl (lv_at hl 0 rfl) ?_
            refine gT_bytes S0 hG h dX9_advance_57 ?_
            refine lv_iload_n hx hb dX9_advance_60 rfl (lv_at hl 1 rfl) ?_
            refine rT_bytes S0 hG h (by omega) dX9_advance_61 ?_
            refine cS_iE S0 hG hA h hl.1 kw_RX9_91 kdS_X9_isLetter (c_X9_isLetter (hT _)) ⟨rfl, rfl, by decide, by decide, Nat.le_refl _, Nat.le_refl _⟩ rfl rfl (Nat.le_of_ble_eq_true rfl) dX9_advance_62 (fun r u H locs hq h => ?_)
            rcases hq with ⟨rfl, b62⟩ | ⟨rfl, b62⟩
            ·
              have b62 : cL tb tn i = true := cL_iff.mpr ⟨c45, b62⟩
              refine n_zeq hx hb (by decide) (tgt := 99) dX9_advance_65 (by decide) (fun q => absurd q (by decide)) (fun _ => ?_)
              refine lv_aload_n hx hb dX9_advance_68 rfl (lv_at hl 0 rfl) ?_
              refine lv_iconst (v := nI 1) hx hb dX9_advance_69 (by decide) ?_
              refine pT_token S0 hG h dX9_advance_70 (fun H locs h => ?_)
              have lp73 : ∀ (kf : Nat) (j : Nat) (H : Heap) (locs : List Loc) (ls : Array Slot) (hj : j ≤ tn) (hj1 : i ≤ j) (hE : scan tn (cL tb tn) j = tkE tb tn i), tn - j < kf → WX G A s H locs (wT G t a tb tn 1 i tx 0 f q sp rg wd it) → lv_has ls 2 [(0, .ref (t 0)), (1, .int (nI j))] → W p l e (RM 2 40) s m args below meth c H locs 0 0 Q (F0 m 73 ls []) := by
                intro kf
                induction kf with
                | zero => intro j H locs ls hj hj1 hE hm; exact absurd hm (Nat.not_lt_zero _)
                | succ kf ih73 =>
                  intro j H locs ls hj hj1 hE hm h hl
                  refine lv_iload_n hx hb dX9_advance_73 rfl (lv_at hl 1 rfl) ?_
                  refine lv_aload_n hx hb dX9_advance_74 rfl (lv_at hl 0 rfl) ?_
                  refine gT_length S0 hG h dX9_advance_75 ?_
                  refine n_cge hx hb (by omega) (by omega) (tgt := 192) dX9_advance_78 (by decide) (fun c78 => ?_) (fun c78 => ?_)
                  ·
                    refine lv_aload_n hx hb dX9_advance_192 rfl (lv_at hl 0 rfl) ?_
                    refine lv_iload_n hx hb dX9_advance_193 rfl (lv_at hl 1 rfl) ?_
                    refine pT_next S0 hG h dX9_advance_194 (fun H locs h => ?_)
                    have e9 : j = tkE tb tn i := by rw [← hE]; exact (scan_f (fun z => by have := (cL_iff.mp z).1; omega)).symm
                    exact hret () _ _ _ _ trivial (h.eq (by rw [← hs, s9, ← e9, show tkK tb tn i = 1 by unfold tkK; rw [if_neg (by omega), if_pos b62], show tkV tb tn i = 0 by unfold tkV; rw [if_neg (cL_nD b62)]])) dX9_advance_197
                  ·
                    refine lv_aload_n hx hb dX9_advance_81 rfl (lv_at hl 0 rfl) ?_
                    refine gT_bytes S0 hG h dX9_advance_82 ?_
                    refine lv_iload_n hx hb dX9_advance_85 rfl (lv_at hl 1 rfl) ?_
                    refine rT_bytes S0 hG h (by omega) dX9_advance_86 ?_
                    refine cS_iE S0 hG hA h hl.1 kw_RX9_91 kdS_X9_isLetter (c_X9_isLetter (hT _)) ⟨rfl, rfl, by decide, by decide, Nat.le_refl _, Nat.le_refl _⟩ rfl rfl (Nat.le_of_ble_eq_true rfl) dX9_advance_87 (fun r u H locs hq h => ?_)
                    rcases hq with ⟨rfl, b87⟩ | ⟨rfl, b87⟩
                    ·
                      have b87 : cL tb tn j = true := cL_iff.mpr ⟨c78, b87⟩
                      refine n_zeq hx hb (by decide) (tgt := 192) dX9_advance_90 (by decide) (fun q => absurd q (by decide)) (fun _ => ?_)
                      refine lv_iinc hx hb dX9_advance_93 hl (k := 1) rfl (inc_1 _) (by decide) rfl (fun ls hl => ?_)
                      refine lv_goto (tgt := 73) hx hb dX9_advance_96 (by decide) ?_
                      exact ih73 (j + 1) _ _ _ (by omega) (by omega) (by rw [← hE]; exact (scan_t b87 c78).symm) (by omega) h (lv_sub hl [1, 0] rfl)
                    ·
                      have b87 : ¬ cL tb tn j = true := fun z => b87 (cL_iff.mp z).2
                      refine n_zeq hx hb (by decide) (tgt := 192) dX9_advance_90 (by decide) (fun _ => ?_) (fun q => absurd q (by decide))
                      refine lv_aload_n hx hb dX9_advance_192 rfl (lv_at hl 0 rfl) ?_
                      refine lv_iload_n hx hb dX9_advance_193 rfl (lv_at hl 1 rfl) ?_
                      refine pT_next S0 hG h dX9_advance_194 (fun H locs h => ?_)
                      have e9 : j = tkE tb tn i := by rw [← hE]; exact (scan_f b87).symm
                      exact hret () _ _ _ _ trivial (h.eq (by rw [← hs, s9, ← e9, show tkK tb tn i = 1 by unfold tkK; rw [if_neg (by omega), if_pos b62], show tkV tb tn i = 0 by unfold tkV; rw [if_neg (cL_nD b62)]])) dX9_advance_197
              exact lp73 _ i _ _ _ hi (Nat.le_refl _) (by rw [tkE_L b62]; exact scan_t b62 c45) (Nat.lt_succ_self _) h (lv_sub hl [0, 1] rfl)
            ·
              have b62 : ¬ cL tb tn i = true := fun z => b62 (cL_iff.mp z).2
              refine n_zeq hx hb (by decide) (tgt := 99) dX9_advance_65 (by decide) (fun _ => ?_) (fun q => absurd q (by decide))
              refine lv_aload_n hx hb dX9_advance_99 rfl (lv_at hl 0 rfl) ?_
              refine gT_bytes S0 hG h dX9_advance_100 ?_
              refine lv_iload_n hx hb dX9_advance_103 rfl (lv_at hl 1 rfl) ?_
              refine rT_bytes S0 hG h (by omega) dX9_advance_104 ?_
              refine cS_iE S0 hG hA h hl.1 kw_RX9_95 kdS_X9_isDigit (c_X9_isDigit (hT _)) ⟨rfl, rfl, by decide, by decide, Nat.le_refl _, Nat.le_refl _⟩ rfl rfl (Nat.le_of_ble_eq_true rfl) dX9_advance_105 (fun r u H locs hq h => ?_)
              rcases hq with ⟨rfl, b105⟩ | ⟨rfl, b105⟩
              ·
                have b105 : cD tb tn i = true := cD_iff.mpr ⟨c45, b105⟩
                refine n_zeq hx hb (by decide) (tgt := 169) dX9_advance_108 (by decide) (fun q => absurd q (by decide)) (fun _ => ?_)
                refine lv_aload_n hx hb dX9_advance_111 rfl (lv_at hl 0 rfl) ?_
                refine lv_iconst (v := nI 2) hx hb dX9_advance_112 (by decide) ?_
                refine pT_token S0 hG h dX9_advance_113 (fun H locs h => ?_)
                have lp116 : ∀ (kf : Nat) (j : Nat) (H : Heap) (locs : List Loc) (ls : Array Slot) (hj : j ≤ tn) (hj1 : i ≤ j) (hE : scan tn (cD tb tn) j = tkE tb tn i), tn - j < kf → WX G A s H locs (wT G t a tb tn 2 i tx (numC tb i (j - i)) f q sp rg wd it) → lv_has ls 2 [(0, .ref (t 0)), (1, .int (nI j))] → W p l e (RM 2 40) s m args below meth c H locs 0 0 Q (F0 m 116 ls []) := by
                  intro kf
                  induction kf with
                  | zero => intro j H locs ls hj hj1 hE hm; exact absurd hm (Nat.not_lt_zero _)
                  | succ kf ih116 =>
                    intro j H locs ls hj hj1 hE hm h hl
                    refine lv_iload_n hx hb dX9_advance_116 rfl (lv_at hl 1 rfl) ?_
                    refine lv_aload_n hx hb dX9_advance_117 rfl (lv_at hl 0 rfl) ?_
                    refine gT_length S0 hG h dX9_advance_118 ?_
                    refine n_cge hx hb (by omega) (by omega) (tgt := 192) dX9_advance_121 (by decide) (fun c121 => ?_) (fun c121 => ?_)
                    ·
                      refine lv_aload_n hx hb dX9_advance_192 rfl (lv_at hl 0 rfl) ?_
                      refine lv_iload_n hx hb dX9_advance_193 rfl (lv_at hl 1 rfl) ?_
                      refine pT_next S0 hG h dX9_advance_194 (fun H locs h => ?_)
                      have e9 : j = tkE tb tn i := by rw [← hE]; exact (scan_f (fun z => by have := (cD_iff.mp z).1; omega)).symm
                      exact hret () _ _ _ _ trivial (h.eq (by rw [← hs, s9, ← e9, show tkK tb tn i = 2 by unfold tkK; rw [if_neg (by omega), if_neg (fun z => cL_nD z b105), if_pos b105], show tkV tb tn i = numC tb i (j - i) by unfold tkV val; rw [if_pos b105, ← e9]])) dX9_advance_197
                    ·
                      refine lv_aload_n hx hb dX9_advance_124 rfl (lv_at hl 0 rfl) ?_
                      refine gT_bytes S0 hG h dX9_advance_125 ?_
                      refine lv_iload_n hx hb dX9_advance_128 rfl (lv_at hl 1 rfl) ?_
                      refine rT_bytes S0 hG h (by omega) dX9_advance_129 ?_
                      refine cS_iE S0 hG hA h hl.1 kw_RX9_95 kdS_X9_isDigit (c_X9_isDigit (hT _)) ⟨rfl, rfl, by decide, by decide, Nat.le_refl _, Nat.le_refl _⟩ rfl rfl (Nat.le_of_ble_eq_true rfl) dX9_advance_130 (fun r u H locs hq h => ?_)
                      rcases hq with ⟨rfl, b130⟩ | ⟨rfl, b130⟩
                      ·
                        have b130 : cD tb tn j = true := cD_iff.mpr ⟨c121, b130⟩
                        refine n_zeq hx hb (by decide) (tgt := 192) dX9_advance_133 (by decide) (fun q => absurd q (by decide)) (fun _ => ?_)
                        have d9 := (cD_iff.mp b130).2
                        have n9 := numC_le tb i (j - i)
                        have v9 : min 1000 (10 * numC tb i (j - i) + tb j - 48) = numC tb i (j + 1 - i) := by rw [show j + 1 - i = (j - i) + 1 by omega]; show _ = min 1000 (10 * numC tb i (j - i) + tb (i + (j - i)) - 48); rw [show i + (j - i) = j by omega]
                        refine lv_aload_n hx hb dX9_advance_136 rfl (lv_at hl 0 rfl) ?_
                        refine lv_sipush (v := nI 1000) hx hb dX9_advance_137 (by decide) ?_
                        refine lv_bipush (v := nI 10) hx hb dX9_advance_140 (by decide) ?_
                        refine lv_aload_n hx hb dX9_advance_142 rfl (lv_at hl 0 rfl) ?_
                        refine gT_value S0 hG h dX9_advance_143 ?_
                        refine n_mul hx hb dX9_advance_146 ?_
                        refine lv_aload_n hx hb dX9_advance_147 rfl (lv_at hl 0 rfl) ?_
                        refine gT_bytes S0 hG h dX9_advance_148 ?_
                        refine lv_iload_n hx hb dX9_advance_151 rfl (lv_at hl 1 rfl) ?_
                        refine rT_bytes S0 hG h (by omega) dX9_advance_152 ?_
                        refine n_add hx hb dX9_advance_153 ?_
                        refine lv_bipush (v := nI 48) hx hb dX9_advance_154 (by decide) ?_
                        refine n_sub hx hb (by omega) dX9_advance_156 ?_
                        refine va_mmin hx hb (S0.2.2.1.trans hl.1.symm) S0.2.2.2.1 (S0.2.2.2.2 _ (rin29 _ (List.mem_of_getElem? (i := 6) rfl))) (S0.2.2.2.2 _ (rin21 _ (List.mem_of_getElem? (i := 5) rfl))) (S0.2.2.2.2 _ (rin11 _ (List.mem_of_getElem? (i := 4) rfl))) (S0.2.2.2.2 _ (rin21 _ (List.mem_of_getElem? (i := 6) rfl))) (by decide) (Nat.le_of_ble_eq_true rfl) (Nat.le_refl _) (Nat.le_refl _) dX9_advance_157 ?_
                        refine tN (min1000 (by omega)) ?_
                        refine pT_value S0 hG h dX9_advance_160 (fun H locs h => ?_)
                        refine lv_iinc hx hb dX9_advance_163 hl (k := 1) rfl (inc_1 _) (by decide) rfl (fun ls hl => ?_)
                        refine lv_goto (tgt := 116) hx hb dX9_advance_166 (by decide) ?_
                        exact ih116 (j + 1) _ _ _ (by omega) (by omega) (by rw [← hE]; exact (scan_t b130 c121).symm) (by omega) (h.eq (by rw [v9])) (lv_sub hl [1, 0] rfl)
                      ·
                        have b130 : ¬ cD tb tn j = true := fun z => b130 (cD_iff.mp z).2
                        refine n_zeq hx hb (by decide) (tgt := 192) dX9_advance_133 (by decide) (fun _ => ?_) (fun q => absurd q (by decide))
                        refine lv_aload_n hx hb dX9_advance_192 rfl (lv_at hl 0 rfl) ?_
                        refine lv_iload_n hx hb dX9_advance_193 rfl (lv_at hl 1 rfl) ?_
                        refine pT_next S0 hG h dX9_advance_194 (fun H locs h => ?_)
                        have e9 : j = tkE tb tn i := by rw [← hE]; exact (scan_f b130).symm
                        exact hret () _ _ _ _ trivial (h.eq (by rw [← hs, s9, ← e9, show tkK tb tn i = 2 by unfold tkK; rw [if_neg (by omega), if_neg (fun z => cL_nD z b105), if_pos b105], show tkV tb tn i = numC tb i (j - i) by unfold tkV val; rw [if_pos b105, ← e9]])) dX9_advance_197
                exact lp116 _ i _ _ _ hi (Nat.le_refl _) (by rw [tkE_D b105]; exact scan_t b105 c45) (Nat.lt_succ_self _) (h.eq (by rw [Nat.sub_self]; rfl)) (lv_sub hl [0, 1] rfl)
              ·
                have b105 : ¬ cD tb tn i = true := fun z => b105 (cD_iff.mp z).2
                refine n_zeq hx hb (by decide) (tgt := 169) dX9_advance_108 (by decide) (fun _ => ?_) (fun q => absurd q (by decide))
                refine lv_aload_n hx hb dX9_advance_169 rfl (lv_at hl 0 rfl) ?_
                refine lv_aload_n hx hb dX9_advance_170 rfl (lv_at hl 0 rfl) ?_
                refine gT_bytes S0 hG h dX9_advance_171 ?_
                refine lv_iload_n hx hb dX9_advance_174 rfl (lv_at hl 1 rfl) ?_
                refine rT_bytes S0 hG h (by omega) dX9_advance_175 ?_
                refine lv_bipush (v := nI 59) hx hb dX9_advance_176 (by decide) ?_
                refine n_cne hx hb (by have := hT i; omega) (by have := hT i; omega) (tgt := 185) dX9_advance_178 (by decide) (fun c178 => ?_) (fun c178 => ?_)
                ·
                  refine lv_iconst (v := nI 4) hx hb dX9_advance_185 (by decide) ?_
                  refine pT_token S0 hG h dX9_advance_186 (fun H locs h => ?_)
                  refine lv_iinc hx hb dX9_advance_189 hl (k := 1) rfl (inc_1 _) (by decide) rfl (fun ls hl => ?_)
                  refine lv_aload_n hx hb dX9_advance_192 rfl (lv_at hl 1 rfl) ?_
                  refine lv_iload_n hx hb dX9_advance_193 rfl (lv_at hl 0 rfl) ?_
                  refine pT_next S0 hG h dX9_advance_194 (fun H locs h => ?_)
                  exact hret () _ _ _ _ trivial (h.eq (by rw [← hs, s9, tkE_1 c45 b62 b105, show tkK tb tn i = 4 by unfold tkK; rw [if_neg (by omega), if_neg b62, if_neg b105, if_neg c178], show tkV tb tn i = 0 by unfold tkV; rw [if_neg b105]])) dX9_advance_197
                ·
                  refine lv_iconst (v := nI 3) hx hb dX9_advance_181 (by decide) ?_
                  refine lv_goto (tgt := 186) hx hb dX9_advance_182 (by decide) ?_
                  refine pT_token S0 hG h dX9_advance_186 (fun H locs h => ?_)
                  refine lv_iinc hx hb dX9_advance_189 hl (k := 1) rfl (inc_1 _) (by decide) rfl (fun ls hl => ?_)
                  refine lv_aload_n hx hb dX9_advance_192 rfl (lv_at hl 1 rfl) ?_
                  refine lv_iload_n hx hb dX9_advance_193 rfl (lv_at hl 0 rfl) ?_
                  refine pT_next S0 hG h dX9_advance_194 (fun H locs h => ?_)
                  exact hret () _ _ _ _ trivial (h.eq (by rw [← hs, s9, tkE_1 c45 b62 b105, show tkK tb tn i = 3 by unfold tkK; rw [if_neg (by omega), if_neg b62, if_neg b105, if_pos c178], show tkV tb tn i = 0 by unfold tkV; rw [if_neg b105]])) dX9_advance_197
          ·
            refine lv_aload_n hx hb dX9_advance_48 rfl (lv_at hl 0 rfl) ?_
            refine lv_iconst (v := nI 0) hx hb dX9_advance_49 (by decide) ?_
            refine pT_token S0 hG h dX9_advance_50 (fun H locs h => ?_)
            refine lv_goto (tgt := 192) hx hb dX9_advance_53 (by decide) ?_
            refine lv_aload_n hx hb dX9_advance_192 rfl (lv_at hl 0 rfl) ?_
            refine lv_iload_n hx hb dX9_advance_193 rfl (lv_at hl 1 rfl) ?_
            refine pT_next S0 hG h dX9_advance_194 (fun H locs h => ?_)
            exact hret () _ _ _ _ trivial (h.eq (by rw [← hs, s9, tkE_0 c45, show tkK tb tn i = 0 by unfold tkK; rw [if_pos c45], show tkV tb tn i = 0 by unfold tkV; rw [if_neg (fun z => by have := (cD_iff.mp z).1; omega)]])) dX9_advance_197
        ·
          refine lv_iinc hx hb dX9_advance_24 hl (k := 1) rfl (inc_1 _) (by decide) rfl (fun ls hl => ?_)
          refine lv_goto (tgt := 5) hx hb dX9_advance_27 (by decide) ?_
          exact ih5 (i + 1) _ _ _ (by omega) (by rw [← hs]; exact (scan_t (cB_iff.mpr ⟨c10, c21⟩) c10).symm) (by omega) h (lv_sub hl [1, 0] rfl)
  refine lv_aload_n hx hb dX9_advance_0 rfl (lv_at hl 0 rfl) ?_
  refine gT_next S0 hG h dX9_advance_1 ?_
  refine lv_istore_n hx hb dX9_advance_4 rfl hl (by decide) rfl (fun ls hl => ?_)
  exact lp5 _ tx _ _ _ htx rfl (Nat.lt_succ_self _) h (lv_sub hl [1, 0] rfl)
set_option maxHeartbeats 4000000 in
set_option maxRecDepth 100000 in
theorem c_X9_isNumber {x y : Nat} (hx1 : x ≤ 99) (hy1 : y ≤ 99) (hk : tk = tkK tb tn ts) (hv : tv = tkV tb tn ts) : Ki G l yX9_isNumber cX9_isNumber 3 (some .boolean) (RM 1 0) [.ref (t 0), .int (nI x), .int (nI y)] (wT G t a tb tn tk ts tx tv f q sp rg wd it) (fun u : Unit => wT G t a tb tn tk ts tx tv f q sp rg wd it) (fun r _ => (r = nI 1 ∧ nOk tb tn x y ts) ∨ (r = nI 0 ∧ ¬ nOk tb tn x y ts)) := by
  refine Ki.ofz (by decide) (Nat.le_of_ble_eq_true rfl) ?_
  intro p e s m args below meth c A Q ls hx hb S0 hG hA h hret hl
  have S0 : CF p m c cX9_isNumber 3 s args RX9 := S0
  have hl : lv_has ls 3 [(0, .ref (t 0)), (1, .int (nI x)), (2, .int (nI y))] := hl
  have k4 := tkK_le tb tn ts
  have v4 := tkV_le tb tn ts
  have kd : tkK tb tn ts = 2 ↔ cD tb tn ts = true := by
    unfold tkK
    constructor
    · intro z
      split at z
      · omega
      · split at z
        · omega
        · split at z
          · assumption
          · split at z <;> omega
    · intro z
      have z1 := (cD_iff.mp z).1
      rw [if_neg (by omega), if_neg (fun z2 => cL_nD z2 z), if_pos z]
  have vv : cD tb tn ts = true → tkV tb tn ts = val tb tn ts := fun z => by unfold tkV; rw [if_pos z]
  subst hk
  subst hv
  refine lv_aload_n hx hb dX9_isNumber_0 rfl (lv_at hl 0 rfl) ?_
  refine gT_token S0 hG h dX9_isNumber_1 ?_
  refine lv_iconst (v := nI 2) hx hb dX9_isNumber_4 (by decide) ?_
  refine n_cne hx hb (by omega) (by omega) (tgt := 28) dX9_isNumber_5 (by decide) (fun c5 => ?_) (fun c5 => ?_)
  ·
    refine lv_iconst (v := nI 0) hx hb dX9_isNumber_28 (by decide) ?_
    exact hret _ () _ _ _ _ (by decide) (Or.inr ⟨rfl, fun z => c5 (kd.mpr z.1)⟩) h dX9_isNumber_29
  ·
    refine lv_aload_n hx hb dX9_isNumber_8 rfl (lv_at hl 0 rfl) ?_
    refine gT_value S0 hG h dX9_isNumber_9 ?_
    refine lv_iload_n hx hb dX9_isNumber_12 rfl (lv_at hl 1 rfl) ?_
    refine n_clt hx hb (by omega) (by omega) (tgt := 28) dX9_isNumber_13 (by decide) (fun c13 => ?_) (fun c13 => ?_)
    ·
      refine lv_iconst (v := nI 0) hx hb dX9_isNumber_28 (by decide) ?_
      exact hret _ () _ _ _ _ (by decide) (Or.inr ⟨rfl, fun z => by have z1 := z.2; rw [← vv (kd.mp c5)] at z1; omega⟩) h dX9_isNumber_29
    ·
      refine lv_aload_n hx hb dX9_isNumber_16 rfl (lv_at hl 0 rfl) ?_
      refine gT_value S0 hG h dX9_isNumber_17 ?_
      refine lv_iload_n hx hb dX9_isNumber_20 rfl (lv_at hl 2 rfl) ?_
      refine n_cgt hx hb (by omega) (by omega) (tgt := 28) dX9_isNumber_21 (by decide) (fun c21 => ?_) (fun c21 => ?_)
      ·
        refine lv_iconst (v := nI 0) hx hb dX9_isNumber_28 (by decide) ?_
        exact hret _ () _ _ _ _ (by decide) (Or.inr ⟨rfl, fun z => by have z1 := z.2; rw [← vv (kd.mp c5)] at z1; omega⟩) h dX9_isNumber_29
      ·
        refine lv_iconst (v := nI 1) hx hb dX9_isNumber_24 (by decide) ?_
        refine lv_goto (tgt := 29) hx hb dX9_isNumber_25 (by decide) ?_
        exact hret _ () _ _ _ _ (by decide) (Or.inl ⟨rfl, kd.mp c5, by rw [← vv (kd.mp c5)]; exact c13, by rw [← vv (kd.mp c5)]; exact c21⟩) h dX9_isNumber_29
