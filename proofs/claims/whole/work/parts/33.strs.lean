/-! the String constants -/
theorem Ki.ofn {G : GT} {l : Launch} {y : MethodName} {cc : ByteArray} {n : Nat} {ty : FieldType} {rm : Room} {av : List Value} {wc : va_W} {S : Type} {w1 : S → va_W} {post : Int32 → S → Prop} (hy : plainName y.cls = true) (hnL : (lg_sl av).length ≤ n)
    (body : ∀ (p : Program) (e : Env) (s : State) (m : MethodId) (args : Array Value) (below : List Frame) (meth : Method) (c : Code) (A : Nat → Prop) (Q : State → Prop) (ls : Array Slot), p.tables.exec = Jvm.exec → c.code = cc → CF p m c cc n s args y.cls → GX G A s → (∀ q : Nat, s.heap.size ≤ q → A q) → WX G A s s.heap [] wc →
      (∀ (r : Int32) (u : S) (H : Heap) (locs : List Loc) (pc : Nat) (ls : Array Slot), narrow ty (.int r) = .int r → post r u → WX G A s H locs (w1 u) → decode cc pc = .ok (.ireturn, 1) → W p l e rm s m args below meth c H locs 0 0 Q (F0 m pc ls [.int r])) → lv_has ls n (lv_args 0 av) → W p l e rm s m args below meth c s.heap [] 0 0 Q (F0 m 0 ls [])) : Ki G l y cc n (some ty) rm av wc w1 post := by
  intro sz
  refine Met.ofW (cc := cc) (maxL := n) (ret := (some ty)) hy rfl ?_
  intro p e s m args below meth c s₁ B hml hv
  obtain ⟨rfl, hsz, hG, hP, hD0⟩ := hv
  have hx := B.exec
  have hb := B.bytes
  have hr := B.returns
  have hts := atoms_spec (ws := WS y cc n (some ty)) B.pre
  have hown : s.vm.findClass y.cls = some m.cls := findClass_of_methodNamed B.named
  have hlocks := B.notSynchronized
  have hin : meth.name = y.name := (name_of_methodNamed B.named B.method).1
  subst hsz
  have hD := hD0.self (sz := s.heap.size)
  have hl := lv_entry av (n := n) hnL
  rw [lg_entry_eq]
  generalize (lg_sl av ++ List.replicate (n - (lg_sl av).length) Slot.unset).toArray = ls at hl ⊢
  have hA : ∀ q : Nat, s.heap.size ≤ q → va_A wc s.heap.size q := fun q h => Or.inr h
  have hS : va_S (va_A wc s.heap.size) s.heap s.heap [] := va_S.rf
  refine body p e s m av.toArray below meth c _ _ ls hx hb ⟨hx, hb, hml, hown, fun w h => hts w (List.mem_cons_of_mem _ h)⟩ hG hA ⟨hP, hD, hS⟩ ?_ hl
  intro r u H locs pc ls h01 hq h hd
  exact W.zret hx hb hr h01 (fun t ht hW => ⟨⟨r, u, rfl, hq, by show va_P G.1 vwCl (w1 u) t.heap; rw [ht]; exact h.1⟩, h.2.2.F ht⟩) h.2.2.2.2 hd
theorem preK {G : GT} {A : Nat → Prop} {s : State} {H : Heap} {locs : List Loc} {ws wc : va_W} {As : List Value} {i : Nat} (hG : GX G A s) (h : WX G A s H locs ws) (hi : i < 9) (hp : PreS s H (va_Pc (.ref (G.2.2.2.1 i) :: As) (PB G wc H.size)) (.ref (G.2.2.2.1 i) :: As)) : PreV s H "java/lang/String" (G.2.2.2.1 i) (va_Pc (.ref (G.2.2.2.1 i) :: As) (PB G wc H.size)) As :=
  ⟨hp.1, vk_recv hG.2.2.2.2.2.1 hi h.2.2, hp.2⟩
theorem cK_iE {p : Program} {l : Launch} {e : Env} {R : Room} {s : State} {m : MethodId} {args : Array Value} {below : List Frame} {meth : Method} {c : Code} {H : Heap} {locs : List Loc} {cells slots : Nat} {Q : State → Prop} {pc : Nat} {ls : Array Slot} {rest st0 : List Value} {A : Nat → Prop} {G : GT} {ws : va_W} {S : Type} {w1 : S → va_W} {cc ccY : ByteArray} {nL nY idx n i : Nat} {own : String} {y : MethodName} {ret : Option FieldType} {rmY : Room} {As : List Value} {post : Int32 → S → Prop} (S0 : CF p m c cc nL s args own) (hG : GX G A s) (hA : ∀ q, s.heap.size ≤ q → A q) (h : WX G A s H locs ws) (hl : ls.size = nL) (hi : i < 9) (gw : GoodIn wsL_law (wsV own idx "java/lang/String" y (WS y ccY nY ret))) (hd : y.cls = "java/lang/String" ∧ y.cls ≠ "java/lang/invoke/MethodHandle" ∧ y.cls ≠ "java/lang/invoke/VarHandle" ∧ (parseMethodDescriptor y.desc).map (fun d => d.parameters.length) = some n) (hK : Ki G l y ccY nY ret rmY (.ref (G.2.2.2.1 i) :: As) [] w1 post) (hR : RmOk rmY R nY cells slots) (hn : As.length = n) (hst : st0 = As.reverse ++ .ref (G.2.2.2.1 i) :: rest) (hw : (rest.map fun v => v.category).sum ≤ 8) (hdg : decode cc pc = .ok (.invokevirtual idx, 3))
    (kk : ∀ (r : Int32) (u : S) (H1 : Heap) (locs1 : List Loc), post r u → WX G A s H1 locs1 ws → W p l e R s m args below meth c H1 locs1 cells slots Q (F0 m (pc + 3) ls (.int r :: rest))) : W p l e R s m args below meth c H locs cells slots Q (F0 m pc ls st0) := by
  subst hst
  exact kc_iE hA h (va_runV S0 (hK H.size) (cwV n S0.2.2.2.2 gw rfl hR.1 hR.2.1 hd ⟨hR.2.2.1, hR.2.2.2.1⟩) (preK hG h hi (preE hG hA h)) rfl hn hl rfl (lv_room hw) hdg ⟨hR.2.2.2.2.1, hR.2.2.2.2.2⟩) kk
/-- their words, the last letter first -/
def SLw : List (List Nat) := [wScore, wBell, wEnemy, wSinger, wLate, wDiva, wRival, wGuest, wQuick]
def SLn (i j : Nat) : Nat := (SLw.getD i []).reverse.getD j 0
theorem SL_lt {i : Nat} (hi : i < 9) : SLlen.getD i 0 < 2147483648 := (show ∀ i : Nat, i < 9 → SLlen.getD i 0 < 2147483648 by decide) i hi
theorem SL_len {i : Nat} (hi : i < 9) : SLlen.getD i 0 = (SLw.getD i []).length := (show ∀ i : Nat, i < 9 → SLlen.getD i 0 = (SLw.getD i []).length by decide) i hi
theorem SL_len6 {i : Nat} (hi : i < 9) : SLlen.getD i 0 ≤ 6 := (show ∀ i : Nat, i < 9 → SLlen.getD i 0 ≤ 6 by decide) i hi
theorem SL_ch {i j : Nat} (hi : i < 9) (hj : j < SLlen.getD i 0) : (((SLbyt.getD i []).getD j 0 &&& (255 : Int32)).toUInt32 % 65536).toInt32 = nI (SLn i j) := (show ∀ i : Nat, i < 9 → ∀ j : Nat, j < SLlen.getD i 0 → (((SLbyt.getD i []).getD j 0 &&& (255 : Int32)).toUInt32 % 65536).toInt32 = nI (SLn i j) by decide) i hi j hj
theorem SL_n {i j : Nat} (hi : i < 9) (hj : j < SLlen.getD i 0) : SLn i j < 256 := (show ∀ i : Nat, i < 9 → ∀ j : Nat, j < SLlen.getD i 0 → SLn i j < 256 by decide) i hi j hj
theorem isWr_iff {tb : Row} {s : Nat} : ∀ (w : List Nat) (n : Nat), isWr tb s w n ↔ n = w.length ∧ ∀ j, j < n → tb (s + j) = w.reverse.getD j 0
  | [], n => by
    show n = 0 ↔ _
    constructor
    · intro h; exact ⟨h, fun j hj => by omega⟩
    · intro h; exact h.1
  | x :: t, n => by
    have hlen : (x :: t).length = t.length + 1 := rfl
    have hrl : t.reverse.length = t.length := List.length_reverse
    constructor
    · rintro ⟨m, rfl, e1, e2⟩
      obtain ⟨rfl, e3⟩ := (isWr_iff t m).mp e2
      refine ⟨rfl, fun j hj => ?_⟩
      rw [List.reverse_cons, List.getD_eq_getElem?_getD, List.getElem?_append]
      by_cases hjm : j < t.length
      · rw [if_pos (by omega), ← List.getD_eq_getElem?_getD]; exact e3 j hjm
      · obtain rfl : j = t.length := by omega
        rw [if_neg (by omega), hrl, Nat.sub_self]; exact e1
    · rintro ⟨e1, e2⟩
      refine ⟨t.length, by omega, ?_, (isWr_iff t _).mpr ⟨rfl, fun j hj => ?_⟩⟩
      · have := e2 t.length (by omega)
        rw [List.reverse_cons, List.getD_eq_getElem?_getD, List.getElem?_append, if_neg (by omega), hrl, Nat.sub_self] at this
        exact this
      · have := e2 j (by omega)
        rw [List.reverse_cons, List.getD_eq_getElem?_getD, List.getElem?_append, if_pos (by omega), ← List.getD_eq_getElem?_getD] at this
        exact this
variable {G : GT} {l : Launch}
set_option maxHeartbeats 4000000 in
set_option maxRecDepth 100000 in
theorem c_J0_coder_7d493 {i : Nat} (hi : i < 9) : Ki G l yJ0_coder_7d493 cJ0_coder_7d493 1 (some .byte) (RM 1 0) [.ref (G.2.2.2.1 i)] ([]) (fun u : Unit => []) (fun r _ => r = 0) := by
  refine Ki.ofn (by decide) (Nat.le_of_ble_eq_true rfl) ?_
  intro p e s m args below meth c A Q ls hx hb S0 hG hA h hret hl
  have S0 : CF p m c cJ0_coder_7d493 1 s args RJ0 := S0
  have hl : lv_has ls 1 [(0, .ref (G.2.2.2.1 i))] := hl
  refine va_gets hx hb hG.2.2.2.2.2.2.1 h.2.2 S0.2.2.2.1 (S0.2.2.2.2 _ (rin30 _ (List.mem_of_getElem? (i := 7) rfl))) (fun _ q => q) dJ0_coder_7d493_0 ?_
  refine lv_if_eq hx hb (tgt := 13) dJ0_coder_7d493_3 (by decide) (fun c3 => absurd c3 (by decide)) (fun c3 => ?_)
  refine lv_aload_n hx hb dJ0_coder_7d493_6 rfl (lv_at hl 0 rfl) ?_
  refine vk_getf hx hb (hG.2.2.2.2.2.1.1 i hi).2.1 h.2.2 S0.2.2.2.1 (S0.2.2.2.2 _ (rin30 _ (List.mem_of_getElem? (i := 8) rfl))) (fun _ q => q) dJ0_coder_7d493_7 ?_
  refine lv_goto (tgt := 14) hx hb dJ0_coder_7d493_10 (by decide) ?_
  exact hret _ () _ _ _ _ (by decide) rfl h dJ0_coder_7d493_14
set_option maxHeartbeats 4000000 in
set_option maxRecDepth 100000 in
theorem c_J0_isLatin1_aae02 {i : Nat} (hi : i < 9) : Ki G l yJ0_isLatin1_aae02 cJ0_isLatin1_aae02 1 (some .boolean) (RM 1 0) [.ref (G.2.2.2.1 i)] ([]) (fun u : Unit => []) (fun r _ => r = nI 1) := by
  refine Ki.ofz (by decide) (Nat.le_of_ble_eq_true rfl) ?_
  intro p e s m args below meth c A Q ls hx hb S0 hG hA h hret hl
  have S0 : CF p m c cJ0_isLatin1_aae02 1 s args RJ0 := S0
  have hl : lv_has ls 1 [(0, .ref (G.2.2.2.1 i))] := hl
  refine va_gets hx hb hG.2.2.2.2.2.2.1 h.2.2 S0.2.2.2.1 (S0.2.2.2.2 _ (rin30 _ (List.mem_of_getElem? (i := 7) rfl))) (fun _ q => q) dJ0_isLatin1_aae02_0 ?_
  refine lv_if_eq hx hb (tgt := 17) dJ0_isLatin1_aae02_3 (by decide) (fun c3 => absurd c3 (by decide)) (fun c3 => ?_)
  refine lv_aload_n hx hb dJ0_isLatin1_aae02_6 rfl (lv_at hl 0 rfl) ?_
  refine vk_getf hx hb (hG.2.2.2.2.2.1.1 i hi).2.1 h.2.2 S0.2.2.2.1 (S0.2.2.2.2 _ (rin30 _ (List.mem_of_getElem? (i := 8) rfl))) (fun _ q => q) dJ0_isLatin1_aae02_7 ?_
  refine lv_if_ne hx hb (tgt := 17) dJ0_isLatin1_aae02_10 (by decide) (fun c10 => absurd rfl c10) (fun c10 => ?_)
  refine lv_iconst (v := nI 1) hx hb dJ0_isLatin1_aae02_13 (by decide) ?_
  refine lv_goto (tgt := 18) hx hb dJ0_isLatin1_aae02_14 (by decide) ?_
  exact hret _ () _ _ _ _ (by decide) rfl h dJ0_isLatin1_aae02_18
theorem kw_RJ0_335 : GoodIn wsL_law (wsV RJ0 335 RJ0 yJ0_coder_7d493 (WS yJ0_coder_7d493 cJ0_coder_7d493 1 (some .byte))) := gV (rin30 _ (List.mem_of_getElem? (i := 3) rfl)) (rin30 _ (List.mem_of_getElem? (i := 4) rfl)) (rin30 _ (List.mem_of_getElem? (i := 5) rfl)) (rin30 _ (List.mem_of_getElem? (i := 0) rfl)) (rin30 _ (List.mem_of_getElem? (i := 6) rfl))
theorem kdV_J0_coder_7d493 : yJ0_coder_7d493.cls = RJ0 ∧ yJ0_coder_7d493.cls ≠ "java/lang/invoke/MethodHandle" ∧ yJ0_coder_7d493.cls ≠ "java/lang/invoke/VarHandle" ∧ (parseMethodDescriptor yJ0_coder_7d493.desc).map (fun d => d.parameters.length) = some 0 := ⟨rfl, by decide +kernel, by decide +kernel, by decide +kernel⟩
set_option maxHeartbeats 4000000 in
set_option maxRecDepth 100000 in
theorem c_J0_length_8abf5 {i : Nat} (hi : i < 9) : Ki G l yJ0_length_8abf5 cJ0_length_8abf5 1 (some .int) (RM 2 20) [.ref (G.2.2.2.1 i)] ([]) (fun u : Unit => []) (fun r _ => r = nI (SLlen.getD i 0)) := by
  refine Ki.of (by decide) (Nat.le_of_ble_eq_true rfl) ?_
  intro p e s m args below meth c A Q ls hx hb S0 hG hA h hret hl
  have S0 : CF p m c cJ0_length_8abf5 1 s args RJ0 := S0
  have hl : lv_has ls 1 [(0, .ref (G.2.2.2.1 i))] := hl
  refine lv_aload_n hx hb dJ0_length_8abf5_0 rfl (lv_at hl 0 rfl) ?_
  refine vk_getf hx hb (hG.2.2.2.2.2.1.1 i hi).2.2.1 h.2.2 S0.2.2.2.1 (S0.2.2.2.2 _ (rin30 _ (List.mem_of_getElem? (i := 2) rfl))) (fun _ q => q) dJ0_length_8abf5_1 ?_
  refine va_tlen hx hb (hG.2.2.2.2.2.1.1 i hi).2.2.2 h.2.2 (v := nI (SLlen.getD i 0)) rfl dJ0_length_8abf5_4 ?_
  refine lv_aload_n hx hb dJ0_length_8abf5_5 rfl (lv_at hl 0 rfl) ?_
  refine cK_iE S0 hG hA h hl.1 hi kw_RJ0_335 kdV_J0_coder_7d493 (c_J0_coder_7d493 hi) ⟨rfl, rfl, by decide, by decide, Nat.le_refl _, Nat.le_refl _⟩ rfl rfl (Nat.le_of_ble_eq_true rfl) dJ0_length_8abf5_6 (fun r u H locs hq h => ?_)
  obtain rfl := hq
  refine lv_ishr hx hb dJ0_length_8abf5_9 ?_
  exact hret _ () _ _ _ _ ((pk_shrN (SL_lt hi) 0 0 (by decide)).trans (nI_cong (by omega))) h dJ0_length_8abf5_10
set_option maxHeartbeats 4000000 in
set_option maxRecDepth 100000 in
theorem c_J3_checkIndex_8e157_n {x z : Nat} (hxz : x < z) (hz : z < 2147483648) : Ki G l yJ3_checkIndex_8e157 cJ3_checkIndex_8e157 3 (some .int) (RM 1 0) [.int (nI x), .int (nI z), .null] ([]) (fun u : Unit => []) (fun _ _ => True) := by
  refine Ki.of (by decide) (Nat.le_of_ble_eq_true rfl) ?_
  intro p e s m args below meth c A Q ls hx hb S0 hG hA h hret hl
  have S0 : CF p m c cJ3_checkIndex_8e157 3 s args RJ3 := S0
  have hl : lv_has ls 3 [(0, .int (nI x)), (1, .int (nI z)), (2, .null)] := hl
  refine lv_iload_n hx hb dJ3_checkIndex_8e157_0 rfl (lv_at hl 0 rfl) ?_
  refine n_zlt hx hb (by omega) (tgt := 9) dJ3_checkIndex_8e157_1 (by decide) ?_
  refine lv_iload_n hx hb dJ3_checkIndex_8e157_4 rfl (lv_at hl 0 rfl) ?_
  refine lv_iload_n hx hb dJ3_checkIndex_8e157_5 rfl (lv_at hl 1 rfl) ?_
  refine n_clt hx hb (by omega) (by omega) (tgt := 16) dJ3_checkIndex_8e157_6 (by decide) (fun c6 => ?_) (fun c6 => absurd hxz (by omega))
  refine lv_iload_n hx hb dJ3_checkIndex_8e157_16 rfl (lv_at hl 0 rfl) ?_
  exact hret _ () _ _ _ _ trivial h dJ3_checkIndex_8e157_17
set_option maxHeartbeats 4000000 in
set_option maxRecDepth 100000 in
theorem c_J3_checkIndex_8e157_r {x z : Nat} (hxz : x < z) (hz : z < 2147483648) {t9 : Nat} : Ki G l yJ3_checkIndex_8e157 cJ3_checkIndex_8e157 3 (some .int) (RM 1 0) [.int (nI x), .int (nI z), .ref t9] ([]) (fun u : Unit => []) (fun _ _ => True) := by
  refine Ki.of (by decide) (Nat.le_of_ble_eq_true rfl) ?_
  intro p e s m args below meth c A Q ls hx hb S0 hG hA h hret hl
  have S0 : CF p m c cJ3_checkIndex_8e157 3 s args RJ3 := S0
  have hl : lv_has ls 3 [(0, .int (nI x)), (1, .int (nI z)), (2, .ref t9)] := hl
  refine lv_iload_n hx hb dJ3_checkIndex_8e157_0 rfl (lv_at hl 0 rfl) ?_
  refine n_zlt hx hb (by omega) (tgt := 9) dJ3_checkIndex_8e157_1 (by decide) ?_
  refine lv_iload_n hx hb dJ3_checkIndex_8e157_4 rfl (lv_at hl 0 rfl) ?_
  refine lv_iload_n hx hb dJ3_checkIndex_8e157_5 rfl (lv_at hl 1 rfl) ?_
  refine n_clt hx hb (by omega) (by omega) (tgt := 16) dJ3_checkIndex_8e157_6 (by decide) (fun c6 => ?_) (fun c6 => absurd hxz (by omega))
  refine lv_iload_n hx hb dJ3_checkIndex_8e157_16 rfl (lv_at hl 0 rfl) ?_
  exact hret _ () _ _ _ _ trivial h dJ3_checkIndex_8e157_17
theorem kw_RJ0_1059 : GoodIn wsL_law (va_wsS RJ0 1059 yJ3_checkIndex_8e157 (WS yJ3_checkIndex_8e157 cJ3_checkIndex_8e157 3 (some .int))) := gS (rin31 _ (List.mem_of_getElem? (i := 1) rfl)) (rin31 _ (List.mem_of_getElem? (i := 2) rfl)) (rin31 _ (List.mem_of_getElem? (i := 3) rfl)) (rin31 _ (List.mem_of_getElem? (i := 4) rfl))
theorem kdS_J3_checkIndex_8e157 : yJ3_checkIndex_8e157.cls ≠ "java/lang/invoke/MethodHandle" ∧ yJ3_checkIndex_8e157.cls ≠ "java/lang/invoke/VarHandle" ∧ (parseMethodDescriptor yJ3_checkIndex_8e157.desc).map (fun d => d.parameters.length) = some 3 := ⟨by decide +kernel, by decide +kernel, by decide +kernel⟩
set_option maxHeartbeats 4000000 in
set_option maxRecDepth 100000 in
theorem c_J0_checkIndex_df160 {x z : Nat} (hxz : x < z) (hz : z < 2147483648) : Kv G l yJ0_checkIndex_df160 cJ0_checkIndex_df160 2 none (RM 2 22) [.int (nI x), .int (nI z)] ([]) (fun u : Unit => []) (fun _ => True) := by
  refine Kv.of (by decide) (Nat.le_of_ble_eq_true rfl) ?_
  intro p e s m args below meth c A Q ls hx hb S0 hG hA h hret hl
  have S0 : CF p m c cJ0_checkIndex_df160 2 s args RJ0 := S0
  have hl : lv_has ls 2 [(0, .int (nI x)), (1, .int (nI z))] := hl
  refine lv_iload_n hx hb dJ0_checkIndex_df160_0 rfl (lv_at hl 0 rfl) ?_
  refine lv_iload_n hx hb dJ0_checkIndex_df160_1 rfl (lv_at hl 1 rfl) ?_
  rcases hG.2.2.2.2.2.2.2 with hz9 | ⟨t9, hz9⟩
  ·
    refine va_gets hx hb hz9 h.2.2 S0.2.2.2.1 (S0.2.2.2.2 _ (rin31 _ (List.mem_of_getElem? (i := 0) rfl))) (fun _ q => q) dJ0_checkIndex_df160_2 ?_
    refine cS_iE S0 hG hA h hl.1 kw_RJ0_1059 kdS_J3_checkIndex_8e157 (c_J3_checkIndex_8e157_n hxz hz) ⟨rfl, rfl, by decide, by decide, Nat.le_refl _, Nat.le_refl _⟩ rfl rfl (Nat.le_of_ble_eq_true rfl) dJ0_checkIndex_df160_5 (fun r u H locs hq h => ?_)
    refine lv_pop hx hb dJ0_checkIndex_df160_8 rfl ?_
    exact hret () _ _ _ _ trivial h dJ0_checkIndex_df160_9
  ·
    refine va_gets hx hb hz9 h.2.2 S0.2.2.2.1 (S0.2.2.2.2 _ (rin31 _ (List.mem_of_getElem? (i := 0) rfl))) (fun _ q => q) dJ0_checkIndex_df160_2 ?_
    refine cS_iE S0 hG hA h hl.1 kw_RJ0_1059 kdS_J3_checkIndex_8e157 (c_J3_checkIndex_8e157_r hxz hz) ⟨rfl, rfl, by decide, by decide, Nat.le_refl _, Nat.le_refl _⟩ rfl rfl (Nat.le_of_ble_eq_true rfl) dJ0_checkIndex_df160_5 (fun r u H locs hq h => ?_)
    refine lv_pop hx hb dJ0_checkIndex_df160_8 rfl ?_
    exact hret () _ _ _ _ trivial h dJ0_checkIndex_df160_9
theorem kw_RJ1_9 : GoodIn wsL_law (va_wsS RJ1 9 yJ0_checkIndex_df160 (WS yJ0_checkIndex_df160 cJ0_checkIndex_df160 2 none)) := gS (rin30 _ (List.mem_of_getElem? (i := 21) rfl)) (rin30 _ (List.mem_of_getElem? (i := 22) rfl)) (rin30 _ (List.mem_of_getElem? (i := 0) rfl)) (rin30 _ (List.mem_of_getElem? (i := 23) rfl))
theorem kdS_J0_checkIndex_df160 : yJ0_checkIndex_df160.cls ≠ "java/lang/invoke/MethodHandle" ∧ yJ0_checkIndex_df160.cls ≠ "java/lang/invoke/VarHandle" ∧ (parseMethodDescriptor yJ0_checkIndex_df160.desc).map (fun d => d.parameters.length) = some 2 := ⟨by decide +kernel, by decide +kernel, by decide +kernel⟩
set_option maxHeartbeats 4000000 in
set_option maxRecDepth 100000 in
theorem c_J1_charAt_3b067 {i : Nat} (hi : i < 9) {j : Nat} (hj : j < SLlen.getD i 0) : Ki G l yJ1_charAt_3b067 cJ1_charAt_3b067 2 (some .char) (RM 3 43) [.ref (G.2.2.2.2 i), .int (nI j)] ([]) (fun u : Unit => []) (fun r _ => r = nI (SLn i j)) := by
  refine Ki.ofn (by decide) (Nat.le_of_ble_eq_true rfl) ?_
  intro p e s m args below meth c A Q ls hx hb S0 hG hA h hret hl
  have S0 : CF p m c cJ1_charAt_3b067 2 s args RJ1 := S0
  have hl : lv_has ls 2 [(0, .ref (G.2.2.2.2 i)), (1, .int (nI j))] := hl
  refine lv_iload_n hx hb dJ1_charAt_3b067_0 rfl (lv_at hl 1 rfl) ?_
  refine lv_aload_n hx hb dJ1_charAt_3b067_1 rfl (lv_at hl 0 rfl) ?_
  refine va_tlen hx hb (hG.2.2.2.2.2.1.1 i hi).2.2.2 h.2.2 (v := nI (SLlen.getD i 0)) rfl dJ1_charAt_3b067_2 ?_
  refine cS_vE S0 hG hA h hl.1 kw_RJ1_9 kdS_J0_checkIndex_df160 (c_J0_checkIndex_df160 hj (SL_lt hi)) ⟨rfl, rfl, by decide, by decide, Nat.le_refl _, Nat.le_refl _⟩ rfl rfl (Nat.le_of_ble_eq_true rfl) dJ1_charAt_3b067_3 (fun u H locs hq h => ?_)
  refine lv_aload_n hx hb dJ1_charAt_3b067_6 rfl (lv_at hl 0 rfl) ?_
  refine lv_iload_n hx hb dJ1_charAt_3b067_7 rfl (lv_at hl 1 rfl) ?_
  refine va_tb hx hb (hG.2.2.2.2.2.1.1 i hi).2.2.2 h.2.2 (vp_in_nI hj (SL_lt hi)) (by rw [cl_nI hj (SL_lt hi)]) dJ1_charAt_3b067_8 ?_
  refine lv_sipush (v := nI 255) hx hb dJ1_charAt_3b067_9 (by decide) ?_
  refine lv_iand hx hb dJ1_charAt_3b067_12 ?_
  refine lv_i2c hx hb dJ1_charAt_3b067_13 rfl ?_
  have e9 := SL_ch hi hj
  have n9 := SL_n hi hj
  exact hret _ () _ _ _ _ (pk_nc _) e9 h dJ1_charAt_3b067_14
theorem kw_RJ0_492 : GoodIn wsL_law (wsV RJ0 492 RJ0 yJ0_isLatin1_aae02 (WS yJ0_isLatin1_aae02 cJ0_isLatin1_aae02 1 (some .boolean))) := gV (rin30 _ (List.mem_of_getElem? (i := 13) rfl)) (rin30 _ (List.mem_of_getElem? (i := 14) rfl)) (rin30 _ (List.mem_of_getElem? (i := 15) rfl)) (rin30 _ (List.mem_of_getElem? (i := 0) rfl)) (rin30 _ (List.mem_of_getElem? (i := 16) rfl))
theorem kw_RJ0_495 : GoodIn wsL_law (va_wsS RJ0 495 yJ1_charAt_3b067 (WS yJ1_charAt_3b067 cJ1_charAt_3b067 2 (some .char))) := gS (rin30 _ (List.mem_of_getElem? (i := 17) rfl)) (rin30 _ (List.mem_of_getElem? (i := 18) rfl)) (rin30 _ (List.mem_of_getElem? (i := 19) rfl)) (rin30 _ (List.mem_of_getElem? (i := 20) rfl))
theorem kdV_J0_isLatin1_aae02 : yJ0_isLatin1_aae02.cls = RJ0 ∧ yJ0_isLatin1_aae02.cls ≠ "java/lang/invoke/MethodHandle" ∧ yJ0_isLatin1_aae02.cls ≠ "java/lang/invoke/VarHandle" ∧ (parseMethodDescriptor yJ0_isLatin1_aae02.desc).map (fun d => d.parameters.length) = some 0 := ⟨rfl, by decide +kernel, by decide +kernel, by decide +kernel⟩
theorem kdS_J1_charAt_3b067 : yJ1_charAt_3b067.cls ≠ "java/lang/invoke/MethodHandle" ∧ yJ1_charAt_3b067.cls ≠ "java/lang/invoke/VarHandle" ∧ (parseMethodDescriptor yJ1_charAt_3b067.desc).map (fun d => d.parameters.length) = some 2 := ⟨by decide +kernel, by decide +kernel, by decide +kernel⟩
set_option maxHeartbeats 4000000 in
set_option maxRecDepth 100000 in
theorem c_J0_charAt_5068e {i : Nat} (hi : i < 9) {j : Nat} (hj : j < SLlen.getD i 0) : Ki G l yJ0_charAt_5068e cJ0_charAt_5068e 2 (some .char) (RM 5 85) [.ref (G.2.2.2.1 i), .int (nI j)] ([]) (fun u : Unit => []) (fun r _ => r = nI (SLn i j)) := by
  refine Ki.ofn (by decide) (Nat.le_of_ble_eq_true rfl) ?_
  intro p e s m args below meth c A Q ls hx hb S0 hG hA h hret hl
  have S0 : CF p m c cJ0_charAt_5068e 2 s args RJ0 := S0
  have hl : lv_has ls 2 [(0, .ref (G.2.2.2.1 i)), (1, .int (nI j))] := hl
  refine lv_aload_n hx hb dJ0_charAt_5068e_0 rfl (lv_at hl 0 rfl) ?_
  refine cK_iE S0 hG hA h hl.1 hi kw_RJ0_492 kdV_J0_isLatin1_aae02 (c_J0_isLatin1_aae02 hi) ⟨rfl, rfl, by decide, by decide, Nat.le_refl _, Nat.le_refl _⟩ rfl rfl (Nat.le_of_ble_eq_true rfl) dJ0_charAt_5068e_1 (fun r u H locs hq h => ?_)
  obtain rfl := hq
  refine n_zeq hx hb (by decide) (tgt := 16) dJ0_charAt_5068e_4 (by decide) (fun q => absurd q (by decide)) (fun _ => ?_)
  refine lv_aload_n hx hb dJ0_charAt_5068e_7 rfl (lv_at hl 0 rfl) ?_
  refine vk_getf hx hb (hG.2.2.2.2.2.1.1 i hi).2.2.1 h.2.2 S0.2.2.2.1 (S0.2.2.2.2 _ (rin30 _ (List.mem_of_getElem? (i := 2) rfl))) (fun _ q => q) dJ0_charAt_5068e_8 ?_
  refine lv_iload_n hx hb dJ0_charAt_5068e_11 rfl (lv_at hl 1 rfl) ?_
  refine cS_iE S0 hG hA h hl.1 kw_RJ0_495 kdS_J1_charAt_3b067 (c_J1_charAt_3b067 hi hj) ⟨rfl, rfl, by decide, by decide, Nat.le_refl _, Nat.le_refl _⟩ rfl rfl (Nat.le_of_ble_eq_true rfl) dJ0_charAt_5068e_12 (fun r u H locs hq h => ?_)
  obtain rfl := hq
  have n9 := SL_n hi hj
  exact hret _ () _ _ _ _ (pk_charN (by omega)).1 rfl h dJ0_charAt_5068e_15
