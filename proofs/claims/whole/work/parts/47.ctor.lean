/-! constructors: contracts that make cells -/
abbrev RMc (d L c s : Nat) : Room := { frames := d, cells := c, slots := s, locals := L }
def PBn (G : GT) (wc : va_W) (sz : Nat) : State → Prop := fun V => PB G wc sz V ∧ va_AO "ComposedInterval$Sheet" V
theorem PBn.blind {G : GT} {wc : va_W} {sz : Nat} {av : List Value} : FrameBlind (va_Pc av (PBn G wc sz)) := fun a U g mk q => by
  obtain ⟨q0, ⟨q1, q2, qP, qD⟩, qO⟩ := q
  exact ⟨q0, ⟨q1, q2.calling, qP, qD⟩, va_AO.moved (u := U) (U := U.calling g mk a) (Vm.Alike.refl U.vm) qO⟩
def Kn (G : GT) (l : Launch) (y : MethodName) (cc : ByteArray) (n : Nat) (rm : Room) (av : List Value) (wc : va_W) {S : Type} (w1 : S → va_W) (mc ms : Nat) : Prop := ∀ sz, Met l y (WS y cc n none) rm (va_Pc av (PBn G wc sz)) (va_Qv (fun _ : S => True) (fun u t => va_P G.1 vwCl (w1 u) t.heap ∧ va_D (va_A wc sz) (w1 u)) (va_A wc sz)) mc ms (va_A wc sz)
theorem Kn.of {G : GT} {l : Launch} {y : MethodName} {cc : ByteArray} {n : Nat} {rm : Room} {av : List Value} {wc : va_W} {S : Type} {w1 : S → va_W} {mc ms : Nat} (hy : plainName y.cls = true) (hnL : (lg_sl av).length ≤ n)
    (body : ∀ (p : Program) (e : Env) (s : State) (m : MethodId) (args : Array Value) (below : List Frame) (meth : Method) (c : Code) (A : Nat → Prop) (Q : State → Prop) (ls : Array Slot), p.tables.exec = Jvm.exec → c.code = cc → CF p m c cc n s args y.cls → GX G A s → (∀ q : Nat, s.heap.size ≤ q → A q) → va_AO "ComposedInterval$Sheet" s → WX G A s s.heap [] wc → meth.name = y.name →
      (∀ (u : S) (H : Heap) (locs : List Loc) (pc : Nat) (ls : Array Slot), WX G A s H locs (w1 u) → decode cc pc = .ok (.return_, 1) → W p l e rm s m args below meth c H locs mc ms Q (F0 m pc ls [])) → lv_has ls n (lv_args 0 av) → W p l e rm s m args below meth c s.heap [] 0 0 Q (F0 m 0 ls [])) : Kn G l y cc n rm av wc w1 mc ms := by
  intro sz
  refine Met.ofW (cc := cc) (maxL := n) (ret := none) hy rfl ?_
  intro p e s m args below meth c s₁ B hml hv
  obtain ⟨rfl, ⟨hsz, hG, hP, hD0⟩, hO⟩ := hv
  have hx := B.exec
  have hb := B.bytes
  have hr := B.returns
  have hts := atoms_spec (ws := WS y cc n none) B.pre
  have hown : s.vm.findClass y.cls = some m.cls := findClass_of_methodNamed B.named
  have hin : meth.name = y.name := (name_of_methodNamed B.named B.method).1
  subst hsz
  have hD := hD0.self (sz := s.heap.size)
  have hl := lv_entry av (n := n) hnL
  rw [lg_entry_eq]
  generalize (lg_sl av ++ List.replicate (n - (lg_sl av).length) Slot.unset).toArray = ls at hl ⊢
  have hA : ∀ q : Nat, s.heap.size ≤ q → va_A wc s.heap.size q := fun q h => Or.inr h
  have hS : va_S (va_A wc s.heap.size) s.heap s.heap [] := va_S.rf
  refine body p e s m av.toArray below meth c _ _ ls hx hb ⟨hx, hb, hml, hown, fun w h => hts w (List.mem_cons_of_mem _ h)⟩ hG hA hO ⟨hP, hD, hS⟩ hin ?_ hl
  intro u H locs pc ls h hd
  exact W.vret hx hb hr (fun t ht hW => ⟨⟨u, rfl, trivial, by show va_P G.1 vwCl (w1 u) t.heap; rw [ht]; exact h.1, h.2.1⟩, h.2.2.F ht⟩) h.2.2.2.2 hd
theorem preN {G : GT} {A : Nat → Prop} {s : State} {H : Heap} {locs : List Loc} {ws wc : va_W} {av : List Value} (hG : GX G A s) (hA : ∀ q, s.heap.size ≤ q → A q) (hO : va_AO "ComposedInterval$Sheet" s) (h : WX G A s H locs ws) (isC : List Nat) (hn : va_nd isC = true) (hC : isC.map (fun i => ws[i]?) = wc.map some) (hC2 : isC.filterMap (fun i => ws[i]?) = wc) : PreS s H (va_Pc av (PBn G wc H.size)) av :=
  ⟨PBn.blind, fun U hU hW => ⟨rfl, ((preC (av := av) hG hA h isC hn hC hC2).2 U hU hW).2, va_AO.moved hW.alike hO⟩⟩
abbrev RnOk (rmY R : Room) (nY cells slots mc ms : Nat) : Prop := rmY.cells = mc ∧ rmY.slots = ms ∧ rmY.frames + 1 ≤ R.frames ∧ 8 + (nY + 11) + rmY.locals ≤ R.locals ∧ cells + mc ≤ R.cells ∧ slots + ms ≤ R.slots
def z0 : Row := fun _ => 0
def z8 : Nat → Int64 := fun _ => 0
section CTR
variable {p : Program} {l : Launch} {e : Env} {R : Room} {s : State} {m : MethodId} {args : Array Value} {below : List Frame} {meth : Method} {c : Code} {H : Heap} {locs : List Loc} {cells slots : Nat} {Q : State → Prop}
variable {cc ccY : ByteArray} {pc nL nY n mc ms idx : Nat} {ls : Array Slot} {rest st0 : List Value} {A : Nat → Prop} {G : GT} {ws wc wr : va_W} {S : Type} {w1 : S → va_W} {own host : String} {y : MethodName} {rmY : Room} {b : Nat} {As : List Value}
theorem cI_n (S0 : CF p m c cc nL s args own) (hG : GX G A s) (hA : ∀ q, s.heap.size ≤ q → A q) (hO : va_AO "ComposedInterval$Sheet" s) (h : WX G A s H locs ws) (hl : ls.size = nL) (gw : GoodIn wsL_law (WS y ccY nY none)) (gi : Cond.initialized y.cls ∈ wsL_law) (gm : Cond.instanceMethod y ∈ wsL_law) (gn : Cond.methodLinkNest own idx y host ∈ NW) (hd : y.cls ≠ "java/lang/invoke/MethodHandle" ∧ y.cls ≠ "java/lang/invoke/VarHandle" ∧ (parseMethodDescriptor y.desc).map (fun d => d.parameters.length) = some n) (hin : y.name = "<init>") (hK : Kn G l y ccY nY rmY (.ref b :: As) wc w1 mc ms) (hR : RnOk rmY R nY cells slots mc ms) (hn : As.length = n) (isC isR : List Nat) (hnd : va_nd isC = true) (hC : isC.map (fun i => ws[i]?) = wc.map some) (hC2 : isC.filterMap (fun i => ws[i]?) = wc) (hRr : isR.map (fun i => ws[i]?) = wr.map some) (hnR : va_nd isR = true) (hdis : ∀ i ∈ isR, i ∉ isC) (hst : st0 = As.reverse ++ .ref b :: rest) (hw : (rest.map fun v => v.category).sum ≤ 8) (hdg : decode cc pc = .ok (.invokespecial idx, 3))
    (kk : ∀ (u : S) (H1 : Heap) (locs1 : List Loc), WX G A s H1 locs1 (wr ++ w1 u) → W p l e R s m args below meth c H1 locs1 (cells + mc) (slots + ms) Q (F0 m (pc + 3) ls rest)) : W p l e R s m args below meth c H locs cells slots Q (F0 m pc ls st0) := by
  subst hst
  have hF := h.fr hA isC hC
  refine va_callv (va_runIN S0 (hK H.size) ⟨va_cnB n S0.2.2.2.2 gw rfl hR.1 hR.2.1 (hG.1 _ gn) (S0.2.2.2.2 _ gi) hd ⟨hR.2.2.1, hR.2.2.2.1⟩, hin, S0.2.2.2.2 _ gm⟩ (preN hG hA hO h isC hnd hC hC2) rfl hn hl rfl (lv_room hw) hdg ⟨hR.2.2.2.2.1, hR.2.2.2.2.2⟩) h.2.2 (fun q _ z => hF q z) hF (fun u t H1 locs1 ht hvm hp hB hz hk hS => ?_)
  obtain ⟨hP1, hD1⟩ := hB
  rw [ht] at hP1
  obtain ⟨hP, hD⟩ := va_join h.1 h.2.1 isC isR hC hRr hnR hdis hk hF hP1 hD1
  exact kk u H1 locs1 ⟨hP, hD, hS⟩
theorem cI_m (S0 : CF p m c cc nL s args own) (hG : GX G A s) (hA : ∀ q, s.heap.size ≤ q → A q) (hO : va_AO "ComposedInterval$Sheet" s) (h : WX G A s H locs ws) (hl : ls.size = nL) (gw : GoodIn wsL_law (WS y ccY nY none)) (gi : Cond.initialized y.cls ∈ wsL_law) (gm : Cond.instanceMethod y ∈ wsL_law) (gn : Cond.methodLink own idx y ∈ wsL_law) (hd : y.cls ≠ "java/lang/invoke/MethodHandle" ∧ y.cls ≠ "java/lang/invoke/VarHandle" ∧ (parseMethodDescriptor y.desc).map (fun d => d.parameters.length) = some n) (hin : y.name = "<init>") (hK : Kn G l y ccY nY rmY (.ref b :: As) wc w1 mc ms) (hR : RnOk rmY R nY cells slots mc ms) (hn : As.length = n) (isC isR : List Nat) (hnd : va_nd isC = true) (hC : isC.map (fun i => ws[i]?) = wc.map some) (hC2 : isC.filterMap (fun i => ws[i]?) = wc) (hRr : isR.map (fun i => ws[i]?) = wr.map some) (hnR : va_nd isR = true) (hdis : ∀ i ∈ isR, i ∉ isC) (hst : st0 = As.reverse ++ .ref b :: rest) (hw : (rest.map fun v => v.category).sum ≤ 8) (hdg : decode cc pc = .ok (.invokespecial idx, 3))
    (kk : ∀ (u : S) (H1 : Heap) (locs1 : List Loc), WX G A s H1 locs1 (wr ++ w1 u) → W p l e R s m args below meth c H1 locs1 (cells + mc) (slots + ms) Q (F0 m (pc + 3) ls rest)) : W p l e R s m args below meth c H locs cells slots Q (F0 m pc ls st0) := by
  subst hst
  have hF := h.fr hA isC hC
  refine va_callv (va_runI S0 (hK H.size) (cwI n S0.2.2.2.2 gw rfl hR.1 hR.2.1 (S0.2.2.2.2 _ gi) (S0.2.2.2.2 _ gn) (S0.2.2.2.2 _ gm) hin hd ⟨hR.2.2.1, hR.2.2.2.1⟩) (preN hG hA hO h isC hnd hC hC2) rfl hn hl rfl (lv_room hw) hdg ⟨hR.2.2.2.2.1, hR.2.2.2.2.2⟩) h.2.2 (fun q _ z => hF q z) hF (fun u t H1 locs1 ht hvm hp hB hz hk hS => ?_)
  obtain ⟨hP1, hD1⟩ := hB
  rw [ht] at hP1
  obtain ⟨hP, hD⟩ := va_join h.1 h.2.1 isC isR hC hRr hnR hdis hk hF hP1 hD1
  exact kk u H1 locs1 ⟨hP, hD, hS⟩
theorem ct_obj {a : Nat} (S0 : CF p m c cc nL s args own) (hl : ls.size = nL) (h1 : Cond.methodLink own idx objectInit ∈ wsL_law) (hf : 1 ≤ R.frames) (hlo : (rest.map fun v => v.category).sum + 12 ≤ R.locals) (hdg : decode cc pc = .ok (.invokespecial idx, 3)) (kk : W p l e R s m args below meth c H locs cells slots Q (F0 m (pc + 3) ls rest)) : W p l e R s m args below meth c H locs cells slots Q (F0 m pc ls (.ref a :: rest)) :=
  W.objInit S0.1 S0.2.1 S0.2.2.2.1 (S0.2.2.2.2 _ h1) (S0.2.2.2.2 _ (rin1 _ (List.mem_of_getElem? (i := 11) rfl))) (S0.2.2.2.2 _ (rin1 _ (List.mem_of_getElem? (i := 12) rfl))) rfl (hl.trans S0.2.2.1.symm) rfl hdg hf (by show 2 * 0 + _ + 12 ≤ _; omega) (W.eq (g2 := F0 m (pc + 3) ls rest) rfl kk)
theorem ct_new {C : String} {T : u_T} {N ci : Nat} {fs : List Value} (S0 : CF p m c cc nL s args own) (hG : GX G A s) (hA : ∀ q, s.heap.size ≤ q → A q) (h : WX G A s H locs ws) (hin : ∀ w ∈ u_ws C T N, w ∈ wsL_law) (ty : Nat → FieldType) (hty : ∀ k, k < N → parseFieldDescriptor (T k).2.2.1 = some (ty k)) (h1 : Cond.classLink own idx C ∈ wsL_law) (h2 : Cond.instantiable C N ∈ wsL_law) (h3 : Cond.initialized C ∈ wsL_law) (hc : vwCl[ci]? = some (C, T, N)) (hfs : ∀ j, j < N → defaultValue (ty j) = vp_V fs j) (hcells : cells + 1 ≤ R.cells) (hslots : slots + N ≤ R.slots) (hdg : decode cc pc = .ok (.new idx, 3))
    (kk : ∀ (q : Nat) (H1 : Heap), WX G A s H1 locs (ws ++ [(q, .inr (ci, fs))]) → W p l e R s m args below meth c H1 locs (cells + 1) (slots + N) Q (F0 m (pc + 3) ls (.ref q :: rest))) : W p l e R s m args below meth c H locs cells slots Q (F0 m pc ls rest) :=
  va_new S0.1 S0.2.1 S0.2.2.2.2 hin ty hty S0.2.2.2.1 (S0.2.2.2.2 _ h1) (S0.2.2.2.2 _ h2) (S0.2.2.2.2 _ h3) hG.2.2.1 h.1 h.2.1 h.2.2 hA hc hfs hcells hslots hdg (fun q H1 hP hD hS => kk q H1 ⟨hP, hD, hS⟩)
theorem ct_newI {N : Nat} (S0 : CF p m c cc nL s args own) (hG : GX G A s) (hA : ∀ q, s.heap.size ≤ q → A q) (h : WX G A s H locs ws) (hN : N < 1000) (hcells : cells + 1 ≤ R.cells) (hslots : slots + N ≤ R.slots) (hdg : decode cc pc = .ok (.newarray .int, 2))
    (kk : ∀ (q : Nat) (H1 : Heap), WX G A s H1 locs (ws ++ [(q, .inl (gI G, N, .inl (fun i => nI (z0 i))))]) → W p l e R s m args below meth c H1 locs (cells + 1) (slots + N) Q (F0 m (pc + 2) ls (.ref q :: rest))) : W p l e R s m args below meth c H locs cells slots Q (F0 m pc ls (.int (nI N) :: rest)) := by
  have hby : N * componentBytes .int ≤ 536870912 := by show N * 4 ≤ 536870912; omega
  refine va_newa (atype := .int) (ty := .int) (N' := N) (a0 := (N, .inl (fun i => nI (z0 i)))) S0.1 S0.2.1 (S0.2.2.2.2 _ (rin1 _ (List.mem_of_getElem? (i := 19) rfl))) rfl hG.2.2.1 h.1 h.2.1 h.2.2 hA (fun _ => rfl) (nI_nn (by omega)) (nI_clamp (by omega)) hby hcells hslots hdg (fun q cA H1 hK hP hD hS => ?_)
  have e1 : cA = gI G := by
    have h1 := (hK.2 3 (cA, .int) rfl).2
    have h2 := (hG.2.2.1.2 0 (gI G, .int) rfl).2
    exact Option.some.inj (h1.symm.trans h2)
  subst e1
  exact kk q H1 ⟨hP, hD, hS⟩
theorem ct_newJ {N : Nat} (S0 : CF p m c cc nL s args own) (hG : GX G A s) (hA : ∀ q, s.heap.size ≤ q → A q) (h : WX G A s H locs ws) (hN : N < 1000) (hcells : cells + 1 ≤ R.cells) (hslots : slots + N ≤ R.slots) (hdg : decode cc pc = .ok (.newarray .long, 2))
    (kk : ∀ (q : Nat) (H1 : Heap), WX G A s H1 locs (ws ++ [(q, .inl (gJ G, N, .inr (.inl z8)))]) → W p l e R s m args below meth c H1 locs (cells + 1) (slots + N) Q (F0 m (pc + 2) ls (.ref q :: rest))) : W p l e R s m args below meth c H locs cells slots Q (F0 m pc ls (.int (nI N) :: rest)) := by
  have hby : N * componentBytes .long ≤ 536870912 := by show N * 8 ≤ 536870912; omega
  refine va_newa (atype := .long) (ty := .long) (N' := N) (a0 := (N, .inr (.inl z8))) S0.1 S0.2.1 (S0.2.2.2.2 _ (rin5 _ (List.mem_of_getElem? (i := 7) rfl))) rfl hG.2.2.1 h.1 h.2.1 h.2.2 hA (fun _ => rfl) (nI_nn (by omega)) (nI_clamp (by omega)) hby hcells hslots hdg (fun q cA H1 hK hP hD hS => ?_)
  have e1 : cA = gJ G := by
    have h1 := (hK.2 3 (cA, .long) rfl).2
    have h2 := (hG.2.2.1.2 1 (gJ G, .long) rfl).2
    exact Option.some.inj (h1.symm.trans h2)
  subst e1
  exact kk q H1 ⟨hP, hD, hS⟩
theorem ct_newS {N : Nat} (S0 : CF p m c cc nL s args own) (hG : GX G A s) (hA : ∀ q, s.heap.size ≤ q → A q) (hO : va_AO "ComposedInterval$Sheet" s) (h : WX G A s H locs ws) (h1 : Cond.classLink own idx "ComposedInterval$Sheet" ∈ wsL_law) (hN : N < 1000) (hcells : cells + 1 ≤ R.cells) (hslots : slots + N ≤ R.slots) (hdg : decode cc pc = .ok (.anewarray idx, 3))
    (kk : ∀ (q : Nat) (H1 : Heap), WX G A s H1 locs (ws ++ [(q, .inl (gSh G, N, .inr (.inr (.inr (.inr (fun _ => none))))))]) → W p l e R s m args below meth c H1 locs (cells + 1) (slots + N) Q (F0 m (pc + 3) ls (.ref q :: rest))) : W p l e R s m args below meth c H locs cells slots Q (F0 m pc ls (.int (nI N) :: rest)) := by
  refine va_newq (N' := N) S0.1 S0.2.1 S0.2.2.2.1 (S0.2.2.2.2 _ h1) hO hG.2.2.1 h.1 h.2.1 h.2.2 hA (nI_nn (by omega)) (nI_clamp (by omega)) (by omega) hcells hslots hdg (fun q cA H1 hK hP hD hS => ?_)
  have e1 : cA = gSh G := by
    obtain ⟨kA, comp, -, -, -, h1⟩ := (hK.2 3 (cA, .object "ComposedInterval$Sheet") rfl).2
    obtain ⟨kB, comp2, -, -, -, h2⟩ := (hG.2.2.1.2 2 (gSh G, .object "ComposedInterval$Sheet") rfl).2
    exact Option.some.inj (h1.symm.trans h2)
  subst e1
  exact kk q H1 ⟨hP, hD, hS⟩
theorem ct_putF {a : Nat} {ref C : String} {T : u_T} {N ci : Nat} (S0 : CF p m c cc nL s args own) (hG : GX G A s) (h : WX G A s H locs ws) (hin : ∀ w ∈ u_ws C T N, w ∈ wsL_law) (ty0 : Nat → FieldType) (hty : ∀ k, k < N → parseFieldDescriptor (T k).2.2.1 = some (ty0 k)) (hnm : ∀ a, a < N → ∀ b, b < N → a ≠ b → (T a).2.1 ≠ (T b).2.1) (q0 : Nat) {fs : List Value} (he : ws[q0]? = some (a, .inr (ci, fs))) (hc : vwCl[ci]? = some (C, T, N)) (k : Nat) (hk : k < N) (hlink : Cond.fieldLink own idx ref (T k).2.1 (T k).2.2.1 ∈ wsL_law) (hsame : ∀ x, s.fieldFound? (T k).1 (T k).2.1 (T k).2.2.1 = some x → s.fieldFound? ref (T k).2.1 (T k).2.2.1 = some x) (hfin : (T k).2.2.2 = true) (hin2 : meth.name = "<init>") (hdecl : (T k).1 = own) {ty : FieldType} {v : Value} (hd : parseFieldDescriptor (T k).2.2.1 = some ty) (hn : narrow ty v = v) (hfit : fits ty v = true) (hl : k < fs.length) (hdg : decode cc pc = .ok (.putfield idx, 3)) (kk : ∀ (H1 : Heap) (locs1 : List Loc), WX G A s H1 locs1 (ws.set q0 (a, .inr (ci, fs.set k v))) → W p l e R s m args below meth c H1 locs1 cells slots Q (F0 m (pc + 3) ls rest)) : W p l e R s m args below meth c H locs cells slots Q (F0 m pc ls (v :: .ref a :: rest)) :=
  va_putF S0.1 S0.2.1 S0.2.2.2.2 hin ty0 hty hnm S0.2.2.2.1 hG.2.2.1 h.1 h.2.1 h.2.2 q0 he hc k hk (S0.2.2.2.2 _ hlink) hsame hfin hin2 hdecl hd hn hfit hl hdg (fun H1 locs1 hP hD hS => kk H1 locs1 ⟨hP, hD, hS⟩)
theorem ct_put {a : Nat} {ref C : String} {T : u_T} {N ci : Nat} (S0 : CF p m c cc nL s args own) (hG : GX G A s) (h : WX G A s H locs ws) (hin : ∀ w ∈ u_ws C T N, w ∈ wsL_law) (ty0 : Nat → FieldType) (hty : ∀ k, k < N → parseFieldDescriptor (T k).2.2.1 = some (ty0 k)) (hnm : ∀ a, a < N → ∀ b, b < N → a ≠ b → (T a).2.1 ≠ (T b).2.1) (q0 : Nat) {fs : List Value} (he : ws[q0]? = some (a, .inr (ci, fs))) (hc : vwCl[ci]? = some (C, T, N)) (k : Nat) (hk : k < N) (hlink : Cond.fieldLink own idx ref (T k).2.1 (T k).2.2.1 ∈ wsL_law) (hsame : ∀ x, s.fieldFound? (T k).1 (T k).2.1 (T k).2.2.1 = some x → s.fieldFound? ref (T k).2.1 (T k).2.2.1 = some x) (hfin : (T k).2.2.2 = false) {ty : FieldType} {v : Value} (hd : parseFieldDescriptor (T k).2.2.1 = some ty) (hn : narrow ty v = v) (hfit : fits ty v = true) (hl : k < fs.length) (hdg : decode cc pc = .ok (.putfield idx, 3)) (kk : ∀ (H1 : Heap) (locs1 : List Loc), WX G A s H1 locs1 (ws.set q0 (a, .inr (ci, fs.set k v))) → W p l e R s m args below meth c H1 locs1 cells slots Q (F0 m (pc + 3) ls rest)) : W p l e R s m args below meth c H locs cells slots Q (F0 m pc ls (v :: .ref a :: rest)) :=
  va_put S0.1 S0.2.1 S0.2.2.2.2 hin ty0 hty hnm S0.2.2.2.1 hG.2.2.1 h.1 h.2.1 h.2.2 q0 he hc k hk (S0.2.2.2.2 _ hlink) hsame hfin hd hn hfit hl hdg (fun H1 locs1 hP hD hS => kk H1 locs1 ⟨hP, hD, hS⟩)
theorem ct_get {a : Nat} {ref C : String} {T : u_T} {N ci : Nat} {v : Value} (S0 : CF p m c cc nL s args own) (hG : GX G A s) (h : WX G A s H locs ws) (hin : ∀ w ∈ u_ws C T N, w ∈ wsL_law) (q0 : Nat) {fs : List Value} (he : ws[q0]? = some (a, .inr (ci, fs))) (hc : vwCl[ci]? = some (C, T, N)) (k : Nat) (hk : k < N) (hlink : Cond.fieldLink own idx ref (T k).2.1 (T k).2.2.1 ∈ wsL_law) (hsame : ∀ x, s.fieldFound? (T k).1 (T k).2.1 (T k).2.2.1 = some x → s.fieldFound? ref (T k).2.1 (T k).2.2.1 = some x) (hv : fs[k]? = some v) (hdg : decode cc pc = .ok (.getfield idx, 3)) (kk : W p l e R s m args below meth c H locs cells slots Q (F0 m (pc + 3) ls (v :: rest))) : W p l e R s m args below meth c H locs cells slots Q (F0 m pc ls (.ref a :: rest)) :=
  va_get S0.1 S0.2.1 S0.2.2.2.2 hin S0.2.2.2.1 hG.2.2.1 h.1 q0 he hc k hk (S0.2.2.2.2 _ hlink) hsame hv hdg kk
theorem ct_iast {a : Nat} {f : Row} {N j v : Nat} (S0 : CF p m c cc nL s args own) (hG : GX G A s) (h : WX G A s H locs ws) (q0 : Nat) (he : ws[q0]? = some (a, .inl (gI G, N, .inl (fun i => nI (f i))))) (hj : j < N) (hN : N < 1000) (hdg : decode cc pc = .ok (.iastore, 1)) (kk : ∀ (H1 : Heap) (locs1 : List Loc), WX G A s H1 locs1 (ws.set q0 (a, .inl (gI G, N, .inl (fun i => nI (va_up f j v i))))) → W p l e R s m args below meth c H1 locs1 cells slots Q (F0 m (pc + 1) ls rest)) : W p l e R s m args below meth c H locs cells slots Q (F0 m pc ls (.int (nI v) :: .int (nI j) :: .ref a :: rest)) :=
  va_iast S0.1 S0.2.1 hG.2.2.1 h.1 h.2.1 h.2.2 q0 0 he rfl (vp_in_nI hj (by omega)) hdg (fun H1 locs1 hP hD hS => kk H1 locs1 (by rw [cl_nI hj (by omega), up_nI] at hP hD; exact ⟨hP, hD, hS⟩))
theorem ct_ast {a v : Nat} {vs : List Value} {f : Nat → Option Nat} {N j : Nat} (S0 : CF p m c cc nL s args own) (hG : GX G A s) (h : WX G A s H locs ws) (q0 qk : Nat) (he : ws[q0]? = some (a, .inl (gSh G, N, .inr (.inr (.inr (.inr f)))))) (hv : ws[qk]? = some (v, .inr (7, vs))) (hj : j < N) (hN : N < 1000) (hdg : decode cc pc = .ok (.aastore, 1)) (kk : ∀ (H1 : Heap) (locs1 : List Loc), WX G A s H1 locs1 (ws.set q0 (a, .inl (gSh G, N, .inr (.inr (.inr (.inr (va_up f j (some v)))))))) → W p l e R s m args below meth c H1 locs1 cells slots Q (F0 m (pc + 1) ls rest)) : W p l e R s m args below meth c H locs cells slots Q (F0 m pc ls (.ref v :: .int (nI j) :: .ref a :: rest)) :=
  va_astq (ci := 7) (r := (RX7, TX7, 3)) S0.1 S0.2.1 hG.2.2.1 h.1 h.2.1 h.2.2 q0 2 qk he rfl hv rfl (vp_in_nI hj (by omega)) hdg (fun H1 locs1 hP hD hS => kk H1 locs1 (by rw [cl_nI hj (by omega)] at hP hD; exact ⟨hP, hD, hS⟩))
end CTR
theorem WX.ext_q {G : GT} {A : Nat → Prop} {s : State} {H : Heap} {locs : List Loc} {ws : va_W} (h : WX G A s H locs ws) (k : Nat) {b : Nat} {cA : ClassId} {N : Nat} {f f2 : Nat → Option Nat} (he : ws[k]? = some (b, .inl (cA, N, .inr (.inr (.inr (.inr f)))))) (e : ∀ j, j < N → f j = f2 j) : WX G A s H locs (ws.set k (b, .inl (cA, N, .inr (.inr (.inr (.inr f2)))))) := by
  have hk : k < ws.length := (List.getElem?_eq_some_iff.mp he).1
  refine ⟨fun i q hq => ?_, va_D_adr ?_ h.2.1, h.2.2⟩
  · by_cases hi : k = i
    · subst hi
      rw [List.getElem?_set_self hk] at hq
      cases hq
      have h1 := h.1 k _ he
      have h2 : H[b]? = some (vp_cell cA (N, .inr (.inr (.inr (.inr f))))) := h1
      show H[b]? = some (vp_cell cA (N, .inr (.inr (.inr (.inr f2)))))
      rw [h2, vp_cell_q, vp_cell_q]
      congr 1
      exact arrV_ext (fun j hj => by rw [e j hj])
    · rw [List.getElem?_set_ne hi] at hq
      exact h.1 i q hq
  · apply List.ext_getElem?
    intro i
    rw [List.getElem?_map, List.getElem?_map]
    by_cases hi : k = i
    · subst hi; rw [List.getElem?_set_self hk, he]; rfl
    · rw [List.getElem?_set_ne hi]
/-- permuted -/
theorem WX.perm {G : GT} {A : Nat → Prop} {s : State} {H : Heap} {locs : List Loc} {ws ws' : va_W} (h : WX G A s H locs ws) (is : List Nat) (hn : va_nd is = true) (h1 : is.filterMap (fun i => ws[i]?) = ws') (h2 : is.map (fun i => ws[i]?) = ws'.map some) : WX G A s H locs ws' := ⟨h.1.sub is h1, h.2.1.sub is hn h2, h.2.2⟩
def f0 : Row := fun i => if i < 2 then 0 else if i < 8 then 5 * (i - 2) % 12 else if i < 11 then 10 * (i - 8 + 1) else 0
