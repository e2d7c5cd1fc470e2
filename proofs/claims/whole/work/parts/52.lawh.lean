variable {p : Program} {l : Launch} {e : Env} {s : State} {m : MethodId} {below : List Frame} {meth : Method} {c : Code} {H : Heap} {locs : List Loc} {Q : State → Prop} {ls : Array Slot} {b L i cl sl : Nat} {xs : Nat → Int32} {G : GT} {A : Nat → Prop} {o a : Nat → Nat} {f st tb : Row} {tn : Nat} {nu : Nat → Int64} {bi si : Row} {kp : Nat} {g g9 : Row} {D : DT} {oo d du : Row} {mo : Nat → Int64} {it fr to vl wr : Nat}
theorem kw_RL_119 : GoodIn wsL_law (wsV RL 119 RX10 yX10_write (WS yX10_write cX10_write 8 (some .long))) := gV (rin36 _ (List.mem_of_getElem? (i := 17) rfl)) (rin36 _ (List.mem_of_getElem? (i := 18) rfl)) (rin36 _ (List.mem_of_getElem? (i := 19) rfl)) (rin1 _ (List.mem_of_getElem? (i := 2) rfl)) (rin36 _ (List.mem_of_getElem? (i := 20) rfl))
theorem kw_RL_123 : GoodIn wsL_law (wsV RL 123 RX11 yX11_write (WS yX11_write cX11_write 8 (some .long))) := gV (rin37 _ (List.mem_of_getElem? (i := 8) rfl)) (rin37 _ (List.mem_of_getElem? (i := 9) rfl)) (rin37 _ (List.mem_of_getElem? (i := 10) rfl)) (rin1 _ (List.mem_of_getElem? (i := 5) rfl)) (rin37 _ (List.mem_of_getElem? (i := 11) rfl))
theorem kdV_X10_write : yX10_write.cls = RX10 ∧ yX10_write.cls ≠ "java/lang/invoke/MethodHandle" ∧ yX10_write.cls ≠ "java/lang/invoke/VarHandle" ∧ (parseMethodDescriptor yX10_write.desc).map (fun d => d.parameters.length) = some 3 := ⟨rfl, by decide +kernel, by decide +kernel, by decide +kernel⟩
theorem kdV_X11_write : yX11_write.cls = RX11 ∧ yX11_write.cls ≠ "java/lang/invoke/MethodHandle" ∧ yX11_write.cls ≠ "java/lang/invoke/VarHandle" ∧ (parseMethodDescriptor yX11_write.desc).map (fun d => d.parameters.length) = some 3 := ⟨rfl, by decide +kernel, by decide +kernel, by decide +kernel⟩
set_option maxHeartbeats 4000000 in
set_option maxRecDepth 100000 in
theorem lc_write (S0 : CF p m c cL_law 4 s #[Value.ref b] RL) (hG : GX G A s) (hA : ∀ q, s.heap.size ≤ q → A q) (hX : va_X b L xs s s.heap) (hbl : b < s.heap.size) (hbA : ¬ A b) (hL : L ≤ 3072) (hi : i + 6 ≤ L) (hcl : cl ≤ 600000) (hsl : sl ≤ 7302250) (KK : LK p l e s m below meth c Q G A o a b i cl sl) (hOk : Ok f tb tn bi si kp g) (hgg : kp ≠ 0 → g = g9) (h : WX G A s H locs (wC G o f st tb tn nu bi si kp g D ++ wM G a f g9 oo d st du tb bi si nu mo kp it tn fr to vl wr)) (hl : lv_has ls 4 [(0, .ref b), (1, .ref (o 0)), (2, .ref (a 0)), (3, .int (nI i))]) : W p l e room_1 s m #[Value.ref b] below meth c H locs cl sl Q (F0 m 953 ls []) := by
  have hx := S0.1
  have hb := S0.2.1
  refine lv_aload_n hx hb dL_law_953 rfl (lv_at hl 1 rfl) ?_
  refine lv_aload_n hx hb dL_law_954 rfl (lv_at hl 0 rfl) ?_
  refine lv_iload_n hx hb dL_law_955 rfl (lv_at hl 3 rfl) ?_
  refine lv_iconst (v := nI 1) hx hb dL_law_956 (by decide) ?_
  refine n_add hx hb dL_law_957 ?_
  refine va_sld hx hb hX hbl hbA h.2.2 (vp_in_nI (show _ < L by omega) (by omega)) dL_law_958 ?_
  refine lv_aload_n hx hb dL_law_959 rfl (lv_at hl 0 rfl) ?_
  refine lv_iload_n hx hb dL_law_960 rfl (lv_at hl 3 rfl) ?_
  refine lv_iconst (v := nI 2) hx hb dL_law_961 (by decide) ?_
  refine n_add hx hb dL_law_962 ?_
  refine va_sld hx hb hX hbl hbA h.2.2 (vp_in_nI (show _ < L by omega) (by omega)) dL_law_963 ?_
  refine lv_aload_n hx hb dL_law_964 rfl (lv_at hl 0 rfl) ?_
  refine lv_iload_n hx hb dL_law_965 rfl (lv_at hl 3 rfl) ?_
  refine lv_iconst (v := nI 3) hx hb dL_law_966 (by decide) ?_
  refine n_add hx hb dL_law_967 ?_
  refine va_sld hx hb hX hbl hbA h.2.2 (vp_in_nI (show _ < L by omega) (by omega)) dL_law_968 ?_
  refine lv_i2l hx hb dL_law_969 rfl ?_
  refine lv_bipush (v := nI 32) hx hb dL_law_970 (by decide) ?_
  refine lv_lshl hx hb dL_law_972 rfl ?_
  refine lv_aload_n hx hb dL_law_973 rfl (lv_at hl 0 rfl) ?_
  refine lv_iload_n hx hb dL_law_974 rfl (lv_at hl 3 rfl) ?_
  refine lv_iconst (v := nI 4) hx hb dL_law_975 (by decide) ?_
  refine n_add hx hb dL_law_976 ?_
  refine va_sld hx hb hX hbl hbA h.2.2 (vp_in_nI (show _ < L by omega) (by omega)) dL_law_977 ?_
  refine lv_i2l hx hb dL_law_978 rfl ?_
  refine lv_ldc2 (v := 4294967295) hx hb S0.2.2.2.1 (S0.2.2.2.2 _ (rin1 _ (List.mem_of_getElem? (i := 6) rfl))) dL_law_979 ?_
  refine lv_land hx hb dL_law_982 ?_
  refine lv_lor hx hb dL_law_983 ?_
  refine cV_lC (w2 := fun u => wC G o f u.2 tb tn u.1 bi si kp g D ++ wM G a f g9 oo d st du tb bi si nu mo kp it tn fr to vl wr) S0 hG hA h hl.1 kw_RL_119 kdV_X10_write (c_X10_write hOk.2.2.1) ⟨rfl, rfl, by decide, by decide, hcl, hsl⟩ rfl 10 0 rfl rfl isL isL_nd isL_m isL_f rfl (Nat.le_of_ble_eq_true rfl) dL_law_984 (fun _ H1 hk hP1 => WX.back h isL isL_m hk hP1 (fitL wC_len wC_len isL_lt)) (fun _ => ap_l rfl) (fun r1 u1 H locs hq1 h => ?_)
  obtain ⟨n1, s1⟩ := u1
  have h : WX G A s H locs (wC G o f s1 tb tn n1 bi si kp g D ++ wM G a f g9 oo d st du tb bi si nu mo kp it tn fr to vl wr) := h
  refine lv_aload_n hx hb dL_law_987 rfl (lv_at hl 2 rfl) ?_
  refine lv_aload_n hx hb dL_law_988 rfl (lv_at hl 0 rfl) ?_
  refine lv_iload_n hx hb dL_law_989 rfl (lv_at hl 3 rfl) ?_
  refine lv_iconst (v := nI 1) hx hb dL_law_990 (by decide) ?_
  refine n_add hx hb dL_law_991 ?_
  refine va_sld hx hb hX hbl hbA h.2.2 (vp_in_nI (show _ < L by omega) (by omega)) dL_law_992 ?_
  refine lv_aload_n hx hb dL_law_993 rfl (lv_at hl 0 rfl) ?_
  refine lv_iload_n hx hb dL_law_994 rfl (lv_at hl 3 rfl) ?_
  refine lv_iconst (v := nI 2) hx hb dL_law_995 (by decide) ?_
  refine n_add hx hb dL_law_996 ?_
  refine va_sld hx hb hX hbl hbA h.2.2 (vp_in_nI (show _ < L by omega) (by omega)) dL_law_997 ?_
  refine lv_aload_n hx hb dL_law_998 rfl (lv_at hl 0 rfl) ?_
  refine lv_iload_n hx hb dL_law_999 rfl (lv_at hl 3 rfl) ?_
  refine lv_iconst (v := nI 3) hx hb dL_law_1000 (by decide) ?_
  refine n_add hx hb dL_law_1001 ?_
  refine va_sld hx hb hX hbl hbA h.2.2 (vp_in_nI (show _ < L by omega) (by omega)) dL_law_1002 ?_
  refine lv_i2l hx hb dL_law_1003 rfl ?_
  refine lv_bipush (v := nI 32) hx hb dL_law_1004 (by decide) ?_
  refine lv_lshl hx hb dL_law_1006 rfl ?_
  refine lv_aload_n hx hb dL_law_1007 rfl (lv_at hl 0 rfl) ?_
  refine lv_iload_n hx hb dL_law_1008 rfl (lv_at hl 3 rfl) ?_
  refine lv_iconst (v := nI 4) hx hb dL_law_1009 (by decide) ?_
  refine n_add hx hb dL_law_1010 ?_
  refine va_sld hx hb hX hbl hbA h.2.2 (vp_in_nI (show _ < L by omega) (by omega)) dL_law_1011 ?_
  refine lv_i2l hx hb dL_law_1012 rfl ?_
  refine lv_ldc2 (v := 4294967295) hx hb S0.2.2.2.1 (S0.2.2.2.2 _ (rin1 _ (List.mem_of_getElem? (i := 6) rfl))) dL_law_1013 ?_
  refine lv_land hx hb dL_law_1016 ?_
  refine lv_lor hx hb dL_law_1017 ?_
  refine cV_lC (w2 := fun u => wC G o f s1 tb tn n1 bi si kp g D ++ wM G a f g9 oo d u.2 du tb bi si u.1 mo kp it tn fr to vl wr) S0 hG hA h hl.1 kw_RL_123 kdV_X11_write (c_X11_write hOk.2.2.1) ⟨rfl, rfl, by decide, by decide, hcl, hsl⟩ rfl 11 47 rfl rfl isM isM_nd (isM_m wC_len) (isM_f wC_len) rfl (Nat.le_of_ble_eq_true rfl) dL_law_1018 (fun _ H1 hk hP1 => WX.back h isM (isM_m wC_len) hk hP1 (fitR wC_len isM_ge)) (fun _ => ap_r rfl) (fun r2 u2 H locs hq2 h => ?_)
  obtain ⟨n2, s2⟩ := u2
  have h : WX G A s H locs (wC G o f s1 tb tn n1 bi si kp g D ++ wM G a f g9 oo d s2 du tb bi si n2 mo kp it tn fr to vl wr) := h
  have e9 : r1 = r2 ∧ n1 = n2 ∧ s1 = s2 := dt_write hq1 hq2
  obtain ⟨rfl, rfl, rfl⟩ := e9
  refine W.lcmp hx hb dL_law_1021 ?_
  refine lv_if_eq hx hb (tgt := 1264) dL_law_1022 (by decide) (fun _ => ?_) (fun c9 => absurd ((lg_cmp_eq _ _).mpr rfl) c9)
  exact KK f s1 tb tn n1 bi si kp g g9 D oo d du mo it fr to vl wr _ _ _ hOk hgg h hl
