variable {p : Program} {l : Launch} {e : Env} {s : State} {m : MethodId} {below : List Frame} {meth : Method} {c : Code} {H : Heap} {locs : List Loc} {Q : State → Prop} {ls : Array Slot} {b L i cl sl : Nat} {xs : Nat → Int32} {G : GT} {A : Nat → Prop} {o a : Nat → Nat} {f st tb : Row} {tn : Nat} {nu : Nat → Int64} {bi si : Row} {kp : Nat} {g g9 : Row} {D : DT} {oo d du : Row} {mo : Nat → Int64} {it fr to vl wr : Nat}
theorem kw_RL_124 : GoodIn wsL_law (wsV RL 124 RX10 yX10_copy (WS yX10_copy cX10_copy 6 (some .int))) := gV (rin37 _ (List.mem_of_getElem? (i := 20) rfl)) (rin37 _ (List.mem_of_getElem? (i := 21) rfl)) (rin37 _ (List.mem_of_getElem? (i := 22) rfl)) (rin1 _ (List.mem_of_getElem? (i := 2) rfl)) (rin37 _ (List.mem_of_getElem? (i := 23) rfl))
theorem kw_RL_128 : GoodIn wsL_law (wsV RL 128 RX11 yX11_copy (WS yX11_copy cX11_copy 7 (some .int))) := gV (rin38 _ (List.mem_of_getElem? (i := 4) rfl)) (rin38 _ (List.mem_of_getElem? (i := 5) rfl)) (rin38 _ (List.mem_of_getElem? (i := 6) rfl)) (rin1 _ (List.mem_of_getElem? (i := 5) rfl)) (rin38 _ (List.mem_of_getElem? (i := 7) rfl))
theorem kdV_X10_copy : yX10_copy.cls = RX10 ∧ yX10_copy.cls ≠ "java/lang/invoke/MethodHandle" ∧ yX10_copy.cls ≠ "java/lang/invoke/VarHandle" ∧ (parseMethodDescriptor yX10_copy.desc).map (fun d => d.parameters.length) = some 5 := ⟨rfl, by decide +kernel, by decide +kernel, by decide +kernel⟩
theorem kdV_X11_copy : yX11_copy.cls = RX11 ∧ yX11_copy.cls ≠ "java/lang/invoke/MethodHandle" ∧ yX11_copy.cls ≠ "java/lang/invoke/VarHandle" ∧ (parseMethodDescriptor yX11_copy.desc).map (fun d => d.parameters.length) = some 5 := ⟨rfl, by decide +kernel, by decide +kernel, by decide +kernel⟩
set_option maxHeartbeats 4000000 in
set_option maxRecDepth 100000 in
theorem lc_copy (S0 : CF p m c cL_law 4 s #[Value.ref b] RL) (hG : GX G A s) (hA : ∀ q, s.heap.size ≤ q → A q) (hX : va_X b L xs s s.heap) (hbl : b < s.heap.size) (hbA : ¬ A b) (hL : L ≤ 3072) (hi : i + 6 ≤ L) (hcl : cl ≤ 600000) (hsl : sl ≤ 7302250) (KK : LK p l e s m below meth c Q G A o a b i cl sl) (hOk : Ok f tb tn bi si kp g) (hgg : kp ≠ 0 → g = g9) (h : WX G A s H locs (wC G o f st tb tn nu bi si kp g D ++ wM G a f g9 oo d st du tb bi si nu mo kp it tn fr to vl wr)) (hl : lv_has ls 4 [(0, .ref b), (1, .ref (o 0)), (2, .ref (a 0)), (3, .int (nI i))]) : W p l e room_1 s m #[Value.ref b] below meth c H locs cl sl Q (F0 m 1027 ls []) := by
  have hx := S0.1
  have hb := S0.2.1
  refine lv_aload_n hx hb dL_law_1027 rfl (lv_at hl 1 rfl) ?_
  refine lv_aload_n hx hb dL_law_1028 rfl (lv_at hl 0 rfl) ?_
  refine lv_iload_n hx hb dL_law_1029 rfl (lv_at hl 3 rfl) ?_
  refine lv_iconst (v := nI 1) hx hb dL_law_1030 (by decide) ?_
  refine n_add hx hb dL_law_1031 ?_
  refine va_sld hx hb hX hbl hbA h.2.2 (vp_in_nI (show _ < L by omega) (by omega)) dL_law_1032 ?_
  refine lv_aload_n hx hb dL_law_1033 rfl (lv_at hl 0 rfl) ?_
  refine lv_iload_n hx hb dL_law_1034 rfl (lv_at hl 3 rfl) ?_
  refine lv_iconst (v := nI 2) hx hb dL_law_1035 (by decide) ?_
  refine n_add hx hb dL_law_1036 ?_
  refine va_sld hx hb hX hbl hbA h.2.2 (vp_in_nI (show _ < L by omega) (by omega)) dL_law_1037 ?_
  refine lv_aload_n hx hb dL_law_1038 rfl (lv_at hl 0 rfl) ?_
  refine lv_iload_n hx hb dL_law_1039 rfl (lv_at hl 3 rfl) ?_
  refine lv_iconst (v := nI 3) hx hb dL_law_1040 (by decide) ?_
  refine n_add hx hb dL_law_1041 ?_
  refine va_sld hx hb hX hbl hbA h.2.2 (vp_in_nI (show _ < L by omega) (by omega)) dL_law_1042 ?_
  refine lv_aload_n hx hb dL_law_1043 rfl (lv_at hl 0 rfl) ?_
  refine lv_iload_n hx hb dL_law_1044 rfl (lv_at hl 3 rfl) ?_
  refine lv_iconst (v := nI 4) hx hb dL_law_1045 (by decide) ?_
  refine n_add hx hb dL_law_1046 ?_
  refine va_sld hx hb hX hbl hbA h.2.2 (vp_in_nI (show _ < L by omega) (by omega)) dL_law_1047 ?_
  refine lv_aload_n hx hb dL_law_1048 rfl (lv_at hl 0 rfl) ?_
  refine lv_iload_n hx hb dL_law_1049 rfl (lv_at hl 3 rfl) ?_
  refine lv_iconst (v := nI 5) hx hb dL_law_1050 (by decide) ?_
  refine n_add hx hb dL_law_1051 ?_
  refine va_sld hx hb hX hbl hbA h.2.2 (vp_in_nI (show _ < L by omega) (by omega)) dL_law_1052 ?_
  refine cV_iC (w2 := fun u => wC G o f u.2 tb tn u.1 bi si kp g D ++ wM G a f g9 oo d st du tb bi si nu mo kp it tn fr to vl wr) S0 hG hA h hl.1 kw_RL_124 kdV_X10_copy (c_X10_copy hOk.2.2.1) ⟨rfl, rfl, by decide, by decide, hcl, hsl⟩ rfl 10 0 rfl rfl isL isL_nd isL_m isL_f rfl (Nat.le_of_ble_eq_true rfl) dL_law_1053 (fun _ H1 hk hP1 => WX.back h isL isL_m hk hP1 (fitL wC_len wC_len isL_lt)) (fun _ => ap_l rfl) (fun r1 u1 H locs hq1 h => ?_)
  obtain ⟨n1, s1⟩ := u1
  have h : WX G A s H locs (wC G o f s1 tb tn n1 bi si kp g D ++ wM G a f g9 oo d st du tb bi si nu mo kp it tn fr to vl wr) := h
  refine lv_aload_n hx hb dL_law_1056 rfl (lv_at hl 2 rfl) ?_
  refine lv_aload_n hx hb dL_law_1057 rfl (lv_at hl 0 rfl) ?_
  refine lv_iload_n hx hb dL_law_1058 rfl (lv_at hl 3 rfl) ?_
  refine lv_iconst (v := nI 1) hx hb dL_law_1059 (by decide) ?_
  refine n_add hx hb dL_law_1060 ?_
  refine va_sld hx hb hX hbl hbA h.2.2 (vp_in_nI (show _ < L by omega) (by omega)) dL_law_1061 ?_
  refine lv_aload_n hx hb dL_law_1062 rfl (lv_at hl 0 rfl) ?_
  refine lv_iload_n hx hb dL_law_1063 rfl (lv_at hl 3 rfl) ?_
  refine lv_iconst (v := nI 2) hx hb dL_law_1064 (by decide) ?_
  refine n_add hx hb dL_law_1065 ?_
  refine va_sld hx hb hX hbl hbA h.2.2 (vp_in_nI (show _ < L by omega) (by omega)) dL_law_1066 ?_
  refine lv_aload_n hx hb dL_law_1067 rfl (lv_at hl 0 rfl) ?_
  refine lv_iload_n hx hb dL_law_1068 rfl (lv_at hl 3 rfl) ?_
  refine lv_iconst (v := nI 3) hx hb dL_law_1069 (by decide) ?_
  refine n_add hx hb dL_law_1070 ?_
  refine va_sld hx hb hX hbl hbA h.2.2 (vp_in_nI (show _ < L by omega) (by omega)) dL_law_1071 ?_
  refine lv_aload_n hx hb dL_law_1072 rfl (lv_at hl 0 rfl) ?_
  refine lv_iload_n hx hb dL_law_1073 rfl (lv_at hl 3 rfl) ?_
  refine lv_iconst (v := nI 4) hx hb dL_law_1074 (by decide) ?_
  refine n_add hx hb dL_law_1075 ?_
  refine va_sld hx hb hX hbl hbA h.2.2 (vp_in_nI (show _ < L by omega) (by omega)) dL_law_1076 ?_
  refine lv_aload_n hx hb dL_law_1077 rfl (lv_at hl 0 rfl) ?_
  refine lv_iload_n hx hb dL_law_1078 rfl (lv_at hl 3 rfl) ?_
  refine lv_iconst (v := nI 5) hx hb dL_law_1079 (by decide) ?_
  refine n_add hx hb dL_law_1080 ?_
  refine va_sld hx hb hX hbl hbA h.2.2 (vp_in_nI (show _ < L by omega) (by omega)) dL_law_1081 ?_
  refine cV_iC (w2 := fun u => wC G o f s1 tb tn n1 bi si kp g D ++ wM G a f g9 oo d u.2.1 du tb bi si u.1 u.2.2 kp it tn fr to vl wr) S0 hG hA h hl.1 kw_RL_128 kdV_X11_copy (c_X11_copy hOk.2.2.1) ⟨rfl, rfl, by decide, by decide, hcl, hsl⟩ rfl 11 47 rfl rfl isM isM_nd (isM_m wC_len) (isM_f wC_len) rfl (Nat.le_of_ble_eq_true rfl) dL_law_1082 (fun _ H1 hk hP1 => WX.back h isM (isM_m wC_len) hk hP1 (fitR wC_len isM_ge)) (fun _ => ap_r rfl) (fun r2 u2 H locs hq2 h => ?_)
  obtain ⟨n2, s2, mo2⟩ := u2
  have h : WX G A s H locs (wC G o f s1 tb tn n1 bi si kp g D ++ wM G a f g9 oo d s2 du tb bi si n2 mo2 kp it tn fr to vl wr) := h
  have e9 : r1 = r2 ∧ n1 = n2 ∧ s1 = s2 := dt_copy hq1 hq2
  obtain ⟨rfl, rfl, rfl⟩ := e9
  refine lv_icmp_eq hx hb (tgt := 1264) dL_law_1085 (by decide) (fun _ => ?_) (fun c9 => absurd rfl c9)
  exact KK f s1 tb tn n1 bi si kp g g9 D oo d du mo2 it fr to vl wr _ _ _ hOk hgg h hl
