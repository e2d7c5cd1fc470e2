variable {p : Program} {l : Launch} {e : Env} {s : State} {m : MethodId} {below : List Frame} {meth : Method} {c : Code} {H : Heap} {locs : List Loc} {Q : State → Prop} {ls : Array Slot} {b L i cl sl : Nat} {xs : Nat → Int32} {G : GT} {A : Nat → Prop} {o a : Nat → Nat} {f st tb : Row} {tn : Nat} {nu : Nat → Int64} {bi si : Row} {kp : Nat} {g g9 : Row} {D : DT} {oo d du : Row} {mo : Nat → Int64} {it fr to vl wr : Nat}
theorem kw_RL_113 : GoodIn wsL_law (wsV RL 113 RX10 yX10_sheet (WS yX10_sheet cX10_sheet 4 (some .int))) := gV (rin35 _ (List.mem_of_getElem? (i := 17) rfl)) (rin35 _ (List.mem_of_getElem? (i := 18) rfl)) (rin35 _ (List.mem_of_getElem? (i := 19) rfl)) (rin1 _ (List.mem_of_getElem? (i := 2) rfl)) (rin35 _ (List.mem_of_getElem? (i := 20) rfl))
theorem kw_RL_116 : GoodIn wsL_law (wsV RL 116 RX11 yX11_sheet (WS yX11_sheet cX11_sheet 5 (some .int))) := gV (rin36 _ (List.mem_of_getElem? (i := 8) rfl)) (rin36 _ (List.mem_of_getElem? (i := 9) rfl)) (rin36 _ (List.mem_of_getElem? (i := 10) rfl)) (rin1 _ (List.mem_of_getElem? (i := 5) rfl)) (rin36 _ (List.mem_of_getElem? (i := 11) rfl))
theorem kdV_X10_sheet : yX10_sheet.cls = RX10 ∧ yX10_sheet.cls ≠ "java/lang/invoke/MethodHandle" ∧ yX10_sheet.cls ≠ "java/lang/invoke/VarHandle" ∧ (parseMethodDescriptor yX10_sheet.desc).map (fun d => d.parameters.length) = some 3 := ⟨rfl, by decide +kernel, by decide +kernel, by decide +kernel⟩
theorem kdV_X11_sheet : yX11_sheet.cls = RX11 ∧ yX11_sheet.cls ≠ "java/lang/invoke/MethodHandle" ∧ yX11_sheet.cls ≠ "java/lang/invoke/VarHandle" ∧ (parseMethodDescriptor yX11_sheet.desc).map (fun d => d.parameters.length) = some 3 := ⟨rfl, by decide +kernel, by decide +kernel, by decide +kernel⟩
set_option maxHeartbeats 4000000 in
set_option maxRecDepth 100000 in
theorem lc_sheet (S0 : CF p m c cL_law 4 s #[Value.ref b] RL) (hG : GX G A s) (hA : ∀ q, s.heap.size ≤ q → A q) (hX : va_X b L xs s s.heap) (hbl : b < s.heap.size) (hbA : ¬ A b) (hL : L ≤ 3072) (hi : i + 6 ≤ L) (hcl : cl ≤ 600000) (hsl : sl ≤ 7302250) (KK : LK p l e s m below meth c Q G A o a b i cl sl) (hOk : Ok f tb tn bi si kp g) (hgg : kp ≠ 0 → g = g9) (h : WX G A s H locs (wC G o f st tb tn nu bi si kp g D ++ wM G a f g9 oo d st du tb bi si nu mo kp it tn fr to vl wr)) (hl : lv_has ls 4 [(0, .ref b), (1, .ref (o 0)), (2, .ref (a 0)), (3, .int (nI i))]) : W p l e room_1 s m #[Value.ref b] below meth c H locs cl sl Q (F0 m 910 ls []) := by
  have hx := S0.1
  have hb := S0.2.1
  refine lv_aload_n hx hb dL_law_910 rfl (lv_at hl 1 rfl) ?_
  refine lv_aload_n hx hb dL_law_911 rfl (lv_at hl 0 rfl) ?_
  refine lv_iload_n hx hb dL_law_912 rfl (lv_at hl 3 rfl) ?_
  refine lv_iconst (v := nI 1) hx hb dL_law_913 (by decide) ?_
  refine n_add hx hb dL_law_914 ?_
  refine va_sld hx hb hX hbl hbA h.2.2 (vp_in_nI (show _ < L by omega) (by omega)) dL_law_915 ?_
  refine lv_aload_n hx hb dL_law_916 rfl (lv_at hl 0 rfl) ?_
  refine lv_iload_n hx hb dL_law_917 rfl (lv_at hl 3 rfl) ?_
  refine lv_iconst (v := nI 2) hx hb dL_law_918 (by decide) ?_
  refine n_add hx hb dL_law_919 ?_
  refine va_sld hx hb hX hbl hbA h.2.2 (vp_in_nI (show _ < L by omega) (by omega)) dL_law_920 ?_
  refine lv_aload_n hx hb dL_law_921 rfl (lv_at hl 0 rfl) ?_
  refine lv_iload_n hx hb dL_law_922 rfl (lv_at hl 3 rfl) ?_
  refine lv_iconst (v := nI 3) hx hb dL_law_923 (by decide) ?_
  refine n_add hx hb dL_law_924 ?_
  refine va_sld hx hb hX hbl hbA h.2.2 (vp_in_nI (show _ < L by omega) (by omega)) dL_law_925 ?_
  refine cV_iC (w2 := fun u => wC G o f u.2.2.2 tb tn u.2.2.1 u.1 u.2.1 kp g D ++ wM G a f g9 oo d st du tb bi si nu mo kp it tn fr to vl wr) S0 hG hA h hl.1 kw_RL_113 kdV_X10_sheet (c_X10_sheet) ⟨rfl, rfl, by decide, by decide, hcl, hsl⟩ rfl 10 0 rfl rfl isL isL_nd isL_m isL_f rfl (Nat.le_of_ble_eq_true rfl) dL_law_926 (fun _ H1 hk hP1 => WX.back h isL isL_m hk hP1 (fitL wC_len wC_len isL_lt)) (fun _ => ap_l rfl) (fun r1 u1 H locs hq1 h => ?_)
  obtain ⟨b1, z1, n1, s1⟩ := u1
  have h : WX G A s H locs (wC G o f s1 tb tn n1 b1 z1 kp g D ++ wM G a f g9 oo d st du tb bi si nu mo kp it tn fr to vl wr) := h
  refine lv_aload_n hx hb dL_law_929 rfl (lv_at hl 2 rfl) ?_
  refine lv_aload_n hx hb dL_law_930 rfl (lv_at hl 0 rfl) ?_
  refine lv_iload_n hx hb dL_law_931 rfl (lv_at hl 3 rfl) ?_
  refine lv_iconst (v := nI 1) hx hb dL_law_932 (by decide) ?_
  refine n_add hx hb dL_law_933 ?_
  refine va_sld hx hb hX hbl hbA h.2.2 (vp_in_nI (show _ < L by omega) (by omega)) dL_law_934 ?_
  refine lv_aload_n hx hb dL_law_935 rfl (lv_at hl 0 rfl) ?_
  refine lv_iload_n hx hb dL_law_936 rfl (lv_at hl 3 rfl) ?_
  refine lv_iconst (v := nI 2) hx hb dL_law_937 (by decide) ?_
  refine n_add hx hb dL_law_938 ?_
  refine va_sld hx hb hX hbl hbA h.2.2 (vp_in_nI (show _ < L by omega) (by omega)) dL_law_939 ?_
  refine lv_aload_n hx hb dL_law_940 rfl (lv_at hl 0 rfl) ?_
  refine lv_iload_n hx hb dL_law_941 rfl (lv_at hl 3 rfl) ?_
  refine lv_iconst (v := nI 3) hx hb dL_law_942 (by decide) ?_
  refine n_add hx hb dL_law_943 ?_
  refine va_sld hx hb hX hbl hbA h.2.2 (vp_in_nI (show _ < L by omega) (by omega)) dL_law_944 ?_
  refine cV_iC (w2 := fun u => wC G o f s1 tb tn n1 b1 z1 kp g D ++ wM G a f g9 oo d u.2.2.2 du tb u.1 u.2.1 u.2.2.1 mo kp it tn fr to vl wr) S0 hG hA h hl.1 kw_RL_116 kdV_X11_sheet (c_X11_sheet) ⟨rfl, rfl, by decide, by decide, hcl, hsl⟩ rfl 11 47 rfl rfl isM isM_nd (isM_m wC_len) (isM_f wC_len) rfl (Nat.le_of_ble_eq_true rfl) dL_law_945 (fun _ H1 hk hP1 => WX.back h isM (isM_m wC_len) hk hP1 (fitR wC_len isM_ge)) (fun _ => ap_r rfl) (fun r2 u2 H locs hq2 h => ?_)
  obtain ⟨b2, z2, n2, s2⟩ := u2
  have h : WX G A s H locs (wC G o f s1 tb tn n1 b1 z1 kp g D ++ wM G a f g9 oo d s2 du tb b2 z2 n2 mo kp it tn fr to vl wr) := h
  have e9 : r1 = r2 ∧ b1 = b2 ∧ z1 = z2 ∧ n1 = n2 ∧ s1 = s2 := dt_sheet hq1 hq2
  obtain ⟨rfl, rfl, rfl, rfl, rfl⟩ := e9
  refine lv_icmp_eq hx hb (tgt := 1264) dL_law_948 (by decide) (fun _ => ?_) (fun c9 => absurd rfl c9)
  exact KK f s1 tb tn n1 b1 z1 kp g g9 D oo d du mo it fr to vl wr _ _ _ ⟨hOk.1, hOk.2.1, iv_sheet hOk.2.2.1 hq1, hOk.2.2.2⟩ hgg h hl
