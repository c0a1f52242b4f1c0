/-! ===== what the class refuses on an object without a game ===== -/
set_option maxRecDepth 100000 in
theorem r_X8_needGame {G : xx_G} {l : Launch} {A : xx_H} {b k0 : Nat} {u1 u2 u3 u4 u5 u6 u7 u8 u9 u10 u11 u12 u13 u14 u15 u16 u17 : Value} {f : Nat → Int32} (hb : A.2 b = xx_o 8 [.ref k0, u1, u2, u3, u4, u5, u6, u7, u8, u9, u10, u11, u12, u13, u14, u15, u16, u17]) (hk : A.2 k0 = xx_i 2 f) (h0 : f 0 = 0) : xx_X G l mX8_needGame 6 1 6 0 (lv_args 0 [.ref b]) [] A (xx_th R_ise A) := by
  refine xx_clv (lv2 := [(0, .ref b)]) rfl ?_
  refine xx_aload_n dX8_needGame_0 rfl ?_
  refine xx_get xx_c8 dX8_needGame_1 wf_X8_7 (j := 0) (by decide) hb rfl ?_
  refine xx_iconst (v := 0) dX8_needGame_4 (by decide) ?_
  refine xx_iald dX8_needGame_5 hk (by unfold vp_in; decide) ?_
  refine xx_eqi (y := 0) h0 ?_
  refine xx_if_ne (tgt := 20) dX8_needGame_6 (by decide) (fun h => absurd rfl h) (fun j6 => ?_)
  exact xx_throwSW xx_thw_ise (List.mem_of_getElem? (i := 1) rfl) rfl dX8_needGame_9 dX8_needGame_12 dX8_needGame_13 dX8_needGame_16 dX8_needGame_19 (by decide) (by decide) (fun n hn => ⟨rfl, hn, rfl⟩)
set_option maxRecDepth 100000 in
theorem r_X8_pay {G : xx_G} {l : Launch} {A : xx_H} {b k0 : Nat} {u1 u2 u3 u4 u5 u6 u7 u8 u9 u10 u11 u12 u13 u14 u15 u16 u17 : Value} {f : Nat → Int32} {p0 p1 p2 p3 p4 : Int32} (hb : A.2 b = xx_o 8 [.ref k0, u1, u2, u3, u4, u5, u6, u7, u8, u9, u10, u11, u12, u13, u14, u15, u16, u17]) (hk : A.2 k0 = xx_i 2 f) (h0 : f 0 = 0) : xx_X G l mX8_pay 7 1 6 0 (lv_args 0 [.ref b, .int p0, .int p1, .int p2, .int p3, .int p4]) [] A (xx_th R_ise A) := by
  refine xx_clv (lv2 := [(0, .ref b), (1, .int p0), (2, .int p1), (3, .int p2), (4, .int p3), (5, .int p4)]) rfl ?_
  refine xx_aload_n dX8_pay_0 rfl ?_
  refine xx_callV (N := mX8_needGame) (vs := []) (b := b) (rest := []) (d2 := 6) (c2 := 1) (s2 := 6) (c3 := 0) (s3 := 0) dX8_pay_1 wm_X8_118 wi_X8_needGame wv_X8_needGame (k := 8) rfl (by decide) hb nX8_needGame ⟨pX8_needGame, Nat.le_of_ble_eq_true rfl, by decide, Nat.le_of_ble_eq_true rfl, by decide, by decide⟩ (r_X8_needGame hb hk h0) (fun v A1 hC => absurd hC.1 (by simp)) (fun E A1 hC => ?_)
  obtain ⟨hv, y1, y2⟩ := hC
  cases hv
  exact xx_out rfl ⟨rfl, y1, y2⟩
set_option maxRecDepth 100000 in
theorem r_X8_run {G : xx_G} {l : Launch} {A : xx_H} {b k0 : Nat} {u1 u2 u3 u4 u5 u6 u7 u8 u9 u10 u11 u12 u13 u14 u15 u16 u17 : Value} {f : Nat → Int32} {p0 : Int32} (hb : A.2 b = xx_o 8 [.ref k0, u1, u2, u3, u4, u5, u6, u7, u8, u9, u10, u11, u12, u13, u14, u15, u16, u17]) (hk : A.2 k0 = xx_i 2 f) (h0 : f 0 = 0) : xx_X G l mX8_run 7 1 6 0 (lv_args 0 [.ref b, .int p0]) [] A (xx_th R_ise A) := by
  refine xx_clv (lv2 := [(0, .ref b), (1, .int p0)]) rfl ?_
  refine xx_aload_n dX8_run_0 rfl ?_
  refine xx_callV (N := mX8_needGame) (vs := []) (b := b) (rest := []) (d2 := 6) (c2 := 1) (s2 := 6) (c3 := 0) (s3 := 0) dX8_run_1 wm_X8_118 wi_X8_needGame wv_X8_needGame (k := 8) rfl (by decide) hb nX8_needGame ⟨pX8_needGame, Nat.le_of_ble_eq_true rfl, by decide, Nat.le_of_ble_eq_true rfl, by decide, by decide⟩ (r_X8_needGame hb hk h0) (fun v A1 hC => absurd hC.1 (by simp)) (fun E A1 hC => ?_)
  obtain ⟨hv, y1, y2⟩ := hC
  cases hv
  exact xx_out rfl ⟨rfl, y1, y2⟩
set_option maxRecDepth 100000 in
theorem r_X8_weight {G : xx_G} {l : Launch} {A : xx_H} {b k0 : Nat} {u1 u2 u3 u4 u5 u6 u7 u8 u9 u10 u11 u12 u13 u14 u15 u16 u17 : Value} {f : Nat → Int32} {p0 p1 p2 p3 : Int32} (hb : A.2 b = xx_o 8 [.ref k0, u1, u2, u3, u4, u5, u6, u7, u8, u9, u10, u11, u12, u13, u14, u15, u16, u17]) (hk : A.2 k0 = xx_i 2 f) (h0 : f 0 = 0) : xx_X G l mX8_weight 7 1 6 0 (lv_args 0 [.ref b, .int p0, .int p1, .int p2, .int p3]) [] A (xx_th R_ise A) := by
  refine xx_clv (lv2 := [(0, .ref b), (1, .int p0), (2, .int p1), (3, .int p2), (4, .int p3)]) rfl ?_
  refine xx_aload_n dX8_weight_0 rfl ?_
  refine xx_callV (N := mX8_needGame) (vs := []) (b := b) (rest := []) (d2 := 6) (c2 := 1) (s2 := 6) (c3 := 0) (s3 := 0) dX8_weight_1 wm_X8_118 wi_X8_needGame wv_X8_needGame (k := 8) rfl (by decide) hb nX8_needGame ⟨pX8_needGame, Nat.le_of_ble_eq_true rfl, by decide, Nat.le_of_ble_eq_true rfl, by decide, by decide⟩ (r_X8_needGame hb hk h0) (fun v A1 hC => absurd hC.1 (by simp)) (fun E A1 hC => ?_)
  obtain ⟨hv, y1, y2⟩ := hC
  cases hv
  exact xx_out rfl ⟨rfl, y1, y2⟩
set_option maxRecDepth 100000 in
theorem r_X8_list {G : xx_G} {l : Launch} {A : xx_H} {b k0 : Nat} {u1 u2 u3 u4 u5 u6 u7 u8 u9 u10 u11 u12 u13 u14 u15 u16 u17 : Value} {f : Nat → Int32} (hb : A.2 b = xx_o 8 [.ref k0, u1, u2, u3, u4, u5, u6, u7, u8, u9, u10, u11, u12, u13, u14, u15, u16, u17]) (hk : A.2 k0 = xx_i 2 f) (h0 : f 0 = 0) : xx_X G l mX8_list 7 1 6 0 (lv_args 0 [.ref b]) [] A (xx_th R_ise A) := by
  refine xx_clv (lv2 := [(0, .ref b)]) rfl ?_
  refine xx_aload_n dX8_list_0 rfl ?_
  refine xx_callV (N := mX8_needGame) (vs := []) (b := b) (rest := []) (d2 := 6) (c2 := 1) (s2 := 6) (c3 := 0) (s3 := 0) dX8_list_1 wm_X8_118 wi_X8_needGame wv_X8_needGame (k := 8) rfl (by decide) hb nX8_needGame ⟨pX8_needGame, Nat.le_of_ble_eq_true rfl, by decide, Nat.le_of_ble_eq_true rfl, by decide, by decide⟩ (r_X8_needGame hb hk h0) (fun v A1 hC => absurd hC.1 (by simp)) (fun E A1 hC => ?_)
  obtain ⟨hv, y1, y2⟩ := hC
  cases hv
  exact xx_out rfl ⟨rfl, y1, y2⟩
set_option maxRecDepth 100000 in
theorem r_X8_round {G : xx_G} {l : Launch} {A : xx_H} {b k0 : Nat} {u1 u2 u3 u4 u5 u6 u7 u8 u9 u10 u11 u12 u13 u14 u15 u16 u17 : Value} {f : Nat → Int32} (hb : A.2 b = xx_o 8 [.ref k0, u1, u2, u3, u4, u5, u6, u7, u8, u9, u10, u11, u12, u13, u14, u15, u16, u17]) (hk : A.2 k0 = xx_i 2 f) (h0 : f 0 = 0) : xx_X G l mX8_round 7 1 6 0 (lv_args 0 [.ref b]) [] A (xx_th R_ise A) := by
  refine xx_clv (lv2 := [(0, .ref b)]) rfl ?_
  refine xx_aload_n dX8_round_0 rfl ?_
  refine xx_callV (N := mX8_needGame) (vs := []) (b := b) (rest := []) (d2 := 6) (c2 := 1) (s2 := 6) (c3 := 0) (s3 := 0) dX8_round_1 wm_X8_118 wi_X8_needGame wv_X8_needGame (k := 8) rfl (by decide) hb nX8_needGame ⟨pX8_needGame, Nat.le_of_ble_eq_true rfl, by decide, Nat.le_of_ble_eq_true rfl, by decide, by decide⟩ (r_X8_needGame hb hk h0) (fun v A1 hC => absurd hC.1 (by simp)) (fun E A1 hC => ?_)
  obtain ⟨hv, y1, y2⟩ := hC
  cases hv
  exact xx_out rfl ⟨rfl, y1, y2⟩
set_option maxRecDepth 100000 in
theorem r_X8_isThere {G : xx_G} {l : Launch} {A : xx_H} {b k0 : Nat} {u1 u2 u3 u4 u5 u6 u7 u8 u9 u10 u11 u12 u13 u14 u15 u16 u17 : Value} {f : Nat → Int32} {p0 p1 : Int32} (hb : A.2 b = xx_o 8 [.ref k0, u1, u2, u3, u4, u5, u6, u7, u8, u9, u10, u11, u12, u13, u14, u15, u16, u17]) (hk : A.2 k0 = xx_i 2 f) (h0 : f 0 = 0) : xx_X G l mX8_isThere 7 1 6 0 (lv_args 0 [.ref b, .int p0, .int p1]) [] A (xx_th R_ise A) := by
  refine xx_clv (lv2 := [(0, .ref b), (1, .int p0), (2, .int p1)]) rfl ?_
  refine xx_aload_n dX8_isThere_0 rfl ?_
  refine xx_callV (N := mX8_needGame) (vs := []) (b := b) (rest := []) (d2 := 6) (c2 := 1) (s2 := 6) (c3 := 0) (s3 := 0) dX8_isThere_1 wm_X8_118 wi_X8_needGame wv_X8_needGame (k := 8) rfl (by decide) hb nX8_needGame ⟨pX8_needGame, Nat.le_of_ble_eq_true rfl, by decide, Nat.le_of_ble_eq_true rfl, by decide, by decide⟩ (r_X8_needGame hb hk h0) (fun v A1 hC => absurd hC.1 (by simp)) (fun E A1 hC => ?_)
  obtain ⟨hv, y1, y2⟩ := hC
  cases hv
  exact xx_out rfl ⟨rfl, y1, y2⟩
set_option maxRecDepth 100000 in
theorem r_X8_isSource {G : xx_G} {l : Launch} {A : xx_H} {b k0 : Nat} {u1 u2 u3 u4 u5 u6 u7 u8 u9 u10 u11 u12 u13 u14 u15 u16 u17 : Value} {f : Nat → Int32} {p0 : Int32} (hb : A.2 b = xx_o 8 [.ref k0, u1, u2, u3, u4, u5, u6, u7, u8, u9, u10, u11, u12, u13, u14, u15, u16, u17]) (hk : A.2 k0 = xx_i 2 f) (h0 : f 0 = 0) : xx_X G l mX8_isSource 0 0 0 0 (lv_args 0 [.ref b, .int p0]) [] A (xx_rt (some (.int 0)) A) := by
  refine xx_clv (lv2 := [(0, .ref b), (1, .int p0)]) rfl ?_
  refine xx_aload_n dX8_isSource_0 rfl ?_
  refine xx_get xx_c8 dX8_isSource_1 wf_X8_7 (j := 0) (by decide) hb rfl ?_
  refine xx_iconst (v := 0) dX8_isSource_4 (by decide) ?_
  refine xx_iald dX8_isSource_5 hk (by unfold vp_in; decide) ?_
  refine xx_eqi (y := 0) h0 ?_
  refine xx_if_eq (tgt := 15) dX8_isSource_6 (by decide) (fun j6 => ?_) (fun h => absurd (by decide) h)
  refine xx_iconst (v := 0) dX8_isSource_15 (by decide) ?_
  exact xx_zret dX8_isSource_16 rfl rfl ⟨rfl, Nat.le_refl _, rfl⟩
set_option maxRecDepth 100000 in
theorem r_X8_needSource {G : xx_G} {l : Launch} {A : xx_H} {b k0 : Nat} {u1 u2 u3 u4 u5 u6 u7 u8 u9 u10 u11 u12 u13 u14 u15 u16 u17 : Value} {f : Nat → Int32} {p0 : Int32} (hb : A.2 b = xx_o 8 [.ref k0, u1, u2, u3, u4, u5, u6, u7, u8, u9, u10, u11, u12, u13, u14, u15, u16, u17]) (hk : A.2 k0 = xx_i 2 f) (h0 : f 0 = 0) : xx_X G l mX8_needSource 6 1 6 0 (lv_args 0 [.ref b, .int p0]) [] A (xx_th R_ise A) := by
  refine xx_clv (lv2 := [(0, .ref b), (1, .int p0)]) rfl ?_
  refine xx_aload_n dX8_needSource_0 rfl ?_
  refine xx_iload_n dX8_needSource_1 rfl ?_
  refine xx_callV (N := mX8_isSource) (vs := [.int p0]) (b := b) (rest := []) (d2 := 0) (c2 := 0) (s2 := 0) (c3 := 1) (s3 := 6) dX8_needSource_2 wm_X8_264 wi_X8_isSource wv_X8_isSource (k := 8) rfl (by decide) hb nX8_isSource ⟨pX8_isSource, Nat.le_of_ble_eq_true rfl, by decide, Nat.le_of_ble_eq_true rfl, by decide, by decide⟩ (r_X8_isSource hb hk h0) (fun v A1 hC => ?_) (fun E A1 hC => ?_)
  rotate_left
  · exact absurd hC.1 (by simp)
  obtain ⟨hv, y1, e1⟩ := hC
  cases hv
  refine xx_cst (st2 := [.int 0]) rfl ?_
  refine xx_if_ne (tgt := 19) dX8_needSource_5 (by decide) (fun h => absurd rfl h) (fun j5 => ?_)
  exact xx_throwSW xx_thw_ise (List.mem_of_getElem? (i := 10) rfl) rfl dX8_needSource_8 dX8_needSource_11 dX8_needSource_12 dX8_needSource_15 dX8_needSource_18 (by decide) (by decide) (fun n hn => ⟨rfl, Nat.le_trans y1 hn, e1⟩)
set_option maxRecDepth 100000 in
theorem r_X8_support {G : xx_G} {l : Launch} {A : xx_H} {b k0 : Nat} {u1 u2 u3 u4 u5 u6 u7 u8 u9 u10 u11 u12 u13 u14 u15 u16 u17 : Value} {f : Nat → Int32} {p0 p1 : Int32} (hb : A.2 b = xx_o 8 [.ref k0, u1, u2, u3, u4, u5, u6, u7, u8, u9, u10, u11, u12, u13, u14, u15, u16, u17]) (hk : A.2 k0 = xx_i 2 f) (h0 : f 0 = 0) : xx_X G l mX8_support 7 1 6 0 (lv_args 0 [.ref b, .int p0, .int p1]) [] A (xx_th R_ise A) := by
  refine xx_clv (lv2 := [(0, .ref b), (1, .int p0), (2, .int p1)]) rfl ?_
  refine xx_aload_n dX8_support_0 rfl ?_
  refine xx_iload_n dX8_support_1 rfl ?_
  refine xx_callV (N := mX8_needSource) (vs := [.int p0]) (b := b) (rest := []) (d2 := 6) (c2 := 1) (s2 := 6) (c3 := 0) (s3 := 0) dX8_support_2 wm_X8_164 wi_X8_needSource wv_X8_needSource (k := 8) rfl (by decide) hb nX8_needSource ⟨pX8_needSource, Nat.le_of_ble_eq_true rfl, by decide, Nat.le_of_ble_eq_true rfl, by decide, by decide⟩ (r_X8_needSource hb hk h0) (fun v A1 hC => absurd hC.1 (by simp)) (fun E A1 hC => ?_)
  obtain ⟨hv, y1, y2⟩ := hC
  cases hv
  exact xx_out rfl ⟨rfl, y1, y2⟩
set_option maxRecDepth 100000 in
theorem r_X8_strategy {G : xx_G} {l : Launch} {A : xx_H} {b k0 : Nat} {u1 u2 u3 u4 u5 u6 u7 u8 u9 u10 u11 u12 u13 u14 u15 u16 u17 : Value} {f : Nat → Int32} {p0 p1 p2 : Int32} (hb : A.2 b = xx_o 8 [.ref k0, u1, u2, u3, u4, u5, u6, u7, u8, u9, u10, u11, u12, u13, u14, u15, u16, u17]) (hk : A.2 k0 = xx_i 2 f) (h0 : f 0 = 0) : xx_X G l mX8_strategy 7 1 6 0 (lv_args 0 [.ref b, .int p0, .int p1, .int p2]) [] A (xx_th R_ise A) := by
  refine xx_clv (lv2 := [(0, .ref b), (1, .int p0), (2, .int p1), (3, .int p2)]) rfl ?_
  refine xx_aload_n dX8_strategy_0 rfl ?_
  refine xx_iload_n dX8_strategy_1 rfl ?_
  refine xx_callV (N := mX8_needSource) (vs := [.int p0]) (b := b) (rest := []) (d2 := 6) (c2 := 1) (s2 := 6) (c3 := 0) (s3 := 0) dX8_strategy_2 wm_X8_164 wi_X8_needSource wv_X8_needSource (k := 8) rfl (by decide) hb nX8_needSource ⟨pX8_needSource, Nat.le_of_ble_eq_true rfl, by decide, Nat.le_of_ble_eq_true rfl, by decide, by decide⟩ (r_X8_needSource hb hk h0) (fun v A1 hC => absurd hC.1 (by simp)) (fun E A1 hC => ?_)
  obtain ⟨hv, y1, y2⟩ := hC
  cases hv
  exact xx_out rfl ⟨rfl, y1, y2⟩
set_option maxRecDepth 100000 in
theorem r_X8_gets {G : xx_G} {l : Launch} {A : xx_H} {b k0 : Nat} {u1 u2 u3 u4 u5 u6 u7 u8 u9 u10 u11 u12 u13 u14 u15 u16 u17 : Value} {f : Nat → Int32} {p0 p1 p2 : Int32} (hb : A.2 b = xx_o 8 [.ref k0, u1, u2, u3, u4, u5, u6, u7, u8, u9, u10, u11, u12, u13, u14, u15, u16, u17]) (hk : A.2 k0 = xx_i 2 f) (h0 : f 0 = 0) : xx_X G l mX8_gets 7 1 6 0 (lv_args 0 [.ref b, .int p0, .int p1, .int p2]) [] A (xx_th R_ise A) := by
  refine xx_clv (lv2 := [(0, .ref b), (1, .int p0), (2, .int p1), (3, .int p2)]) rfl ?_
  refine xx_aload_n dX8_gets_0 rfl ?_
  refine xx_iload_n dX8_gets_1 rfl ?_
  refine xx_callV (N := mX8_needSource) (vs := [.int p0]) (b := b) (rest := []) (d2 := 6) (c2 := 1) (s2 := 6) (c3 := 0) (s3 := 0) dX8_gets_2 wm_X8_164 wi_X8_needSource wv_X8_needSource (k := 8) rfl (by decide) hb nX8_needSource ⟨pX8_needSource, Nat.le_of_ble_eq_true rfl, by decide, Nat.le_of_ble_eq_true rfl, by decide, by decide⟩ (r_X8_needSource hb hk h0) (fun v A1 hC => absurd hC.1 (by simp)) (fun E A1 hC => ?_)
  obtain ⟨hv, y1, y2⟩ := hC
  cases hv
  exact xx_out rfl ⟨rfl, y1, y2⟩
set_option maxRecDepth 100000 in
theorem r_X8_replies {G : xx_G} {l : Launch} {A : xx_H} {b k0 : Nat} {u1 u2 u3 u4 u5 u6 u7 u8 u9 u10 u11 u12 u13 u14 u15 u16 u17 : Value} {f : Nat → Int32} {p0 p1 : Int32} (hb : A.2 b = xx_o 8 [.ref k0, u1, u2, u3, u4, u5, u6, u7, u8, u9, u10, u11, u12, u13, u14, u15, u16, u17]) (hk : A.2 k0 = xx_i 2 f) (h0 : f 0 = 0) : xx_X G l mX8_replies 7 1 6 0 (lv_args 0 [.ref b, .int p0, .int p1]) [] A (xx_th R_ise A) := by
  refine xx_clv (lv2 := [(0, .ref b), (1, .int p0), (2, .int p1)]) rfl ?_
  refine xx_aload_n dX8_replies_0 rfl ?_
  refine xx_iload_n dX8_replies_1 rfl ?_
  refine xx_callV (N := mX8_needSource) (vs := [.int p0]) (b := b) (rest := []) (d2 := 6) (c2 := 1) (s2 := 6) (c3 := 0) (s3 := 0) dX8_replies_2 wm_X8_164 wi_X8_needSource wv_X8_needSource (k := 8) rfl (by decide) hb nX8_needSource ⟨pX8_needSource, Nat.le_of_ble_eq_true rfl, by decide, Nat.le_of_ble_eq_true rfl, by decide, by decide⟩ (r_X8_needSource hb hk h0) (fun v A1 hC => absurd hC.1 (by simp)) (fun E A1 hC => ?_)
  obtain ⟨hv, y1, y2⟩ := hC
  cases hv
  exact xx_out rfl ⟨rfl, y1, y2⟩
set_option maxRecDepth 100000 in
theorem r_X8_judge {G : xx_G} {l : Launch} {A : xx_H} {b k0 : Nat} {u1 u2 u3 u4 u5 u6 u7 u8 u9 u10 u11 u12 u13 u14 u15 u16 u17 : Value} {f : Nat → Int32} {p0 : Int32} (hb : A.2 b = xx_o 8 [.ref k0, u1, u2, u3, u4, u5, u6, u7, u8, u9, u10, u11, u12, u13, u14, u15, u16, u17]) (hk : A.2 k0 = xx_i 2 f) (h0 : f 0 = 0) : xx_X G l mX8_judge 7 1 6 0 (lv_args 0 [.ref b, .int p0]) [] A (xx_th R_ise A) := by
  refine xx_clv (lv2 := [(0, .ref b), (1, .int p0)]) rfl ?_
  refine xx_aload_n dX8_judge_0 rfl ?_
  refine xx_iload_n dX8_judge_1 rfl ?_
  refine xx_callV (N := mX8_needSource) (vs := [.int p0]) (b := b) (rest := []) (d2 := 6) (c2 := 1) (s2 := 6) (c3 := 0) (s3 := 0) dX8_judge_2 wm_X8_164 wi_X8_needSource wv_X8_needSource (k := 8) rfl (by decide) hb nX8_needSource ⟨pX8_needSource, Nat.le_of_ble_eq_true rfl, by decide, Nat.le_of_ble_eq_true rfl, by decide, by decide⟩ (r_X8_needSource hb hk h0) (fun v A1 hC => absurd hC.1 (by simp)) (fun E A1 hC => ?_)
  obtain ⟨hv, y1, y2⟩ := hC
  cases hv
  exact xx_out rfl ⟨rfl, y1, y2⟩
set_option maxRecDepth 100000 in
theorem r_X8_step {G : xx_G} {l : Launch} {A : xx_H} {b : Nat} {u0 u1 u2 u3 u4 u5 u7 u8 u9 u10 u11 u12 u13 u14 u15 u16 u17 : Value} {f : Nat → Int32} {p0 p1 : Int32} (hb : A.2 b = xx_o 8 [u0, u1, u2, u3, u4, u5, .int 0, u7, u8, u9, u10, u11, u12, u13, u14, u15, u16, u17]) : xx_X G l mX8_step 6 1 6 0 (lv_args 0 [.ref b, .int p0, .int p1]) [] A (xx_th R_ise A) := by
  refine xx_clv (lv2 := [(0, .ref b), (1, .int p0), (2, .int p1)]) rfl ?_
  refine xx_aload_n dX8_step_0 rfl ?_
  refine xx_get xx_c8 dX8_step_1 wf_X8_42 (j := 6) (by decide) hb rfl ?_
  refine xx_if_ne (tgt := 17) dX8_step_4 (by decide) (fun h => absurd rfl h) (fun j4 => ?_)
  exact xx_throwS xx_thw_ise (List.mem_of_getElem? (i := 6) rfl) rfl dX8_step_7 dX8_step_10 dX8_step_11 dX8_step_13 dX8_step_16 (by decide) (by decide) (fun n hn => ⟨rfl, hn, rfl⟩)
set_option maxRecDepth 100000 in
theorem r_X8_index {G : xx_G} {l : Launch} {A : xx_H} {b : Nat} {u0 u1 u2 u3 u4 u5 u6 u7 u8 u9 u10 u12 u13 u14 u15 u16 u17 : Value} {f : Nat → Int32} {p0 : Int32} (hb : A.2 b = xx_o 8 [u0, u1, u2, u3, u4, u5, u6, u7, u8, u9, u10, .int 0, u12, u13, u14, u15, u16, u17]) : xx_X G l mX8_index 6 1 6 0 (lv_args 0 [.ref b, .int p0]) [] A (xx_th R_ise A) := by
  refine xx_clv (lv2 := [(0, .ref b), (1, .int p0)]) rfl ?_
  refine xx_aload_n dX8_index_0 rfl ?_
  refine xx_get xx_c8 dX8_index_1 wf_X8_59 (j := 11) (by decide) hb rfl ?_
  refine xx_if_eq (tgt := 26) dX8_index_4 (by decide) (fun j4 => ?_) (fun h => absurd (by decide) h)
  exact xx_throwS xx_thw_ise (List.mem_of_getElem? (i := 11) rfl) rfl dX8_index_26 dX8_index_29 dX8_index_30 dX8_index_32 dX8_index_35 (by decide) (by decide) (fun n hn => ⟨rfl, hn, rfl⟩)
set_option maxRecDepth 100000 in
theorem r_X8_game {G : xx_G} {l : Launch} {A : xx_H} {b : Nat} {u0 u1 u2 u3 u4 u5 u6 u7 u8 u9 u10 u11 u12 u13 u14 u15 u16 u17 : Value} {f : Nat → Int32} {p0 p1 : Int32} (hb : A.2 b = xx_o 8 [u0, u1, u2, u3, u4, u5, u6, u7, u8, u9, u10, u11, u12, u13, u14, u15, u16, u17]) (hg : ¬ (¬ p0 < 1 ∧ ¬ 6 < p0 ∧ ¬ p1 < 1 ∧ p1 ≤ 6)) : xx_X G l mX8_game 6 1 6 0 (lv_args 0 [.ref b, .int p0, .int p1]) [] A (xx_th R_iae A) := by
  refine xx_clv (lv2 := [(0, .ref b), (1, .int p0), (2, .int p1)]) rfl ?_
  refine xx_iload_n dX8_game_0 rfl ?_
  refine xx_iconst (v := 1) dX8_game_1 (by decide) ?_
  refine xx_icmp_lt (tgt := 22) dX8_game_2 (by decide) (fun j2 => ?_) (fun j2 => ?_)
  · exact xx_throwS xx_thw_iae (List.mem_of_getElem? (i := 0) rfl) rfl dX8_game_22 dX8_game_25 dX8_game_26 dX8_game_28 dX8_game_31 (by decide) (by decide) (fun n hn => ⟨rfl, hn, rfl⟩)
  · refine xx_iload_n dX8_game_5 rfl ?_
    refine xx_bipush (v := 6) dX8_game_6 (by decide) ?_
    refine xx_icmp_gt (tgt := 22) dX8_game_8 (by decide) (fun j8 => ?_) (fun j8 => ?_)
    · exact xx_throwS xx_thw_iae (List.mem_of_getElem? (i := 0) rfl) rfl dX8_game_22 dX8_game_25 dX8_game_26 dX8_game_28 dX8_game_31 (by decide) (by decide) (fun n hn => ⟨rfl, hn, rfl⟩)
    · refine xx_iload_n dX8_game_11 rfl ?_
      refine xx_iconst (v := 1) dX8_game_12 (by decide) ?_
      refine xx_icmp_lt (tgt := 22) dX8_game_13 (by decide) (fun j13 => ?_) (fun j13 => ?_)
      · exact xx_throwS xx_thw_iae (List.mem_of_getElem? (i := 0) rfl) rfl dX8_game_22 dX8_game_25 dX8_game_26 dX8_game_28 dX8_game_31 (by decide) (by decide) (fun n hn => ⟨rfl, hn, rfl⟩)
      · refine xx_iload_n dX8_game_16 rfl ?_
        refine xx_bipush (v := 6) dX8_game_17 (by decide) ?_
        refine xx_icmp_le (tgt := 32) dX8_game_19 (by decide) (fun j19 => ?_) (fun j19 => ?_)
        · exact absurd ⟨j2, j8, j13, j19⟩ hg
        · exact xx_throwS xx_thw_iae (List.mem_of_getElem? (i := 0) rfl) rfl dX8_game_22 dX8_game_25 dX8_game_26 dX8_game_28 dX8_game_31 (by decide) (by decide) (fun n hn => ⟨rfl, hn, rfl⟩)
set_option maxRecDepth 100000 in
theorem r_X8_part {G : xx_G} {l : Launch} {A : xx_H} {b : Nat} {u0 u1 u2 u3 u4 u5 u6 u7 u8 u9 u10 u11 u12 u13 u14 u15 u16 u17 : Value} {f : Nat → Int32} {p0 p1 : Int32} (hb : A.2 b = xx_o 8 [u0, u1, u2, u3, u4, u5, u6, u7, u8, u9, u10, u11, u12, u13, u14, u15, u16, u17]) (hg : p1 < 0) : xx_X G l mX8_part 6 1 6 0 (lv_args 0 [.ref b, .int p0, .int p1]) [] A (xx_th R_ioe A) := by
  refine xx_clv (lv2 := [(0, .ref b), (1, .int p0), (2, .int p1)]) rfl ?_
  refine xx_iload_n dX8_part_0 rfl ?_
  refine xx_if_ge (tgt := 14) dX8_part_1 (by decide) (fun h => absurd hg (Int32.not_lt.mpr h)) (fun j1 => ?_)
  exact xx_throwS xx_thw_ioe (List.mem_of_getElem? (i := 12) rfl) rfl dX8_part_4 dX8_part_7 dX8_part_8 dX8_part_10 dX8_part_13 (by decide) (by decide) (fun n hn => ⟨rfl, hn, rfl⟩)
set_option maxRecDepth 100000 in
theorem r_X8_told {G : xx_G} {l : Launch} {A : xx_H} {b : Nat} {u0 u1 u2 u3 u4 u5 u6 u7 u8 u9 u10 u11 u12 u13 u14 u15 u16 u17 : Value} {f : Nat → Int32} {p0 : Int32} (hb : A.2 b = xx_o 8 [u0, u1, u2, u3, u4, u5, u6, u7, u8, u9, u10, u11, u12, u13, u14, u15, u16, u17]) (hg : p0.toInt < 0 ∨ 6 < p0.toInt) : xx_X G l mX8_told 6 1 6 0 (lv_args 0 [.ref b, .int p0]) [] A (xx_th R_iae A) := by
  refine xx_clv (lv2 := [(0, .ref b), (1, .int p0)]) rfl ?_
  refine xx_iload_n dX8_told_0 rfl ?_
  refine xx_tableOut (tgt := 78) dX8_told_1 hg (by decide) ?_
  exact xx_throwSW xx_thw_iae (List.mem_of_getElem? (i := 13) rfl) rfl dX8_told_78 dX8_told_81 dX8_told_82 dX8_told_85 dX8_told_88 (by decide) (by decide) (fun n hn => ⟨rfl, hn, rfl⟩)
