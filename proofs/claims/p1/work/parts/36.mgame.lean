/-! ===== the reference: changed, game ===== -/
set_option maxRecDepth 100000 in
theorem c_X9_changed {G : xx_G} {l : Launch} {A : xx_H} {c a o t : Nat} {af bf : Nat → Int32} {u0 u10 u11 u15 u16 u27 : Value} {th : Nat → Int32} {mu wh le : Nat → Int64} (hc : c < a) (ho : o ≤ 6) (ht : t ≤ 6) (ok0 : yy_ok af bf 0) (ok1 : yy_ok af bf 1) (hb : A.2 c = xx_o 9 [u0, .ref a, .ref (a + 1), .ref (a + 2), .int (nI o), .int (nI t), .ref (a + 3), .ref (a + 4), .ref (a + 5), .ref (a + 6), u10, u11, .ref (a + 7), .ref (a + 8), .ref (a + 9), u15, u16, .ref (a + 10), .ref (a + 11), .ref (a + 12), .ref (a + 13), .ref (a + 14), .ref (a + 15), .ref (a + 16), .ref (a + 17), .ref (a + 18), .ref (a + 19), u27, .ref (a + 20)]) (ha : A.2 (a + 3) = xx_i 72 af) (hd : A.2 (a + 4) = xx_i 72 bf) (hth : A.2 (a + 12) = xx_z 12 th) (hmu : A.2 (a + 13) = xx_l 2 mu) (hwh : A.2 (a + 14) = xx_l 72 wh) (hle : A.2 (a + 15) = xx_l 2 le) :
    xx_X G l mX9_changed 1 0 0 0 (lv_args 0 [.ref c]) [] A (fun r B => r = .inl none ∧ B.1 = A.1 ∧ B.2 c = xx_o 9 [u0, .ref a, .ref (a + 1), .ref (a + 2), .int (nI o), .int (nI t), .ref (a + 3), .ref (a + 4), .ref (a + 5), .ref (a + 6), .int (-1), .int 0, .ref (a + 7), .ref (a + 8), .ref (a + 9), .int 0, .int 0, .ref (a + 10), .ref (a + 11), .ref (a + 12), .ref (a + 13), .ref (a + 14), .ref (a + 15), .ref (a + 16), .ref (a + 17), .ref (a + 18), .ref (a + 19), u27, .ref (a + 20)] ∧ B.2 (a + 12) = xx_z 12 (fun _ => 1) ∧ B.2 (a + 13) = xx_l 2 (vp_updL (vp_updL mu 0 (yy_rl af bf 0 36)) 1 (yy_rl af bf 1 36)) ∧ B.2 (a + 14) = xx_l 72 (yy_ro af bf (yy_rl af bf 1 36) 1 t o ((yy_ro af bf (yy_rl af bf 0 36) 0 t o (wh, 9223372036854775807)).1, 9223372036854775807)).1 ∧ B.2 (a + 15) = xx_l 2 (vp_updL (vp_updL le 0 (yy_ro af bf (yy_rl af bf 0 36) 0 t o (wh, 9223372036854775807)).2) 1 (yy_ro af bf (yy_rl af bf 1 36) 1 t o ((yy_ro af bf (yy_rl af bf 0 36) 0 t o (wh, 9223372036854775807)).1, 9223372036854775807)).2) ∧ ∀ q, q ≠ c → q ≠ a + 12 → q ≠ a + 13 → q ≠ a + 14 → q ≠ a + 15 → B.2 q = A.2 q) := by
  refine xx_clv (lv2 := [(0, .ref c)]) rfl ?_
  refine xx_aload_n dX9_changed_0 rfl ?_
  refine xx_iconst (v := (-1)) dX9_changed_1 (by decide) ?_
  refine xx_put xx_c9 dX9_changed_2 wf_X9_32 (j := 10) (by decide) rfl rfl rfl hb (Nat.le_of_ble_eq_true rfl) (xx_gu fun A1 z1 h1 o1 => ?_)
  have h1 : A1.2 c = xx_o 9 [u0, .ref a, .ref (a + 1), .ref (a + 2), .int (nI o), .int (nI t), .ref (a + 3), .ref (a + 4), .ref (a + 5), .ref (a + 6), .int (-1), u11, .ref (a + 7), .ref (a + 8), .ref (a + 9), u15, u16, .ref (a + 10), .ref (a + 11), .ref (a + 12), .ref (a + 13), .ref (a + 14), .ref (a + 15), .ref (a + 16), .ref (a + 17), .ref (a + 18), .ref (a + 19), u27, .ref (a + 20)] := h1
  have ha_1 := (o1 (a + 3) (by omega)).trans ha
  have hd_1 := (o1 (a + 4) (by omega)).trans hd
  have hth_1 := (o1 (a + 12) (by omega)).trans hth
  have hmu_1 := (o1 (a + 13) (by omega)).trans hmu
  have hwh_1 := (o1 (a + 14) (by omega)).trans hwh
  have hle_1 := (o1 (a + 15) (by omega)).trans hle
  refine xx_aload_n dX9_changed_5 rfl ?_
  refine xx_iconst (v := 0) dX9_changed_6 (by decide) ?_
  refine xx_put xx_c9 dX9_changed_7 wf_X9_129 (j := 11) (by decide) rfl rfl rfl h1 (Nat.le_of_ble_eq_true rfl) (xx_gu fun A2 z2 h2 o2 => ?_)
  have h2 : A2.2 c = xx_o 9 [u0, .ref a, .ref (a + 1), .ref (a + 2), .int (nI o), .int (nI t), .ref (a + 3), .ref (a + 4), .ref (a + 5), .ref (a + 6), .int (-1), .int 0, .ref (a + 7), .ref (a + 8), .ref (a + 9), u15, u16, .ref (a + 10), .ref (a + 11), .ref (a + 12), .ref (a + 13), .ref (a + 14), .ref (a + 15), .ref (a + 16), .ref (a + 17), .ref (a + 18), .ref (a + 19), u27, .ref (a + 20)] := h2
  have ha_2 := (o2 (a + 3) (by omega)).trans ha_1
  have hd_2 := (o2 (a + 4) (by omega)).trans hd_1
  have hth_2 := (o2 (a + 12) (by omega)).trans hth_1
  have hmu_2 := (o2 (a + 13) (by omega)).trans hmu_1
  have hwh_2 := (o2 (a + 14) (by omega)).trans hwh_1
  have hle_2 := (o2 (a + 15) (by omega)).trans hle_1
  refine xx_aload_n dX9_changed_10 rfl ?_
  refine xx_iconst (v := 0) dX9_changed_11 (by decide) ?_
  refine xx_put xx_c9 dX9_changed_12 wf_X9_132 (j := 15) (by decide) rfl rfl rfl h2 (Nat.le_of_ble_eq_true rfl) (xx_gu fun A3 z3 h3 o3 => ?_)
  have h3 : A3.2 c = xx_o 9 [u0, .ref a, .ref (a + 1), .ref (a + 2), .int (nI o), .int (nI t), .ref (a + 3), .ref (a + 4), .ref (a + 5), .ref (a + 6), .int (-1), .int 0, .ref (a + 7), .ref (a + 8), .ref (a + 9), .int 0, u16, .ref (a + 10), .ref (a + 11), .ref (a + 12), .ref (a + 13), .ref (a + 14), .ref (a + 15), .ref (a + 16), .ref (a + 17), .ref (a + 18), .ref (a + 19), u27, .ref (a + 20)] := h3
  have ha_3 := (o3 (a + 3) (by omega)).trans ha_2
  have hd_3 := (o3 (a + 4) (by omega)).trans hd_2
  have hth_3 := (o3 (a + 12) (by omega)).trans hth_2
  have hmu_3 := (o3 (a + 13) (by omega)).trans hmu_2
  have hwh_3 := (o3 (a + 14) (by omega)).trans hwh_2
  have hle_3 := (o3 (a + 15) (by omega)).trans hle_2
  refine xx_aload_n dX9_changed_15 rfl ?_
  refine xx_iconst (v := 0) dX9_changed_16 (by decide) ?_
  refine xx_put xx_c9 dX9_changed_17 wf_X9_136 (j := 16) (by decide) rfl rfl rfl h3 (Nat.le_of_ble_eq_true rfl) (xx_gu fun A4 z4 h4 o4 => ?_)
  have h4 : A4.2 c = xx_o 9 [u0, .ref a, .ref (a + 1), .ref (a + 2), .int (nI o), .int (nI t), .ref (a + 3), .ref (a + 4), .ref (a + 5), .ref (a + 6), .int (-1), .int 0, .ref (a + 7), .ref (a + 8), .ref (a + 9), .int 0, .int 0, .ref (a + 10), .ref (a + 11), .ref (a + 12), .ref (a + 13), .ref (a + 14), .ref (a + 15), .ref (a + 16), .ref (a + 17), .ref (a + 18), .ref (a + 19), u27, .ref (a + 20)] := h4
  have ha_4 := (o4 (a + 3) (by omega)).trans ha_3
  have hd_4 := (o4 (a + 4) (by omega)).trans hd_3
  have hth_4 := (o4 (a + 12) (by omega)).trans hth_3
  have hmu_4 := (o4 (a + 13) (by omega)).trans hmu_3
  have hwh_4 := (o4 (a + 14) (by omega)).trans hwh_3
  have hle_4 := (o4 (a + 15) (by omega)).trans hle_3
  refine xx_iconst (v := 0) dX9_changed_20 (by decide) ?_
  refine xx_istore_n dX9_changed_21 (by decide) ?_
  refine xx_clv (lv2 := [(0, .ref c), (1, .int 0)]) rfl ?_
  refine xx_clv (lv2 := [(0, .ref c), (1, .int (nI 0))]) rfl ?_
  refine l_X9_ch1 (A := A4) (af := af) (bf := bf) hc (fun A5 f5 z5 h5 e5 o5 => ?_) h4 12 0 (by omega) A4 th rfl hth_4 (fun j hj => absurd hj (Nat.not_lt_zero j)) (fun q _ => rfl)
  have h4_5 := (o5 c (by omega)).trans h4
  have ha_5 := (o5 (a + 3) (by omega)).trans ha_4
  have hd_5 := (o5 (a + 4) (by omega)).trans hd_4
  have hmu_5 := (o5 (a + 13) (by omega)).trans hmu_4
  have hwh_5 := (o5 (a + 14) (by omega)).trans hwh_4
  have hle_5 := (o5 (a + 15) (by omega)).trans hle_4
  refine xx_rep (kd := 4) (n := 12) (fun _ => .int 1) (by decide) h5 (fun j hj => congrArg Value.int (e5 j hj)) (fun A6 z6 h6 o6 => ?_)
  have h6 : A6.2 (a + 12) = xx_z 12 (fun _ => 1) := h6
  have h4_6 := (o6 c (by omega)).trans h4_5
  have ha_6 := (o6 (a + 3) (by omega)).trans ha_5
  have hd_6 := (o6 (a + 4) (by omega)).trans hd_5
  have hmu_6 := (o6 (a + 13) (by omega)).trans hmu_5
  have hwh_6 := (o6 (a + 14) (by omega)).trans hwh_5
  have hle_6 := (o6 (a + 15) (by omega)).trans hle_5
  refine xx_iconst (v := 0) dX9_changed_41 (by decide) ?_
  refine xx_istore_n dX9_changed_42 (by decide) ?_
  refine xx_clv (lv2 := [(0, .ref c), (1, .int 0)]) rfl ?_
  refine xx_iload_n dX9_changed_43 rfl ?_
  refine xx_iconst (v := 2) dX9_changed_44 (by decide) ?_
  refine xx_icmp_ge (tgt := 294) dX9_changed_45 (by decide) (fun h => absurd h (by decide)) (fun j45 => ?_)
  refine xx_lconst (v := 1) dX9_changed_48 (by decide) ?_
  refine xx_lstore_n dX9_changed_49 (by decide) ?_
  refine xx_clv (lv2 := [(0, .ref c), (1, .int 0), (2, .long 1)]) rfl ?_
  refine xx_iconst (v := 0) dX9_changed_50 (by decide) ?_
  refine xx_istore dX9_changed_51 (by decide) ?_
  refine xx_clv (lv2 := [(0, .ref c), (1, .int 0), (2, .long 1), (4, .int 0)]) rfl ?_
  refine xx_clv (lv2 := [(0, .ref c), (1, .int (nI 0)), (2, .long (yy_rl af bf 0 0)), (4, .int (nI 0))]) rfl ?_
  refine l_X9_ch2 (A := A6) (P := 0) (by decide) ok0 h4_6 ha_6 hd_6 ?_ 36 0 (by omega)
  refine xx_clv (lv2 := [(0, .ref c), (1, .int 0), (2, .long (yy_rl af bf 0 36)), (4, .int (nI 36))]) rfl ?_
  refine xx_aload_n dX9_changed_127 rfl ?_
  refine xx_get xx_c9 dX9_changed_128 wf_X9_55 (j := 20) (by decide) h4_6 rfl ?_
  refine xx_iload_n dX9_changed_131 rfl ?_
  refine xx_lload_n dX9_changed_132 rfl ?_
  refine xx_last dX9_changed_133 hmu_6 (by unfold vp_in; decide) (xx_gu fun A7 z7 h7 o7 => ?_)
  have h7 : A7.2 (a + 13) = xx_l 2 (vp_updL mu 0 ((yy_rl af bf 0 36))) := h7
  have h4_7 := (o7 c (by omega)).trans h4_6
  have ha_7 := (o7 (a + 3) (by omega)).trans ha_6
  have hd_7 := (o7 (a + 4) (by omega)).trans hd_6
  have h6_7 := (o7 (a + 12) (by omega)).trans h6
  have hwh_7 := (o7 (a + 14) (by omega)).trans hwh_6
  have hle_7 := (o7 (a + 15) (by omega)).trans hle_6
  refine xx_aload_n dX9_changed_134 rfl ?_
  refine xx_get xx_c9 dX9_changed_135 wf_X9_62 (j := 22) (by decide) h4_7 rfl ?_
  refine xx_iload_n dX9_changed_138 rfl ?_
  refine xx_ldc2 (v := 9223372036854775807) dX9_changed_139 wk_X9_145 ?_
  refine xx_last dX9_changed_142 hle_7 (by unfold vp_in; decide) (xx_gu fun A8 z8 h8 o8 => ?_)
  have h8 : A8.2 (a + 15) = xx_l 2 (vp_updL le 0 9223372036854775807) := h8
  have h4_8 := (o8 c (by omega)).trans h4_7
  have ha_8 := (o8 (a + 3) (by omega)).trans ha_7
  have hd_8 := (o8 (a + 4) (by omega)).trans hd_7
  have h6_8 := (o8 (a + 12) (by omega)).trans h6_7
  have h7_8 := (o8 (a + 13) (by omega)).trans h7
  have hwh_8 := (o8 (a + 14) (by omega)).trans hwh_7
  refine xx_iconst (v := 0) dX9_changed_143 (by decide) ?_
  refine xx_istore dX9_changed_144 (by decide) ?_
  refine xx_clv (lv2 := [(0, .ref c), (1, .int 0), (2, .long (yy_rl af bf 0 36)), (4, .int 0)]) rfl ?_
  refine xx_clv (lv2 := [(0, .ref c), (1, .int (nI 0)), (2, .long (yy_rl af bf 0 36)), (4, .int (nI 0))]) rfl ?_
  refine l_X9_ch4 (A := A8) (P := 0) (L := (yy_rl af bf 0 36)) (lf := le) (s0 := (wh, 9223372036854775807)) hc (by decide) ho ht ok0 h4_8 ha_8 hd_8 (fun A9 z9 h9 g9 o9 => ?_) o 0 (by omega) A8 rfl hwh_8 h8 (fun q _ _ => rfl)
  have h4_9 := (o9 c (by omega) (by omega)).trans h4_8
  have ha_9 := (o9 (a + 3) (by omega) (by omega)).trans ha_8
  have hd_9 := (o9 (a + 4) (by omega) (by omega)).trans hd_8
  have h6_9 := (o9 (a + 12) (by omega) (by omega)).trans h6_8
  have h7_9 := (o9 (a + 13) (by omega) (by omega)).trans h7_8
  refine xx_iinc (v := 1) dX9_changed_288 rfl rfl (by decide) ?_
  refine xx_goto (tgt := 43) dX9_changed_291 (by decide) ?_
  refine xx_clv (lv2 := [(0, .ref c), (1, .int 1)]) rfl ?_
  refine xx_iload_n dX9_changed_43 rfl ?_
  refine xx_iconst (v := 2) dX9_changed_44 (by decide) ?_
  refine xx_icmp_ge (tgt := 294) dX9_changed_45 (by decide) (fun h => absurd h (by decide)) (fun j45 => ?_)
  refine xx_lconst (v := 1) dX9_changed_48 (by decide) ?_
  refine xx_lstore_n dX9_changed_49 (by decide) ?_
  refine xx_clv (lv2 := [(0, .ref c), (1, .int 1), (2, .long 1)]) rfl ?_
  refine xx_iconst (v := 0) dX9_changed_50 (by decide) ?_
  refine xx_istore dX9_changed_51 (by decide) ?_
  refine xx_clv (lv2 := [(0, .ref c), (1, .int 1), (2, .long 1), (4, .int 0)]) rfl ?_
  refine xx_clv (lv2 := [(0, .ref c), (1, .int (nI 1)), (2, .long (yy_rl af bf 1 0)), (4, .int (nI 0))]) rfl ?_
  refine l_X9_ch2 (A := A9) (P := 1) (by decide) ok1 h4_9 ha_9 hd_9 ?_ 36 0 (by omega)
  refine xx_clv (lv2 := [(0, .ref c), (1, .int 1), (2, .long (yy_rl af bf 1 36)), (4, .int (nI 36))]) rfl ?_
  refine xx_aload_n dX9_changed_127 rfl ?_
  refine xx_get xx_c9 dX9_changed_128 wf_X9_55 (j := 20) (by decide) h4_9 rfl ?_
  refine xx_iload_n dX9_changed_131 rfl ?_
  refine xx_lload_n dX9_changed_132 rfl ?_
  refine xx_last dX9_changed_133 h7_9 (by unfold vp_in; decide) (xx_gu fun A10 z10 h10 o10 => ?_)
  have h10 : A10.2 (a + 13) = xx_l 2 (vp_updL (vp_updL mu 0 ((yy_rl af bf 0 36))) 1 ((yy_rl af bf 1 36))) := h10
  have h4_10 := (o10 c (by omega)).trans h4_9
  have ha_10 := (o10 (a + 3) (by omega)).trans ha_9
  have hd_10 := (o10 (a + 4) (by omega)).trans hd_9
  have h6_10 := (o10 (a + 12) (by omega)).trans h6_9
  have h9_10 := (o10 (a + 14) (by omega)).trans h9
  have g9_10 := (o10 (a + 15) (by omega)).trans g9
  refine xx_aload_n dX9_changed_134 rfl ?_
  refine xx_get xx_c9 dX9_changed_135 wf_X9_62 (j := 22) (by decide) h4_10 rfl ?_
  refine xx_iload_n dX9_changed_138 rfl ?_
  refine xx_ldc2 (v := 9223372036854775807) dX9_changed_139 wk_X9_145 ?_
  refine xx_last dX9_changed_142 g9_10 (by unfold vp_in; decide) (xx_gu fun A11 z11 h11 o11 => ?_)
  have h11 : A11.2 (a + 15) = xx_l 2 (vp_updL (vp_updL le 0 (yy_ro af bf (yy_rl af bf 0 36) 0 t o (wh, 9223372036854775807)).2) 1 9223372036854775807) := h11
  have h4_11 := (o11 c (by omega)).trans h4_10
  have ha_11 := (o11 (a + 3) (by omega)).trans ha_10
  have hd_11 := (o11 (a + 4) (by omega)).trans hd_10
  have h6_11 := (o11 (a + 12) (by omega)).trans h6_10
  have h10_11 := (o11 (a + 13) (by omega)).trans h10
  have h9_11 := (o11 (a + 14) (by omega)).trans h9_10
  refine xx_iconst (v := 0) dX9_changed_143 (by decide) ?_
  refine xx_istore dX9_changed_144 (by decide) ?_
  refine xx_clv (lv2 := [(0, .ref c), (1, .int 1), (2, .long (yy_rl af bf 1 36)), (4, .int 0)]) rfl ?_
  refine xx_clv (lv2 := [(0, .ref c), (1, .int (nI 1)), (2, .long (yy_rl af bf 1 36)), (4, .int (nI 0))]) rfl ?_
  refine l_X9_ch4 (A := A11) (P := 1) (L := (yy_rl af bf 1 36)) (lf := (vp_updL le 0 (yy_ro af bf (yy_rl af bf 0 36) 0 t o (wh, 9223372036854775807)).2)) (s0 := ((yy_ro af bf (yy_rl af bf 0 36) 0 t o (wh, 9223372036854775807)).1, 9223372036854775807)) hc (by decide) ho ht ok1 h4_11 ha_11 hd_11 (fun A12 z12 h12 g12 o12 => ?_) o 0 (by omega) A11 rfl h9_11 h11 (fun q _ _ => rfl)
  have h4_12 := (o12 c (by omega) (by omega)).trans h4_11
  have ha_12 := (o12 (a + 3) (by omega) (by omega)).trans ha_11
  have hd_12 := (o12 (a + 4) (by omega) (by omega)).trans hd_11
  have h6_12 := (o12 (a + 12) (by omega) (by omega)).trans h6_11
  have h10_12 := (o12 (a + 13) (by omega) (by omega)).trans h10_11
  refine xx_iinc (v := 2) dX9_changed_288 rfl rfl (by decide) ?_
  refine xx_goto (tgt := 43) dX9_changed_291 (by decide) ?_
  refine xx_clv (lv2 := [(0, .ref c), (1, .int 2)]) rfl ?_
  refine xx_iload_n dX9_changed_43 rfl ?_
  refine xx_iconst (v := 2) dX9_changed_44 (by decide) ?_
  refine xx_icmp_ge (tgt := 294) dX9_changed_45 (by decide) (fun j45 => ?_) (fun h => absurd (by decide) h)
  exact xx_vret dX9_changed_294 rfl ⟨rfl, by omega, h4_12, h6_12, h10_12, h12, g12, fun q h1 h2 h3 h4 h5 => by rw [o12 q (by omega) (by omega), o11 q (by omega), o10 q (by omega), o9 q (by omega) (by omega), o8 q (by omega), o7 q (by omega), o6 q (by omega), o5 q (by omega), o4 q (by omega), o3 q (by omega), o2 q (by omega), o1 q (by omega)]⟩
set_option maxRecDepth 100000 in
theorem l_X9_g1 {G : xx_G} {l : Launch} {A : xx_H} {c a o t : Nat} {u0 u10 u11 u15 u16 u27 : Value} {Q : Option Value ⊕ String → xx_H → Prop} (hc : c < a) (hb : A.2 c = xx_o 9 [u0, .ref a, .ref (a + 1), .ref (a + 2), .int (nI o), .int (nI t), .ref (a + 3), .ref (a + 4), .ref (a + 5), .ref (a + 6), u10, u11, .ref (a + 7), .ref (a + 8), .ref (a + 9), u15, u16, .ref (a + 10), .ref (a + 11), .ref (a + 12), .ref (a + 13), .ref (a + 14), .ref (a + 15), .ref (a + 16), .ref (a + 17), .ref (a + 18), .ref (a + 19), u27, .ref (a + 20)]) (k : ∀ (B : xx_H) (f g : Nat → Int32), B.1 = A.1 → B.2 (a + 3) = xx_i 72 f → B.2 (a + 4) = xx_i 72 g → (∀ j, j < 72 → f j = 0) → (∀ j, j < 72 → g j = 1) → (∀ q, q ≠ a + 3 → q ≠ a + 4 → B.2 q = A.2 q) → xx_X G l mX9_game 2 0 0 75 [(0, .ref c), (1, .int (nI o)), (2, .int (nI t)), (3, .int (nI 72))] [] B Q) :
    ∀ (r i : Nat), i + r = 72 → ∀ (B : xx_H) (f g : Nat → Int32), B.1 = A.1 → B.2 (a + 3) = xx_i 72 f → B.2 (a + 4) = xx_i 72 g → (∀ j, j < i → f j = 0) → (∀ j, j < i → g j = 1) → (∀ q, q ≠ a + 3 → q ≠ a + 4 → B.2 q = A.2 q) → xx_X G l mX9_game 2 0 0 49 [(0, .ref c), (1, .int (nI o)), (2, .int (nI t)), (3, .int (nI i))] [] B Q := by
  intro r
  induction r with
  | zero =>
    intro i hi B f g hz hf hg ef eg hfr
    have : i = 72 := by omega
    subst this
    refine xx_iload_n dX9_game_49 rfl ?_
    refine xx_bipush (v := 72) dX9_game_50 (by decide) ?_
    refine xx_icmp_ge (tgt := 75) dX9_game_52 (by decide) (fun j52 => ?_) (fun h => absurd (Int32.le_refl _) h)
    exact k B f g hz hf hg ef eg hfr
  | succ r ih =>
    intro i hi B f g hz hf hg ef eg hfr
    have hb2 := (hfr c (by omega) (by omega)).trans hb
    refine xx_iload_n dX9_game_49 rfl ?_
    refine xx_bipush (v := 72) dX9_game_50 (by decide) ?_
    refine xx_icmp_ge (tgt := 75) dX9_game_52 (by decide) (fun h => absurd h (nI_ge (b := 72) (by omega) (by omega))) (fun j52 => ?_)
    refine xx_aload_n dX9_game_55 rfl ?_
    refine xx_get xx_c9 dX9_game_56 wf_X9_20 (j := 6) (by decide) hb2 rfl ?_
    refine xx_iload_n dX9_game_59 rfl ?_
    refine xx_iconst (v := 0) dX9_game_60 (by decide) ?_
    refine xx_iast dX9_game_61 hf (vp_in_nI (by omega) (by decide)) (xx_gu fun A1 z1 h1 o1 => ?_)
    rw [nI_clamp (by omega)] at h1
    have h1 : A1.2 (a + 3) = xx_i 72 (upd f i 0) := h1
    have hb2_1 := (o1 c (by omega)).trans hb2
    have hg_1 := (o1 (a + 4) (by omega)).trans hg
    refine xx_aload_n dX9_game_62 rfl ?_
    refine xx_get xx_c9 dX9_game_63 wf_X9_23 (j := 7) (by decide) hb2_1 rfl ?_
    refine xx_iload_n dX9_game_66 rfl ?_
    refine xx_iconst (v := 1) dX9_game_67 (by decide) ?_
    refine xx_iast dX9_game_68 hg_1 (vp_in_nI (by omega) (by decide)) (xx_gu fun A2 z2 h2 o2 => ?_)
    rw [nI_clamp (by omega)] at h2
    have h2 : A2.2 (a + 4) = xx_i 72 (upd g i 1) := h2
    have hb2_2 := (o2 c (by omega)).trans hb2_1
    have h1_2 := (o2 (a + 3) (by omega)).trans h1
    refine xx_iinc (v := nI (i + 1)) dX9_game_69 rfl (nI_1 i) (by decide) ?_
    refine xx_goto (tgt := 49) dX9_game_72 (by decide) ?_
    refine xx_clv (lv2 := [(0, .ref c), (1, .int (nI o)), (2, .int (nI t)), (3, .int (nI (i + 1)))]) rfl ?_
    refine ih (i + 1) (by omega) _ (upd f i 0) (upd g i 1) (by omega) h1_2 h2 (fun j hj => ?_) (fun j hj => ?_) (fun q h1 h2 => by rw [o2 q (by omega), o1 q (by omega)]; exact hfr q h1 h2)
    · by_cases e : j = i
      · subst e; rw [pk_us]
      · rw [pk_un e]; exact ef j (by omega)
    · by_cases e : j = i
      · subst e; rw [pk_us]
      · rw [pk_un e]; exact eg j (by omega)
set_option maxRecDepth 100000 in
theorem l_X9_g2 {G : xx_G} {l : Launch} {A : xx_H} {c a o t : Nat} {u0 u10 u11 u15 u16 u27 : Value} {Q : Option Value ⊕ String → xx_H → Prop} (hc : c < a) (hb : A.2 c = xx_o 9 [u0, .ref a, .ref (a + 1), .ref (a + 2), .int (nI o), .int (nI t), .ref (a + 3), .ref (a + 4), .ref (a + 5), .ref (a + 6), u10, u11, .ref (a + 7), .ref (a + 8), .ref (a + 9), u15, u16, .ref (a + 10), .ref (a + 11), .ref (a + 12), .ref (a + 13), .ref (a + 14), .ref (a + 15), .ref (a + 16), .ref (a + 17), .ref (a + 18), .ref (a + 19), u27, .ref (a + 20)]) (k : ∀ (B : xx_H) (f g : Nat → Int32), B.1 = A.1 → B.2 (a + 5) = xx_i 12 f → B.2 (a + 6) = xx_i 12 g → (∀ j, j < 12 → f j = 0) → (∀ j, j < 12 → g j = 1) → (∀ q, q ≠ a + 5 → q ≠ a + 6 → B.2 q = A.2 q) → xx_X G l mX9_game 2 0 0 103 [(0, .ref c), (1, .int (nI o)), (2, .int (nI t)), (3, .int (nI 12))] [] B Q) :
    ∀ (r i : Nat), i + r = 12 → ∀ (B : xx_H) (f g : Nat → Int32), B.1 = A.1 → B.2 (a + 5) = xx_i 12 f → B.2 (a + 6) = xx_i 12 g → (∀ j, j < i → f j = 0) → (∀ j, j < i → g j = 1) → (∀ q, q ≠ a + 5 → q ≠ a + 6 → B.2 q = A.2 q) → xx_X G l mX9_game 2 0 0 77 [(0, .ref c), (1, .int (nI o)), (2, .int (nI t)), (3, .int (nI i))] [] B Q := by
  intro r
  induction r with
  | zero =>
    intro i hi B f g hz hf hg ef eg hfr
    have : i = 12 := by omega
    subst this
    refine xx_iload_n dX9_game_77 rfl ?_
    refine xx_bipush (v := 12) dX9_game_78 (by decide) ?_
    refine xx_icmp_ge (tgt := 103) dX9_game_80 (by decide) (fun j80 => ?_) (fun h => absurd (Int32.le_refl _) h)
    exact k B f g hz hf hg ef eg hfr
  | succ r ih =>
    intro i hi B f g hz hf hg ef eg hfr
    have hb2 := (hfr c (by omega) (by omega)).trans hb
    refine xx_iload_n dX9_game_77 rfl ?_
    refine xx_bipush (v := 12) dX9_game_78 (by decide) ?_
    refine xx_icmp_ge (tgt := 103) dX9_game_80 (by decide) (fun h => absurd h (nI_ge (b := 12) (by omega) (by omega))) (fun j80 => ?_)
    refine xx_aload_n dX9_game_83 rfl ?_
    refine xx_get xx_c9 dX9_game_84 wf_X9_26 (j := 8) (by decide) hb2 rfl ?_
    refine xx_iload_n dX9_game_87 rfl ?_
    refine xx_iconst (v := 0) dX9_game_88 (by decide) ?_
    refine xx_iast dX9_game_89 hf (vp_in_nI (by omega) (by decide)) (xx_gu fun A1 z1 h1 o1 => ?_)
    rw [nI_clamp (by omega)] at h1
    have h1 : A1.2 (a + 5) = xx_i 12 (upd f i 0) := h1
    have hb2_1 := (o1 c (by omega)).trans hb2
    have hg_1 := (o1 (a + 6) (by omega)).trans hg
    refine xx_aload_n dX9_game_90 rfl ?_
    refine xx_get xx_c9 dX9_game_91 wf_X9_29 (j := 9) (by decide) hb2_1 rfl ?_
    refine xx_iload_n dX9_game_94 rfl ?_
    refine xx_iconst (v := 1) dX9_game_95 (by decide) ?_
    refine xx_iast dX9_game_96 hg_1 (vp_in_nI (by omega) (by decide)) (xx_gu fun A2 z2 h2 o2 => ?_)
    rw [nI_clamp (by omega)] at h2
    have h2 : A2.2 (a + 6) = xx_i 12 (upd g i 1) := h2
    have hb2_2 := (o2 c (by omega)).trans hb2_1
    have h1_2 := (o2 (a + 5) (by omega)).trans h1
    refine xx_iinc (v := nI (i + 1)) dX9_game_97 rfl (nI_1 i) (by decide) ?_
    refine xx_goto (tgt := 77) dX9_game_100 (by decide) ?_
    refine xx_clv (lv2 := [(0, .ref c), (1, .int (nI o)), (2, .int (nI t)), (3, .int (nI (i + 1)))]) rfl ?_
    refine ih (i + 1) (by omega) _ (upd f i 0) (upd g i 1) (by omega) h1_2 h2 (fun j hj => ?_) (fun j hj => ?_) (fun q h1 h2 => by rw [o2 q (by omega), o1 q (by omega)]; exact hfr q h1 h2)
    · by_cases e : j = i
      · subst e; rw [pk_us]
      · rw [pk_un e]; exact ef j (by omega)
    · by_cases e : j = i
      · subst e; rw [pk_us]
      · rw [pk_un e]; exact eg j (by omega)
theorem yy_rl01 (p : Nat) : ∀ k, yy_rl (fun _ => 0) (fun _ => 1) p k = 1
  | 0 => rfl
  | k + 1 => by
    rw [yy_rl, yy_rl01 p k]
    show (1 : Int64) / yy_g 1 ((1 : Int32).toInt64 / yy_g (0 : Int32).toInt64 (1 : Int32).toInt64) * ((1 : Int32).toInt64 / yy_g (0 : Int32).toInt64 (1 : Int32).toInt64) = 1
    decide
theorem yy_ok01 (p : Nat) : yy_ok (fun _ => 0) (fun _ => 1) p := fun k hk => by
  rw [yy_rl01]
  refine ⟨?_, ?_, ?_⟩
  · show ¬ yy_g (0 : Int32).toInt64 (1 : Int32).toInt64 = 0
    decide
  · show ¬ yy_g 1 ((1 : Int32).toInt64 / yy_g (0 : Int32).toInt64 (1 : Int32).toInt64) = 0
    decide
  · show ¬ (1 : Int32).toInt64 = 0
    decide
abbrev yy_s0 (t o : Nat) (wh : Nat → Int64) : (Nat → Int64) × Int64 := yy_ro (fun _ => 0) (fun _ => 1) 1 0 t o (wh, 9223372036854775807)
abbrev yy_s1 (t o : Nat) (wh : Nat → Int64) : (Nat → Int64) × Int64 := yy_ro (fun _ => 0) (fun _ => 1) 1 1 t o ((yy_s0 t o wh).1, 9223372036854775807)
set_option maxRecDepth 100000 in
theorem c_X9_game {G : xx_G} {l : Launch} {A : xx_H} {c a o t : Nat} {u0 u10 u11 u15 u16 u27 : Value} {m0 n0 : Int32} {f3 f4 f5 f6 th : Nat → Int32} {mu wh le : Nat → Int64} (hc : c < a) (ho1 : 1 ≤ o) (ho : o ≤ 6) (ht1 : 1 ≤ t) (ht : t ≤ 6) (hb : A.2 c = xx_o 9 [u0, .ref a, .ref (a + 1), .ref (a + 2), .int m0, .int n0, .ref (a + 3), .ref (a + 4), .ref (a + 5), .ref (a + 6), u10, u11, .ref (a + 7), .ref (a + 8), .ref (a + 9), u15, u16, .ref (a + 10), .ref (a + 11), .ref (a + 12), .ref (a + 13), .ref (a + 14), .ref (a + 15), .ref (a + 16), .ref (a + 17), .ref (a + 18), .ref (a + 19), u27, .ref (a + 20)]) (gh3 : A.2 (a + 3) = xx_i 72 f3) (gh4 : A.2 (a + 4) = xx_i 72 f4) (gh5 : A.2 (a + 5) = xx_i 12 f5) (gh6 : A.2 (a + 6) = xx_i 12 f6) (ghth : A.2 (a + 12) = xx_z 12 th) (ghmu : A.2 (a + 13) = xx_l 2 mu) (ghwh : A.2 (a + 14) = xx_l 72 wh) (ghle : A.2 (a + 15) = xx_l 2 le) :
    xx_X G l mX9_game 2 0 0 0 (lv_args 0 [.ref c, .int (nI o), .int (nI t)]) [] A (fun r B => r = .inl none ∧ B.1 = A.1 ∧ B.2 c = xx_o 9 [.int 0, .ref a, .ref (a + 1), .ref (a + 2), .int (nI o), .int (nI t), .ref (a + 3), .ref (a + 4), .ref (a + 5), .ref (a + 6), .int (-1), .int 0, .ref (a + 7), .ref (a + 8), .ref (a + 9), .int 0, .int 0, .ref (a + 10), .ref (a + 11), .ref (a + 12), .ref (a + 13), .ref (a + 14), .ref (a + 15), .ref (a + 16), .ref (a + 17), .ref (a + 18), .ref (a + 19), u27, .ref (a + 20)] ∧ B.2 (a + 3) = xx_i 72 (fun _ => 0) ∧ B.2 (a + 4) = xx_i 72 (fun _ => 1) ∧ B.2 (a + 5) = xx_i 12 (fun _ => 0) ∧ B.2 (a + 6) = xx_i 12 (fun _ => 1) ∧ B.2 (a + 12) = xx_z 12 (fun _ => 1) ∧ B.2 (a + 13) = xx_l 2 (vp_updL (vp_updL mu 0 1) 1 1) ∧ B.2 (a + 14) = xx_l 72 (yy_s1 t o wh).1 ∧ B.2 (a + 15) = xx_l 2 (vp_updL (vp_updL le 0 (yy_s0 t o wh).2) 1 (yy_s1 t o wh).2) ∧ ∀ q, q ≠ c → ¬ (a ≤ q ∧ q < a + 21) → B.2 q = A.2 q) := by
  have i1 : ∀ k : Nat, 1 ≤ k → k ≤ 6 → xx_inn (nI k) 1 6 = 1 := by
    intro k k1 k2
    have : ∀ k : Nat, k < 7 → 1 ≤ k → xx_inn (nI k) 1 6 = 1 := by decide
    exact this k (by omega) k1
  refine xx_clv (lv2 := [(0, .ref c), (1, .int (nI o)), (2, .int (nI t))]) rfl ?_
  refine xx_aload_n dX9_game_0 rfl ?_
  refine xx_iload_n dX9_game_1 rfl ?_
  refine xx_iconst (v := 1) dX9_game_2 (by decide) ?_
  refine xx_bipush (v := 6) dX9_game_3 (by decide) ?_
  refine xx_callS (N := mX9_in) (vs := [.int (nI o), .int 1, .int 6]) (rest := [.ref c]) (d2 := 0) (c2 := 0) (s2 := 0) (c3 := 0) (s3 := 0) dX9_game_5 wm_X9_116 ws_X9_in wz_X9 (by decide) nX9_in ⟨pX9_in, Nat.le_of_ble_eq_true rfl, by decide, Nat.le_of_ble_eq_true rfl, by decide, by decide⟩ c_X9_in (fun v B hC => ?_) (fun E B hC => absurd hC.1 (by simp))
  obtain ⟨hv, rfl⟩ := hC
  cases hv
  refine xx_cst (st2 := [.int (xx_inn (nI o) 1 6), .ref c]) rfl ?_
  refine xx_eqi (y := 1) (i1 o (by omega) (by omega)) ?_
  refine xx_if_eq (tgt := 25) dX9_game_8 (by decide) (fun h => absurd h (by decide)) (fun j8 => ?_)
  refine xx_iload_n dX9_game_11 rfl ?_
  refine xx_iconst (v := 1) dX9_game_12 (by decide) ?_
  refine xx_bipush (v := 6) dX9_game_13 (by decide) ?_
  refine xx_callS (N := mX9_in) (vs := [.int (nI t), .int 1, .int 6]) (rest := [.ref c]) (d2 := 0) (c2 := 0) (s2 := 0) (c3 := 0) (s3 := 0) dX9_game_15 wm_X9_116 ws_X9_in wz_X9 (by decide) nX9_in ⟨pX9_in, Nat.le_of_ble_eq_true rfl, by decide, Nat.le_of_ble_eq_true rfl, by decide, by decide⟩ c_X9_in (fun v B hC => ?_) (fun E B hC => absurd hC.1 (by simp))
  obtain ⟨hv, rfl⟩ := hC
  cases hv
  refine xx_cst (st2 := [.int (xx_inn (nI t) 1 6), .ref c]) rfl ?_
  refine xx_eqi (y := 1) (i1 t (by omega) (by omega)) ?_
  refine xx_if_eq (tgt := 25) dX9_game_18 (by decide) (fun h => absurd h (by decide)) (fun j18 => ?_)
  refine xx_iconst (v := 0) dX9_game_21 (by decide) ?_
  refine xx_goto (tgt := 26) dX9_game_22 (by decide) ?_
  refine xx_put xx_c9 dX9_game_26 wf_X9_84 (j := 0) (by decide) rfl rfl rfl hb (Nat.le_of_ble_eq_true rfl) (xx_gu fun A1 z1 h1 o1 => ?_)
  have h1 : A1.2 c = xx_o 9 [.int 0, .ref a, .ref (a + 1), .ref (a + 2), .int m0, .int n0, .ref (a + 3), .ref (a + 4), .ref (a + 5), .ref (a + 6), u10, u11, .ref (a + 7), .ref (a + 8), .ref (a + 9), u15, u16, .ref (a + 10), .ref (a + 11), .ref (a + 12), .ref (a + 13), .ref (a + 14), .ref (a + 15), .ref (a + 16), .ref (a + 17), .ref (a + 18), .ref (a + 19), u27, .ref (a + 20)] := h1
  have gh3_1 := (o1 (a + 3) (by omega)).trans gh3
  have gh4_1 := (o1 (a + 4) (by omega)).trans gh4
  have gh5_1 := (o1 (a + 5) (by omega)).trans gh5
  have gh6_1 := (o1 (a + 6) (by omega)).trans gh6
  have ghth_1 := (o1 (a + 12) (by omega)).trans ghth
  have ghmu_1 := (o1 (a + 13) (by omega)).trans ghmu
  have ghwh_1 := (o1 (a + 14) (by omega)).trans ghwh
  have ghle_1 := (o1 (a + 15) (by omega)).trans ghle
  refine xx_aload_n dX9_game_29 rfl ?_
  refine xx_get xx_c9 dX9_game_30 wf_X9_84 (j := 0) (by decide) h1 rfl ?_
  refine xx_if_le (tgt := 37) dX9_game_33 (by decide) (fun j33 => ?_) (fun h => absurd (by decide) h)
  refine xx_aload_n dX9_game_37 rfl ?_
  refine xx_iload_n dX9_game_38 rfl ?_
  refine xx_put xx_c9 dX9_game_39 wf_X9_120 (j := 4) (by decide) rfl rfl rfl h1 (Nat.le_of_ble_eq_true rfl) (xx_gu fun A2 z2 h2 o2 => ?_)
  have h2 : A2.2 c = xx_o 9 [.int 0, .ref a, .ref (a + 1), .ref (a + 2), .int (nI o), .int n0, .ref (a + 3), .ref (a + 4), .ref (a + 5), .ref (a + 6), u10, u11, .ref (a + 7), .ref (a + 8), .ref (a + 9), u15, u16, .ref (a + 10), .ref (a + 11), .ref (a + 12), .ref (a + 13), .ref (a + 14), .ref (a + 15), .ref (a + 16), .ref (a + 17), .ref (a + 18), .ref (a + 19), u27, .ref (a + 20)] := h2
  have gh3_2 := (o2 (a + 3) (by omega)).trans gh3_1
  have gh4_2 := (o2 (a + 4) (by omega)).trans gh4_1
  have gh5_2 := (o2 (a + 5) (by omega)).trans gh5_1
  have gh6_2 := (o2 (a + 6) (by omega)).trans gh6_1
  have ghth_2 := (o2 (a + 12) (by omega)).trans ghth_1
  have ghmu_2 := (o2 (a + 13) (by omega)).trans ghmu_1
  have ghwh_2 := (o2 (a + 14) (by omega)).trans ghwh_1
  have ghle_2 := (o2 (a + 15) (by omega)).trans ghle_1
  refine xx_aload_n dX9_game_42 rfl ?_
  refine xx_iload_n dX9_game_43 rfl ?_
  refine xx_put xx_c9 dX9_game_44 wf_X9_123 (j := 5) (by decide) rfl rfl rfl h2 (Nat.le_of_ble_eq_true rfl) (xx_gu fun A3 z3 h3 o3 => ?_)
  have h3 : A3.2 c = xx_o 9 [.int 0, .ref a, .ref (a + 1), .ref (a + 2), .int (nI o), .int (nI t), .ref (a + 3), .ref (a + 4), .ref (a + 5), .ref (a + 6), u10, u11, .ref (a + 7), .ref (a + 8), .ref (a + 9), u15, u16, .ref (a + 10), .ref (a + 11), .ref (a + 12), .ref (a + 13), .ref (a + 14), .ref (a + 15), .ref (a + 16), .ref (a + 17), .ref (a + 18), .ref (a + 19), u27, .ref (a + 20)] := h3
  have gh3_3 := (o3 (a + 3) (by omega)).trans gh3_2
  have gh4_3 := (o3 (a + 4) (by omega)).trans gh4_2
  have gh5_3 := (o3 (a + 5) (by omega)).trans gh5_2
  have gh6_3 := (o3 (a + 6) (by omega)).trans gh6_2
  have ghth_3 := (o3 (a + 12) (by omega)).trans ghth_2
  have ghmu_3 := (o3 (a + 13) (by omega)).trans ghmu_2
  have ghwh_3 := (o3 (a + 14) (by omega)).trans ghwh_2
  have ghle_3 := (o3 (a + 15) (by omega)).trans ghle_2
  refine xx_iconst (v := 0) dX9_game_47 (by decide) ?_
  refine xx_istore_n dX9_game_48 (by decide) ?_
  refine xx_clv (lv2 := [(0, .ref c), (1, .int (nI o)), (2, .int (nI t)), (3, .int 0)]) rfl ?_
  refine xx_clv (lv2 := [(0, .ref c), (1, .int (nI o)), (2, .int (nI t)), (3, .int (nI 0))]) rfl ?_
  refine l_X9_g1 (A := A3) hc h3 (fun A4 f4 g4 z4 h4 k4 p4 q4 o4 => ?_) 72 0 (by omega) A3 _ _ rfl gh3_3 gh4_3 (fun j hj => absurd hj (Nat.not_lt_zero j)) (fun j hj => absurd hj (Nat.not_lt_zero j)) (fun q _ _ => rfl)
  have h3_4 := (o4 c (by omega) (by omega)).trans h3
  have gh5_4 := (o4 (a + 5) (by omega) (by omega)).trans gh5_3
  have gh6_4 := (o4 (a + 6) (by omega) (by omega)).trans gh6_3
  have ghth_4 := (o4 (a + 12) (by omega) (by omega)).trans ghth_3
  have ghmu_4 := (o4 (a + 13) (by omega) (by omega)).trans ghmu_3
  have ghwh_4 := (o4 (a + 14) (by omega) (by omega)).trans ghwh_3
  have ghle_4 := (o4 (a + 15) (by omega) (by omega)).trans ghle_3
  refine xx_re (fun _ => 0) h4 p4 (fun A5 z5 h5 o5 => ?_)
  have h3_5 := (o5 c (by omega)).trans h3_4
  have k4_5 := (o5 (a + 4) (by omega)).trans k4
  have gh5_5 := (o5 (a + 5) (by omega)).trans gh5_4
  have gh6_5 := (o5 (a + 6) (by omega)).trans gh6_4
  have ghth_5 := (o5 (a + 12) (by omega)).trans ghth_4
  have ghmu_5 := (o5 (a + 13) (by omega)).trans ghmu_4
  have ghwh_5 := (o5 (a + 14) (by omega)).trans ghwh_4
  have ghle_5 := (o5 (a + 15) (by omega)).trans ghle_4
  refine xx_re (fun _ => 1) k4_5 q4 (fun A6 z6 h6 o6 => ?_)
  have h3_6 := (o6 c (by omega)).trans h3_5
  have h5_6 := (o6 (a + 3) (by omega)).trans h5
  have gh5_6 := (o6 (a + 5) (by omega)).trans gh5_5
  have gh6_6 := (o6 (a + 6) (by omega)).trans gh6_5
  have ghth_6 := (o6 (a + 12) (by omega)).trans ghth_5
  have ghmu_6 := (o6 (a + 13) (by omega)).trans ghmu_5
  have ghwh_6 := (o6 (a + 14) (by omega)).trans ghwh_5
  have ghle_6 := (o6 (a + 15) (by omega)).trans ghle_5
  refine xx_iconst (v := 0) dX9_game_75 (by decide) ?_
  refine xx_istore_n dX9_game_76 (by decide) ?_
  refine xx_clv (lv2 := [(0, .ref c), (1, .int (nI o)), (2, .int (nI t)), (3, .int 0)]) rfl ?_
  refine xx_clv (lv2 := [(0, .ref c), (1, .int (nI o)), (2, .int (nI t)), (3, .int (nI 0))]) rfl ?_
  refine l_X9_g2 (A := A6) hc h3_6 (fun A7 f7 g7 z7 h7 k7 p7 q7 o7 => ?_) 12 0 (by omega) A6 _ _ rfl gh5_6 gh6_6 (fun j hj => absurd hj (Nat.not_lt_zero j)) (fun j hj => absurd hj (Nat.not_lt_zero j)) (fun q _ _ => rfl)
  have h3_7 := (o7 c (by omega) (by omega)).trans h3_6
  have h5_7 := (o7 (a + 3) (by omega) (by omega)).trans h5_6
  have h6_7 := (o7 (a + 4) (by omega) (by omega)).trans h6
  have ghth_7 := (o7 (a + 12) (by omega) (by omega)).trans ghth_6
  have ghmu_7 := (o7 (a + 13) (by omega) (by omega)).trans ghmu_6
  have ghwh_7 := (o7 (a + 14) (by omega) (by omega)).trans ghwh_6
  have ghle_7 := (o7 (a + 15) (by omega) (by omega)).trans ghle_6
  refine xx_re (fun _ => 0) h7 p7 (fun A8 z8 h8 o8 => ?_)
  have h3_8 := (o8 c (by omega)).trans h3_7
  have h5_8 := (o8 (a + 3) (by omega)).trans h5_7
  have h6_8 := (o8 (a + 4) (by omega)).trans h6_7
  have k7_8 := (o8 (a + 6) (by omega)).trans k7
  have ghth_8 := (o8 (a + 12) (by omega)).trans ghth_7
  have ghmu_8 := (o8 (a + 13) (by omega)).trans ghmu_7
  have ghwh_8 := (o8 (a + 14) (by omega)).trans ghwh_7
  have ghle_8 := (o8 (a + 15) (by omega)).trans ghle_7
  refine xx_re (fun _ => 1) k7_8 q7 (fun A9 z9 h9 o9 => ?_)
  have h3_9 := (o9 c (by omega)).trans h3_8
  have h5_9 := (o9 (a + 3) (by omega)).trans h5_8
  have h6_9 := (o9 (a + 4) (by omega)).trans h6_8
  have h8_9 := (o9 (a + 5) (by omega)).trans h8
  have ghth_9 := (o9 (a + 12) (by omega)).trans ghth_8
  have ghmu_9 := (o9 (a + 13) (by omega)).trans ghmu_8
  have ghwh_9 := (o9 (a + 14) (by omega)).trans ghwh_8
  have ghle_9 := (o9 (a + 15) (by omega)).trans ghle_8
  refine xx_aload_n dX9_game_103 rfl ?_
  refine xx_callV (N := mX9_changed) (vs := []) (b := c) (rest := []) (d2 := 1) (c2 := 0) (s2 := 0) (c3 := 0) (s3 := 0) dX9_game_104 wm_X9_126 wi_X9_changed wv_X9_changed (k := 9) rfl (by decide) h3_9 nX9_changed ⟨pX9_changed, Nat.le_of_ble_eq_true rfl, by decide, Nat.le_of_ble_eq_true rfl, by decide, by decide⟩ (c_X9_changed hc ho ht (yy_ok01 0) (yy_ok01 1) h3_9 h5_9 h6_9 ghth_9 ghmu_9 ghwh_9 ghle_9) (fun v A10 hC => ?_) (fun E A10 hC => absurd hC.1 (by simp))
  obtain ⟨hv, z10, ka, kb, kc, kd, ke, fr10⟩ := hC
  cases hv
  rw [yy_rl01, yy_rl01] at kc ke kd
  have v3 := (fr10 (a + 3) (by omega) (by omega) (by omega) (by omega) (by omega)).trans h5_9
  have v4 := (fr10 (a + 4) (by omega) (by omega) (by omega) (by omega) (by omega)).trans h6_9
  have v5 := (fr10 (a + 5) (by omega) (by omega) (by omega) (by omega) (by omega)).trans h8_9
  have v6 := (fr10 (a + 6) (by omega) (by omega) (by omega) (by omega) (by omega)).trans h9
  refine xx_cst (st2 := []) rfl ?_
  exact xx_vret dX9_game_107 rfl ⟨rfl, by omega, ka, v3, v4, v5, v6, kb, kc, kd, ke, fun q h1 h2 => by rw [fr10 q (by omega) (by omega) (by omega) (by omega) (by omega), o9 q (by omega), o8 q (by omega), o7 q (by omega) (by omega), o6 q (by omega), o5 q (by omega), o4 q (by omega) (by omega), o3 q (by omega), o2 q (by omega), o1 q (by omega)]⟩
set_option maxRecDepth 100000 in
theorem r_X9_game {G : xx_G} {l : Launch} {A : xx_H} {b : Nat} {u0 u1 u2 u3 u4 u5 u6 u7 u8 u9 u10 u11 u12 u13 u14 u15 u16 u17 u18 u19 u20 u21 u22 u23 u24 u25 u26 u27 u28 : Value} {p0 p1 : Int32} (hg : xx_inn p0 1 6 = 0 ∨ xx_inn p1 1 6 = 0) (hb : A.2 b = xx_o 9 [u0, u1, u2, u3, u4, u5, u6, u7, u8, u9, u10, u11, u12, u13, u14, u15, u16, u17, u18, u19, u20, u21, u22, u23, u24, u25, u26, u27, u28]) : xx_X G l mX9_game 2 0 0 0 (lv_args 0 [.ref b, .int p0, .int p1]) [] A (xx_r1 none b [.int 1, u1, u2, u3, u4, u5, u6, u7, u8, u9, u10, u11, u12, u13, u14, u15, u16, u17, u18, u19, u20, u21, u22, u23, u24, u25, u26, u27, u28] A) := by
  refine xx_clv (lv2 := [(0, .ref b), (1, .int p0), (2, .int p1)]) rfl ?_
  refine xx_aload_n dX9_game_0 rfl ?_
  refine xx_iload_n dX9_game_1 rfl ?_
  refine xx_iconst (v := 1) dX9_game_2 (by decide) ?_
  refine xx_bipush (v := 6) dX9_game_3 (by decide) ?_
  refine xx_callS (N := mX9_in) (vs := [.int p0, .int 1, .int 6]) (rest := [.ref b]) (d2 := 0) (c2 := 0) (s2 := 0) (c3 := 0) (s3 := 0) dX9_game_5 wm_X9_116 ws_X9_in wz_X9 (by decide) nX9_in ⟨pX9_in, Nat.le_of_ble_eq_true rfl, by decide, Nat.le_of_ble_eq_true rfl, by decide, by decide⟩ c_X9_in (fun v B hC => ?_) (fun E B hC => absurd hC.1 (by simp))
  obtain ⟨hv, rfl⟩ := hC
  cases hv
  refine xx_cst (st2 := [.int (xx_inn p0 1 6), .ref b]) rfl ?_
  refine xx_if_eq (tgt := 25) dX9_game_8 (by decide) (fun j8 => ?_) (fun j8 => ?_)
  · refine xx_iconst (v := 1) dX9_game_25 (by decide) ?_
    refine xx_put xx_c9 dX9_game_26 wf_X9_84 (j := 0) (by decide) rfl rfl rfl hb (Nat.le_of_ble_eq_true rfl) (xx_gu fun A2 z2 h2 o2 => ?_)
    have h2 : A2.2 b = xx_o 9 [.int 1, u1, u2, u3, u4, u5, u6, u7, u8, u9, u10, u11, u12, u13, u14, u15, u16, u17, u18, u19, u20, u21, u22, u23, u24, u25, u26, u27, u28] := h2
    refine xx_aload_n dX9_game_29 rfl ?_
    refine xx_get xx_c9 dX9_game_30 wf_X9_84 (j := 0) (by decide) h2 rfl ?_
    refine xx_if_le (tgt := 37) dX9_game_33 (by decide) (fun h => absurd h (by decide)) (fun j33 => ?_)
    exact xx_vret dX9_game_36 rfl ⟨rfl, by rw [z2], h2, fun q hq => by rw [o2 q hq]⟩
  · refine xx_iload_n dX9_game_11 rfl ?_
    refine xx_iconst (v := 1) dX9_game_12 (by decide) ?_
    refine xx_bipush (v := 6) dX9_game_13 (by decide) ?_
    refine xx_callS (N := mX9_in) (vs := [.int p1, .int 1, .int 6]) (rest := [.ref b]) (d2 := 0) (c2 := 0) (s2 := 0) (c3 := 0) (s3 := 0) dX9_game_15 wm_X9_116 ws_X9_in wz_X9 (by decide) nX9_in ⟨pX9_in, Nat.le_of_ble_eq_true rfl, by decide, Nat.le_of_ble_eq_true rfl, by decide, by decide⟩ c_X9_in (fun v B hC => ?_) (fun E B hC => absurd hC.1 (by simp))
    obtain ⟨hv, rfl⟩ := hC
    cases hv
    refine xx_cst (st2 := [.int (xx_inn p1 1 6), .ref b]) rfl ?_
    refine xx_if_eq (tgt := 25) dX9_game_18 (by decide) (fun j18 => ?_) (fun j18 => ?_)
    · refine xx_iconst (v := 1) dX9_game_25 (by decide) ?_
      refine xx_put xx_c9 dX9_game_26 wf_X9_84 (j := 0) (by decide) rfl rfl rfl hb (Nat.le_of_ble_eq_true rfl) (xx_gu fun A3 z3 h3 o3 => ?_)
      have h3 : A3.2 b = xx_o 9 [.int 1, u1, u2, u3, u4, u5, u6, u7, u8, u9, u10, u11, u12, u13, u14, u15, u16, u17, u18, u19, u20, u21, u22, u23, u24, u25, u26, u27, u28] := h3
      refine xx_aload_n dX9_game_29 rfl ?_
      refine xx_get xx_c9 dX9_game_30 wf_X9_84 (j := 0) (by decide) h3 rfl ?_
      refine xx_if_le (tgt := 37) dX9_game_33 (by decide) (fun h => absurd h (by decide)) (fun j33 => ?_)
      exact xx_vret dX9_game_36 rfl ⟨rfl, by rw [z3], h3, fun q hq => by rw [o3 q hq]⟩
    · exact absurd hg (fun q => q.elim j8 j18)
