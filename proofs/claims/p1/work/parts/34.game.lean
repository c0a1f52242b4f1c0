/-! ===== game with good sizes ===== -/
theorem yy_lcm_one : yy_lcm (fun _ => 1) 36 = 1 := by decide +kernel
abbrev yy_w0 (t o : Nat) (w : Nat → Int32) : (Nat → Int32) × Int32 := xx_wo (fun _ => 0) (fun _ => 1) 1 t o (w, 2147483647)
set_option maxRecDepth 100000 in
theorem c_X4_reset {G : xx_G} {l : Launch} {A : xx_H} {p ra rb rw o t : Nat} {a b w : Nat → Int32} {x y m0 le0 : Int32} (ho : o ≤ 6) (ht : t ≤ 6) (nab : ra ≠ rb) (nwa : rw ≠ ra) (nwb : rw ≠ rb) (hp : A.2 p = xx_o 4 [.int x, .int y, .int m0, .int le0, .ref ra, .ref rb, .ref rw]) (ha : A.2 ra = xx_i 36 a) (hb : A.2 rb = xx_i 36 b) (hw : A.2 rw = xx_i 36 w) :
    xx_X G l mX4_reset 2 0 0 0 (lv_args 0 [.ref p, .int (nI o), .int (nI t)]) [] A (fun r B => r = .inl none ∧ B.1 = A.1 ∧ B.2 p = xx_o 4 [.int (nI o), .int (nI t), .int 1, .int (yy_w0 t o w).2, .ref ra, .ref rb, .ref rw] ∧ B.2 ra = xx_i 36 (fun _ => 0) ∧ B.2 rb = xx_i 36 (fun _ => 1) ∧ B.2 rw = xx_i 36 (yy_w0 t o w).1 ∧ ∀ q, q ≠ p → q ≠ ra → q ≠ rb → q ≠ rw → B.2 q = A.2 q) := by
  have npa := xx_oi hp ha
  have npb := xx_oi hp hb
  have npw := xx_oi hp hw
  refine xx_clv (lv2 := [(0, .ref p), (1, .int (nI o)), (2, .int (nI t))]) rfl ?_
  refine xx_aload_n dX4_reset_0 rfl ?_
  refine xx_iload_n dX4_reset_1 rfl ?_
  refine xx_put xx_c4 dX4_reset_2 wf_X4_9 (j := 0) (by decide) rfl rfl rfl hp (Nat.le_of_ble_eq_true rfl) (xx_gu fun A1 z1 h1 o1 => ?_)
  have h1 : A1.2 p = xx_o 4 [.int (nI o), .int y, .int m0, .int le0, .ref ra, .ref rb, .ref rw] := h1
  have ha_1 := (o1 ra (by omega)).trans ha
  have hb_1 := (o1 rb (by omega)).trans hb
  have hw_1 := (o1 rw (by omega)).trans hw
  refine xx_aload_n dX4_reset_5 rfl ?_
  refine xx_iload_n dX4_reset_6 rfl ?_
  refine xx_put xx_c4 dX4_reset_7 wf_X4_15 (j := 1) (by decide) rfl rfl rfl h1 (Nat.le_of_ble_eq_true rfl) (xx_gu fun A2 z2 h2 o2 => ?_)
  have h2 : A2.2 p = xx_o 4 [.int (nI o), .int (nI t), .int m0, .int le0, .ref ra, .ref rb, .ref rw] := h2
  have ha_2 := (o2 ra (by omega)).trans ha_1
  have hb_2 := (o2 rb (by omega)).trans hb_1
  have hw_2 := (o2 rw (by omega)).trans hw_1
  refine xx_aload_n dX4_reset_10 rfl ?_
  refine xx_get xx_c4 dX4_reset_11 wf_X4_24 (j := 4) (by decide) h2 rfl ?_
  refine xx_iconst (v := 0) dX4_reset_14 (by decide) ?_
  refine xx_callS (N := mJ7_fill) (vs := [.ref ra, .int 0]) (rest := []) (d2 := 0) (c2 := 0) (s2 := 0) (c3 := 0) (s3 := 0) dX4_reset_15 wm_X4_34 ws_J7_fill wz_J7 (by decide) nJ7_fill ⟨pJ7_fill, Nat.le_of_ble_eq_true rfl, by decide, Nat.le_of_ble_eq_true rfl, by decide, by decide⟩ (c_J7_fill (by decide) ha_2) (fun v A3 hC => ?_) (fun E A3 hC => absurd hC.1 (by simp))
  obtain ⟨hv, z3, ⟨g3, h3, e3⟩, o3⟩ := hC
  cases hv
  refine xx_cst (st2 := []) rfl ?_
  have h2_3 := (o3 p (by omega)).trans h2
  have hb_3 := (o3 rb (by omega)).trans hb_2
  have hw_3 := (o3 rw (by omega)).trans hw_2
  refine xx_re (fun _ => 0) h3 e3 (fun A4 z4 h4 o4 => ?_)
  have h2_4 := (o4 p (by omega)).trans h2_3
  have hb_4 := (o4 rb (by omega)).trans hb_3
  have hw_4 := (o4 rw (by omega)).trans hw_3
  refine xx_aload_n dX4_reset_18 rfl ?_
  refine xx_get xx_c4 dX4_reset_19 wf_X4_28 (j := 5) (by decide) h2_4 rfl ?_
  refine xx_iconst (v := 1) dX4_reset_22 (by decide) ?_
  refine xx_callS (N := mJ7_fill) (vs := [.ref rb, .int 1]) (rest := []) (d2 := 0) (c2 := 0) (s2 := 0) (c3 := 0) (s3 := 0) dX4_reset_23 wm_X4_34 ws_J7_fill wz_J7 (by decide) nJ7_fill ⟨pJ7_fill, Nat.le_of_ble_eq_true rfl, by decide, Nat.le_of_ble_eq_true rfl, by decide, by decide⟩ (c_J7_fill (by decide) hb_4) (fun v A5 hC => ?_) (fun E A5 hC => absurd hC.1 (by simp))
  obtain ⟨hv, z5, ⟨g5, h5, e5⟩, o5⟩ := hC
  cases hv
  refine xx_cst (st2 := []) rfl ?_
  have h2_5 := (o5 p (by omega)).trans h2_4
  have h4_5 := (o5 ra (by omega)).trans h4
  have hw_5 := (o5 rw (by omega)).trans hw_4
  refine xx_re (fun _ => 1) h5 e5 (fun A6 z6 h6 o6 => ?_)
  have h2_6 := (o6 p (by omega)).trans h2_5
  have h4_6 := (o6 ra (by omega)).trans h4_5
  have hw_6 := (o6 rw (by omega)).trans hw_5
  refine xx_aload_n dX4_reset_26 rfl ?_
  refine xx_callV (N := mX4_makeWhole) (vs := []) (b := p) (rest := []) (d2 := 1) (c2 := 0) (s2 := 0) (c3 := 0) (s3 := 0) dX4_reset_27 wm_X4_40 wi_X4_makeWhole wv_X4_makeWhole (k := 4) rfl (by decide) h2_6 nX4_makeWhole ⟨pX4_makeWhole, Nat.le_of_ble_eq_true rfl, by decide, Nat.le_of_ble_eq_true rfl, by decide, by decide⟩ (c_X4_makeWhole ho ht nwa nwb h2_6 h4_6 h6 hw_6) (fun v A7 hC => ?_) (fun E A7 hC => absurd hC.1 (by simp))
  obtain ⟨hv, z7, y1, y2, y3⟩ := hC
  cases hv
  rw [yy_lcm_one] at y1 y2
  have u1 := (y3 ra (by omega) (by omega)).trans h4_6
  have u2 := (y3 rb (by omega) (by omega)).trans h6
  refine xx_cst (st2 := []) rfl ?_
  exact xx_vret dX4_reset_30 rfl ⟨rfl, by omega, y1, u1, u2, y2, fun q h1 h2 h3 h4 => by rw [y3 q (by assumption) (by assumption), o6 q (by assumption), o5 q (by assumption), o4 q (by assumption), o3 q (by assumption), o2 q (by assumption), o1 q (by assumption)]⟩
set_option maxRecDepth 100000 in
theorem c_X6_reset {G : xx_G} {l : Launch} {A : xx_H} {p ra rb : Nat} {a b : Nat → Int32} (nab : ra ≠ rb) (hp : A.2 p = xx_o 6 [.ref ra, .ref rb]) (ha : A.2 ra = xx_i 6 a) (hb : A.2 rb = xx_i 6 b) :
    xx_X G l mX6_reset 1 0 0 0 (lv_args 0 [.ref p]) [] A (fun r B => r = .inl none ∧ B.1 = A.1 ∧ B.2 ra = xx_i 6 (fun _ => 0) ∧ B.2 rb = xx_i 6 (fun _ => 1) ∧ ∀ q, q ≠ ra → q ≠ rb → B.2 q = A.2 q) := by
  have npa := xx_oi hp ha
  have npb := xx_oi hp hb
  refine xx_clv (lv2 := [(0, .ref p)]) rfl ?_
  refine xx_aload_n dX6_reset_0 rfl ?_
  refine xx_get xx_c6 dX6_reset_1 wf_X6_9 (j := 0) (by decide) hp rfl ?_
  refine xx_iconst (v := 0) dX6_reset_4 (by decide) ?_
  refine xx_callS (N := mJ7_fill) (vs := [.ref ra, .int 0]) (rest := []) (d2 := 0) (c2 := 0) (s2 := 0) (c3 := 0) (s3 := 0) dX6_reset_5 wm_X6_18 ws_J7_fill wz_J7 (by decide) nJ7_fill ⟨pJ7_fill, Nat.le_of_ble_eq_true rfl, by decide, Nat.le_of_ble_eq_true rfl, by decide, by decide⟩ (c_J7_fill (by decide) ha) (fun v A1 hC => ?_) (fun E A1 hC => absurd hC.1 (by simp))
  obtain ⟨hv, z1, ⟨g1, h1, e1⟩, o1⟩ := hC
  cases hv
  refine xx_cst (st2 := []) rfl ?_
  have hp_1 := (o1 p (by omega)).trans hp
  have hb_1 := (o1 rb (by omega)).trans hb
  refine xx_re (fun _ => 0) h1 e1 (fun A2 z2 h2 o2 => ?_)
  have hp_2 := (o2 p (by omega)).trans hp_1
  have hb_2 := (o2 rb (by omega)).trans hb_1
  refine xx_aload_n dX6_reset_8 rfl ?_
  refine xx_get xx_c6 dX6_reset_9 wf_X6_15 (j := 1) (by decide) hp_2 rfl ?_
  refine xx_iconst (v := 1) dX6_reset_12 (by decide) ?_
  refine xx_callS (N := mJ7_fill) (vs := [.ref rb, .int 1]) (rest := []) (d2 := 0) (c2 := 0) (s2 := 0) (c3 := 0) (s3 := 0) dX6_reset_13 wm_X6_18 ws_J7_fill wz_J7 (by decide) nJ7_fill ⟨pJ7_fill, Nat.le_of_ble_eq_true rfl, by decide, Nat.le_of_ble_eq_true rfl, by decide, by decide⟩ (c_J7_fill (by decide) hb_2) (fun v A3 hC => ?_) (fun E A3 hC => absurd hC.1 (by simp))
  obtain ⟨hv, z3, ⟨g3, h3, e3⟩, o3⟩ := hC
  cases hv
  refine xx_cst (st2 := []) rfl ?_
  have hp_3 := (o3 p (by omega)).trans hp_2
  have h2_3 := (o3 ra (by omega)).trans h2
  refine xx_re (fun _ => 1) h3 e3 (fun A4 z4 h4 o4 => ?_)
  have hp_4 := (o4 p (by omega)).trans hp_3
  have h2_4 := (o4 ra (by omega)).trans h2_3
  exact xx_vret dX6_reset_16 rfl ⟨rfl, by omega, h2_4, h4, fun q h1 h2 => by rw [o4 q (by assumption), o3 q (by assumption), o2 q (by assumption), o1 q (by assumption)]⟩
set_option maxRecDepth 100000 in
theorem c_X8_forget {G : xx_G} {l : Launch} {A : xx_H} {b k0 k3 : Nat} {f g : Nat → Int32} {u1 u2 u4 u5 u6 u7 u8 u9 u10 u11 u12 u13 u14 u15 u16 u17 : Value} (nk : k0 ≠ k3) (hb : A.2 b = xx_o 8 [.ref k0, u1, u2, .ref k3, u4, u5, u6, u7, u8, u9, u10, u11, u12, u13, u14, u15, u16, u17]) (hk : A.2 k0 = xx_i 2 f) (ht : A.2 k3 = xx_i 2 g) :
    xx_X G l mX8_forget 0 0 0 0 (lv_args 0 [.ref b]) [] A (fun r B => r = .inl none ∧ B.1 = A.1 ∧ B.2 b = xx_o 8 [.ref k0, u1, u2, .ref k3, u4, u5, .int 0, .int (-1), u8, u9, .int 0, .int 0, u12, u13, u14, u15, u16, u17] ∧ B.2 k3 = xx_i 2 (upd (upd g 0 ((1 <<< (f 0 &&& 31)) - 1)) 1 ((1 <<< (f 1 &&& 31)) - 1)) ∧ ∀ q, q ≠ b → q ≠ k3 → B.2 q = A.2 q) := by
  have n1 := xx_oi hb hk
  have n2 := xx_oi hb ht
  refine xx_clv (lv2 := [(0, .ref b)]) rfl ?_
  refine xx_aload_n dX8_forget_0 rfl ?_
  refine xx_iconst (v := 0) dX8_forget_1 (by decide) ?_
  refine xx_put xx_c8 dX8_forget_2 wf_X8_42 (j := 6) (by decide) rfl rfl rfl hb (Nat.le_of_ble_eq_true rfl) (xx_gu fun A1 z1 h1 o1 => ?_)
  have h1 : A1.2 b = xx_o 8 [.ref k0, u1, u2, .ref k3, u4, u5, .int 0, u7, u8, u9, u10, u11, u12, u13, u14, u15, u16, u17] := h1
  have hk_1 := (o1 k0 (by omega)).trans hk
  have ht_1 := (o1 k3 (by omega)).trans ht
  refine xx_aload_n dX8_forget_5 rfl ?_
  refine xx_iconst (v := (-1)) dX8_forget_6 (by decide) ?_
  refine xx_put xx_c8 dX8_forget_7 wf_X8_46 (j := 7) (by decide) rfl rfl rfl h1 (Nat.le_of_ble_eq_true rfl) (xx_gu fun A2 z2 h2 o2 => ?_)
  have h2 : A2.2 b = xx_o 8 [.ref k0, u1, u2, .ref k3, u4, u5, .int 0, .int (-1), u8, u9, u10, u11, u12, u13, u14, u15, u16, u17] := h2
  have hk_2 := (o2 k0 (by omega)).trans hk_1
  have ht_2 := (o2 k3 (by omega)).trans ht_1
  refine xx_aload_n dX8_forget_10 rfl ?_
  refine xx_iconst (v := 0) dX8_forget_11 (by decide) ?_
  refine xx_put xx_c8 dX8_forget_12 wf_X8_56 (j := 10) (by decide) rfl rfl rfl h2 (Nat.le_of_ble_eq_true rfl) (xx_gu fun A3 z3 h3 o3 => ?_)
  have h3 : A3.2 b = xx_o 8 [.ref k0, u1, u2, .ref k3, u4, u5, .int 0, .int (-1), u8, u9, .int 0, u11, u12, u13, u14, u15, u16, u17] := h3
  have hk_3 := (o3 k0 (by omega)).trans hk_2
  have ht_3 := (o3 k3 (by omega)).trans ht_2
  refine xx_aload_n dX8_forget_15 rfl ?_
  refine xx_iconst (v := 0) dX8_forget_16 (by decide) ?_
  refine xx_put xx_c8 dX8_forget_17 wf_X8_59 (j := 11) (by decide) rfl rfl rfl h3 (Nat.le_of_ble_eq_true rfl) (xx_gu fun A4 z4 h4 o4 => ?_)
  have h4 : A4.2 b = xx_o 8 [.ref k0, u1, u2, .ref k3, u4, u5, .int 0, .int (-1), u8, u9, .int 0, .int 0, u12, u13, u14, u15, u16, u17] := h4
  have hk_4 := (o4 k0 (by omega)).trans hk_3
  have ht_4 := (o4 k3 (by omega)).trans ht_3
  refine xx_iconst (v := 0) dX8_forget_20 (by decide) ?_
  refine xx_istore_n dX8_forget_21 (by decide) ?_
  refine xx_clv (lv2 := [(0, .ref b), (1, .int 0)]) rfl ?_
  refine xx_iload_n dX8_forget_22 rfl ?_
  refine xx_iconst (v := 2) dX8_forget_23 (by decide) ?_
  refine xx_icmp_ge (tgt := 49) dX8_forget_24 (by decide) (fun h => absurd h (by decide)) (fun j24 => ?_)
  refine xx_aload_n dX8_forget_27 rfl ?_
  refine xx_get xx_c8 dX8_forget_28 wf_X8_27 (j := 3) (by decide) h4 rfl ?_
  refine xx_iload_n dX8_forget_31 rfl ?_
  refine xx_iconst (v := 1) dX8_forget_32 (by decide) ?_
  refine xx_aload_n dX8_forget_33 rfl ?_
  refine xx_get xx_c8 dX8_forget_34 wf_X8_7 (j := 0) (by decide) h4 rfl ?_
  refine xx_iload_n dX8_forget_37 rfl ?_
  refine xx_iald dX8_forget_38 hk_4 (by unfold vp_in; decide) ?_
  refine xx_eqi (y := f 0) rfl ?_
  refine xx_ishl dX8_forget_39 ?_
  refine xx_iconst (v := 1) dX8_forget_40 (by decide) ?_
  refine xx_isub dX8_forget_41 ?_
  refine xx_iast dX8_forget_42 ht_4 (by unfold vp_in; decide) (xx_gu fun A5 z5 h5 o5 => ?_)
  have h5 : A5.2 k3 = xx_i 2 (upd g 0 ((((1 <<< (((f 0)) &&& 31))) - 1))) := h5
  have h4_5 := (o5 b (by omega)).trans h4
  have hk_5 := (o5 k0 (by omega)).trans hk_4
  refine xx_iinc (v := 1) dX8_forget_43 rfl (by decide) (by decide) ?_
  refine xx_clv (lv2 := [(0, .ref b), (1, .int 1)]) rfl ?_
  refine xx_goto (tgt := 22) dX8_forget_46 (by decide) ?_
  refine xx_iload_n dX8_forget_22 rfl ?_
  refine xx_iconst (v := 2) dX8_forget_23 (by decide) ?_
  refine xx_icmp_ge (tgt := 49) dX8_forget_24 (by decide) (fun h => absurd h (by decide)) (fun j24 => ?_)
  refine xx_aload_n dX8_forget_27 rfl ?_
  refine xx_get xx_c8 dX8_forget_28 wf_X8_27 (j := 3) (by decide) h4_5 rfl ?_
  refine xx_iload_n dX8_forget_31 rfl ?_
  refine xx_iconst (v := 1) dX8_forget_32 (by decide) ?_
  refine xx_aload_n dX8_forget_33 rfl ?_
  refine xx_get xx_c8 dX8_forget_34 wf_X8_7 (j := 0) (by decide) h4_5 rfl ?_
  refine xx_iload_n dX8_forget_37 rfl ?_
  refine xx_iald dX8_forget_38 hk_5 (by unfold vp_in; decide) ?_
  refine xx_eqi (y := f 1) rfl ?_
  refine xx_ishl dX8_forget_39 ?_
  refine xx_iconst (v := 1) dX8_forget_40 (by decide) ?_
  refine xx_isub dX8_forget_41 ?_
  refine xx_iast dX8_forget_42 h5 (by unfold vp_in; decide) (xx_gu fun A6 z6 h6 o6 => ?_)
  have h6 : A6.2 k3 = xx_i 2 (upd (upd g 0 ((((1 <<< (((f 0)) &&& 31))) - 1))) 1 ((((1 <<< (((f 1)) &&& 31))) - 1))) := h6
  have h4_6 := (o6 b (by omega)).trans h4_5
  have hk_6 := (o6 k0 (by omega)).trans hk_5
  refine xx_iinc (v := 2) dX8_forget_43 rfl (by decide) (by decide) ?_
  refine xx_clv (lv2 := [(0, .ref b), (1, .int 2)]) rfl ?_
  refine xx_goto (tgt := 22) dX8_forget_46 (by decide) ?_
  refine xx_iload_n dX8_forget_22 rfl ?_
  refine xx_iconst (v := 2) dX8_forget_23 (by decide) ?_
  refine xx_icmp_ge (tgt := 49) dX8_forget_24 (by decide) (fun j24 => ?_) (fun h => absurd (by decide) h)
  exact xx_vret dX8_forget_49 rfl ⟨rfl, by omega, h4_6, h6, fun q h1 h2 => by rw [o6 q (by assumption), o5 q (by assumption), o4 q (by assumption), o3 q (by assumption), o2 q (by assumption), o1 q (by assumption)]⟩
set_option maxHeartbeats 1000000 in
set_option maxRecDepth 100000 in
theorem c_X8_game {G : xx_G} {l : Launch} {A : xx_H} {b a o t : Nat} {f g Af0 Bf0 Wf0 Cf0 Df0 Af1 Bf1 Wf1 Cf1 Df1 : Nat → Int32} {u4 u5 u6 u7 u8 u9 u10 u11 u12 u13 u14 u15 u16 u17 : Value} {x0 y0 m0 e0 x1 y1 m1 e1 : Int32} (ho1 : 1 ≤ o) (ho : o ≤ 6) (ht1 : 1 ≤ t) (ht6 : t ≤ 6) (hba : b < a) (hb : A.2 b = xx_o 8 [.ref a, .ref (a + 1), .ref (a + 10), .ref (a + 17), u4, u5, u6, u7, u8, u9, u10, u11, u12, u13, u14, u15, u16, u17]) (hk : A.2 a = xx_i 2 f) (gp : A.2 (a + 1) = xx_r 14 2 (va_up (va_up (fun _ => none) (0 : Int32).toNatClampNeg (some (a + 2))) (1 : Int32).toNatClampNeg (some (a + 6)))) (gt : A.2 (a + 10) = xx_r 16 2 (va_up (va_up (fun _ => none) (0 : Int32).toNatClampNeg (some (a + 11))) (1 : Int32).toNatClampNeg (some (a + 14)))) (ht : A.2 (a + 17) = xx_i 2 g) (hp0 : A.2 (a + 2) = xx_o 4 [.int x0, .int y0, .int m0, .int e0, .ref (a + 3), .ref (a + 4), .ref (a + 5)]) (qa0 : A.2 (a + 3) = xx_i 36 Af0) (qb0 : A.2 (a + 4) = xx_i 36 Bf0) (qw0 : A.2 (a + 5) = xx_i 36 Wf0) (hq0 : A.2 (a + 11) = xx_o 6 [.ref (a + 12), .ref (a + 13)]) (ra0 : A.2 (a + 12) = xx_i 6 Cf0) (rb0 : A.2 (a + 13) = xx_i 6 Df0) (hp1 : A.2 (a + 6) = xx_o 4 [.int x1, .int y1, .int m1, .int e1, .ref (a + 7), .ref (a + 8), .ref (a + 9)]) (qa1 : A.2 (a + 7) = xx_i 36 Af1) (qb1 : A.2 (a + 8) = xx_i 36 Bf1) (qw1 : A.2 (a + 9) = xx_i 36 Wf1) (hq1 : A.2 (a + 14) = xx_o 6 [.ref (a + 15), .ref (a + 16)]) (ra1 : A.2 (a + 15) = xx_i 6 Cf1) (rb1 : A.2 (a + 16) = xx_i 6 Df1) :
    xx_X G l mX8_game 3 0 0 0 (lv_args 0 [.ref b, .int (nI o), .int (nI t)]) [] A (fun r B => r = .inl none ∧ B.1 = A.1 ∧ B.2 b = xx_o 8 [.ref a, .ref (a + 1), .ref (a + 10), .ref (a + 17), u4, u5, .int 0, .int (-1), u8, u9, .int 0, .int 0, u12, u13, u14, u15, u16, u17] ∧ B.2 a = xx_i 2 (upd (upd f 0 ((nI o))) 1 ((nI t))) ∧ B.2 (a + 2) = xx_o 4 [.int (nI o), .int (nI t), .int 1, .int (yy_w0 t o Wf0).2, .ref (a + 3), .ref (a + 4), .ref (a + 5)] ∧ B.2 (a + 3) = xx_i 36 (fun _ => 0) ∧ B.2 (a + 4) = xx_i 36 (fun _ => 1) ∧ B.2 (a + 5) = xx_i 36 (yy_w0 t o Wf0).1 ∧ B.2 (a + 6) = xx_o 4 [.int (nI t), .int (nI o), .int 1, .int (yy_w0 o t Wf1).2, .ref (a + 7), .ref (a + 8), .ref (a + 9)] ∧ B.2 (a + 7) = xx_i 36 (fun _ => 0) ∧ B.2 (a + 8) = xx_i 36 (fun _ => 1) ∧ B.2 (a + 9) = xx_i 36 (yy_w0 o t Wf1).1 ∧ B.2 (a + 11) = xx_o 6 [.ref (a + 12), .ref (a + 13)] ∧ B.2 (a + 12) = xx_i 6 (fun _ => 0) ∧ B.2 (a + 13) = xx_i 6 (fun _ => 1) ∧ B.2 (a + 14) = xx_o 6 [.ref (a + 15), .ref (a + 16)] ∧ B.2 (a + 15) = xx_i 6 (fun _ => 0) ∧ B.2 (a + 16) = xx_i 6 (fun _ => 1) ∧ B.2 (a + 17) = xx_i 2 (upd (upd g 0 ((1 <<< (nI o &&& 31)) - 1)) 1 ((1 <<< (nI t &&& 31)) - 1)) ∧ ∀ q, q ≠ b → ¬ (a ≤ q ∧ q < a + 18) → B.2 q = A.2 q) := by
  refine xx_clv (lv2 := [(0, .ref b), (1, .int (nI o)), (2, .int (nI t))]) rfl ?_
  refine xx_iload_n dX8_game_0 rfl ?_
  refine xx_iconst (v := 1) dX8_game_1 (by decide) ?_
  refine xx_icmp_lt (tgt := 22) dX8_game_2 (by decide) (fun h => absurd h (nI_nlt (b := 1) (by omega) (by omega))) (fun j2 => ?_)
  refine xx_iload_n dX8_game_5 rfl ?_
  refine xx_bipush (v := 6) dX8_game_6 (by decide) ?_
  refine xx_icmp_gt (tgt := 22) dX8_game_8 (by decide) (fun h => absurd h (nI_nlt (a := 6) (by omega) (by omega))) (fun j8 => ?_)
  refine xx_iload_n dX8_game_11 rfl ?_
  refine xx_iconst (v := 1) dX8_game_12 (by decide) ?_
  refine xx_icmp_lt (tgt := 22) dX8_game_13 (by decide) (fun h => absurd h (nI_nlt (b := 1) (by omega) (by omega))) (fun j13 => ?_)
  refine xx_iload_n dX8_game_16 rfl ?_
  refine xx_bipush (v := 6) dX8_game_17 (by decide) ?_
  refine xx_icmp_le (tgt := 32) dX8_game_19 (by decide) (fun j19 => ?_) (fun h => absurd (nI_le (b := 6) (by omega) (by omega)) h)
  refine xx_aload_n dX8_game_32 rfl ?_
  refine xx_get xx_c8 dX8_game_33 wf_X8_7 (j := 0) (by decide) hb rfl ?_
  refine xx_iconst (v := 0) dX8_game_36 (by decide) ?_
  refine xx_iload_n dX8_game_37 rfl ?_
  refine xx_iast dX8_game_38 hk (by unfold vp_in; decide) (xx_gu fun A1 z1 h1 o1 => ?_)
  have h1 : A1.2 a = xx_i 2 (upd f 0 ((nI o))) := h1
  have hb_1 := (o1 b (by omega)).trans hb
  have ht_1 := (o1 (a + 17) (by omega)).trans ht
  have gp_1 := (o1 (a + 1) (by omega)).trans gp
  have gt_1 := (o1 (a + 10) (by omega)).trans gt
  have hp0_1 := (o1 (a + 2) (by omega)).trans hp0
  have qa0_1 := (o1 (a + 3) (by omega)).trans qa0
  have qb0_1 := (o1 (a + 4) (by omega)).trans qb0
  have qw0_1 := (o1 (a + 5) (by omega)).trans qw0
  have hq0_1 := (o1 (a + 11) (by omega)).trans hq0
  have ra0_1 := (o1 (a + 12) (by omega)).trans ra0
  have rb0_1 := (o1 (a + 13) (by omega)).trans rb0
  have hp1_1 := (o1 (a + 6) (by omega)).trans hp1
  have qa1_1 := (o1 (a + 7) (by omega)).trans qa1
  have qb1_1 := (o1 (a + 8) (by omega)).trans qb1
  have qw1_1 := (o1 (a + 9) (by omega)).trans qw1
  have hq1_1 := (o1 (a + 14) (by omega)).trans hq1
  have ra1_1 := (o1 (a + 15) (by omega)).trans ra1
  have rb1_1 := (o1 (a + 16) (by omega)).trans rb1
  refine xx_aload_n dX8_game_39 rfl ?_
  refine xx_get xx_c8 dX8_game_40 wf_X8_7 (j := 0) (by decide) hb_1 rfl ?_
  refine xx_iconst (v := 1) dX8_game_43 (by decide) ?_
  refine xx_iload_n dX8_game_44 rfl ?_
  refine xx_iast dX8_game_45 h1 (by unfold vp_in; decide) (xx_gu fun A2 z2 h2 o2 => ?_)
  have h2 : A2.2 a = xx_i 2 (upd (upd f 0 ((nI o))) 1 ((nI t))) := h2
  have hb_2 := (o2 b (by omega)).trans hb_1
  have ht_2 := (o2 (a + 17) (by omega)).trans ht_1
  have gp_2 := (o2 (a + 1) (by omega)).trans gp_1
  have gt_2 := (o2 (a + 10) (by omega)).trans gt_1
  have hp0_2 := (o2 (a + 2) (by omega)).trans hp0_1
  have qa0_2 := (o2 (a + 3) (by omega)).trans qa0_1
  have qb0_2 := (o2 (a + 4) (by omega)).trans qb0_1
  have qw0_2 := (o2 (a + 5) (by omega)).trans qw0_1
  have hq0_2 := (o2 (a + 11) (by omega)).trans hq0_1
  have ra0_2 := (o2 (a + 12) (by omega)).trans ra0_1
  have rb0_2 := (o2 (a + 13) (by omega)).trans rb0_1
  have hp1_2 := (o2 (a + 6) (by omega)).trans hp1_1
  have qa1_2 := (o2 (a + 7) (by omega)).trans qa1_1
  have qb1_2 := (o2 (a + 8) (by omega)).trans qb1_1
  have qw1_2 := (o2 (a + 9) (by omega)).trans qw1_1
  have hq1_2 := (o2 (a + 14) (by omega)).trans hq1_1
  have ra1_2 := (o2 (a + 15) (by omega)).trans ra1_1
  have rb1_2 := (o2 (a + 16) (by omega)).trans rb1_1
  refine xx_iconst (v := 0) dX8_game_46 (by decide) ?_
  refine xx_istore_n dX8_game_47 (by decide) ?_
  refine xx_clv (lv2 := [(0, .ref b), (1, .int (nI o)), (2, .int (nI t)), (3, .int 0)]) rfl ?_
  refine xx_iload_n dX8_game_48 rfl ?_
  refine xx_iconst (v := 2) dX8_game_49 (by decide) ?_
  refine xx_icmp_ge (tgt := 91) dX8_game_50 (by decide) (fun h => absurd h (by decide)) (fun j50 => ?_)
  refine xx_aload_n dX8_game_53 rfl ?_
  refine xx_get xx_c8 dX8_game_54 wf_X8_16 (j := 1) (by decide) hb_2 rfl ?_
  refine xx_iload_n dX8_game_57 rfl ?_
  refine xx_aald (kd := 14) (b := a + 2) dX8_game_58 (by decide) rfl gp_2 (by unfold vp_in; decide) rfl ?_
  refine xx_aload_n dX8_game_59 rfl ?_
  refine xx_get xx_c8 dX8_game_60 wf_X8_7 (j := 0) (by decide) hb_2 rfl ?_
  refine xx_iload_n dX8_game_63 rfl ?_
  refine xx_iald dX8_game_64 h2 (by unfold vp_in; decide) ?_
  refine xx_eqi (y := (nI o)) rfl ?_
  refine xx_aload_n dX8_game_65 rfl ?_
  refine xx_get xx_c8 dX8_game_66 wf_X8_7 (j := 0) (by decide) hb_2 rfl ?_
  refine xx_iconst (v := 1) dX8_game_69 (by decide) ?_
  refine xx_iload_n dX8_game_70 rfl ?_
  refine xx_isub dX8_game_71 ?_
  refine xx_eqi (y := 1) (by decide) ?_
  refine xx_iald dX8_game_72 h2 (by unfold vp_in; decide) ?_
  refine xx_eqi (y := (nI t)) rfl ?_
  refine xx_callV (N := mX4_reset) (vs := [.int (nI o), .int (nI t)]) (b := a + 2) (rest := []) (d2 := 2) (c2 := 0) (s2 := 0) (c3 := 0) (s3 := 0) dX8_game_73 wm_X8_109 wi_X4_reset wv_X4_reset (k := 4) rfl (by decide) hp0_2 nX4_reset ⟨pX4_reset, Nat.le_of_ble_eq_true rfl, by decide, Nat.le_of_ble_eq_true rfl, by decide, by decide⟩ (c_X4_reset (by omega) (by omega) (by omega) (by omega) (by omega) hp0_2 qa0_2 qb0_2 qw0_2) (fun v A3 hC => ?_) (fun E A3 hC => absurd hC.1 (by simp))
  obtain ⟨hv, z3, ka3, kb3, kc3, kd3, fr3⟩ := hC
  cases hv
  have hb_3 := (fr3 b (by omega) (by omega) (by omega) (by omega)).trans hb_2
  have h2_3 := (fr3 a (by omega) (by omega) (by omega) (by omega)).trans h2
  have ht_3 := (fr3 (a + 17) (by omega) (by omega) (by omega) (by omega)).trans ht_2
  have gp_3 := (fr3 (a + 1) (by omega) (by omega) (by omega) (by omega)).trans gp_2
  have gt_3 := (fr3 (a + 10) (by omega) (by omega) (by omega) (by omega)).trans gt_2
  have hq0_3 := (fr3 (a + 11) (by omega) (by omega) (by omega) (by omega)).trans hq0_2
  have ra0_3 := (fr3 (a + 12) (by omega) (by omega) (by omega) (by omega)).trans ra0_2
  have rb0_3 := (fr3 (a + 13) (by omega) (by omega) (by omega) (by omega)).trans rb0_2
  have hp1_3 := (fr3 (a + 6) (by omega) (by omega) (by omega) (by omega)).trans hp1_2
  have qa1_3 := (fr3 (a + 7) (by omega) (by omega) (by omega) (by omega)).trans qa1_2
  have qb1_3 := (fr3 (a + 8) (by omega) (by omega) (by omega) (by omega)).trans qb1_2
  have qw1_3 := (fr3 (a + 9) (by omega) (by omega) (by omega) (by omega)).trans qw1_2
  have hq1_3 := (fr3 (a + 14) (by omega) (by omega) (by omega) (by omega)).trans hq1_2
  have ra1_3 := (fr3 (a + 15) (by omega) (by omega) (by omega) (by omega)).trans ra1_2
  have rb1_3 := (fr3 (a + 16) (by omega) (by omega) (by omega) (by omega)).trans rb1_2
  refine xx_cst (st2 := []) rfl ?_
  refine xx_aload_n dX8_game_76 rfl ?_
  refine xx_get xx_c8 dX8_game_77 wf_X8_23 (j := 2) (by decide) hb_3 rfl ?_
  refine xx_iload_n dX8_game_80 rfl ?_
  refine xx_aald (kd := 16) (b := a + 11) dX8_game_81 (by decide) rfl gt_3 (by unfold vp_in; decide) rfl ?_
  refine xx_callV (N := mX6_reset) (vs := []) (b := a + 11) (rest := []) (d2 := 1) (c2 := 0) (s2 := 0) (c3 := 0) (s3 := 0) dX8_game_82 wm_X8_113 wi_X6_reset wv_X6_reset (k := 6) rfl (by decide) hq0_3 nX6_reset ⟨pX6_reset, Nat.le_of_ble_eq_true rfl, by decide, Nat.le_of_ble_eq_true rfl, by decide, by decide⟩ (c_X6_reset (by omega) hq0_3 ra0_3 rb0_3) (fun v A4 hC => ?_) (fun E A4 hC => absurd hC.1 (by simp))
  obtain ⟨hv, z4, ka4, kb4, fr4⟩ := hC
  cases hv
  have hb_4 := (fr4 b (by omega) (by omega)).trans hb_3
  have h2_4 := (fr4 a (by omega) (by omega)).trans h2_3
  have ht_4 := (fr4 (a + 17) (by omega) (by omega)).trans ht_3
  have gp_4 := (fr4 (a + 1) (by omega) (by omega)).trans gp_3
  have gt_4 := (fr4 (a + 10) (by omega) (by omega)).trans gt_3
  have ka3_4 := (fr4 (a + 2) (by omega) (by omega)).trans ka3
  have kb3_4 := (fr4 (a + 3) (by omega) (by omega)).trans kb3
  have kc3_4 := (fr4 (a + 4) (by omega) (by omega)).trans kc3
  have kd3_4 := (fr4 (a + 5) (by omega) (by omega)).trans kd3
  have hq0_4 := (fr4 (a + 11) (by omega) (by omega)).trans hq0_3
  have hp1_4 := (fr4 (a + 6) (by omega) (by omega)).trans hp1_3
  have qa1_4 := (fr4 (a + 7) (by omega) (by omega)).trans qa1_3
  have qb1_4 := (fr4 (a + 8) (by omega) (by omega)).trans qb1_3
  have qw1_4 := (fr4 (a + 9) (by omega) (by omega)).trans qw1_3
  have hq1_4 := (fr4 (a + 14) (by omega) (by omega)).trans hq1_3
  have ra1_4 := (fr4 (a + 15) (by omega) (by omega)).trans ra1_3
  have rb1_4 := (fr4 (a + 16) (by omega) (by omega)).trans rb1_3
  refine xx_cst (st2 := []) rfl ?_
  refine xx_iinc (v := 1) dX8_game_85 rfl (by decide) (by decide) ?_
  refine xx_clv (lv2 := [(0, .ref b), (1, .int (nI o)), (2, .int (nI t)), (3, .int 1)]) rfl ?_
  refine xx_goto (tgt := 48) dX8_game_88 (by decide) ?_
  refine xx_iload_n dX8_game_48 rfl ?_
  refine xx_iconst (v := 2) dX8_game_49 (by decide) ?_
  refine xx_icmp_ge (tgt := 91) dX8_game_50 (by decide) (fun h => absurd h (by decide)) (fun j50 => ?_)
  refine xx_aload_n dX8_game_53 rfl ?_
  refine xx_get xx_c8 dX8_game_54 wf_X8_16 (j := 1) (by decide) hb_4 rfl ?_
  refine xx_iload_n dX8_game_57 rfl ?_
  refine xx_aald (kd := 14) (b := a + 6) dX8_game_58 (by decide) rfl gp_4 (by unfold vp_in; decide) rfl ?_
  refine xx_aload_n dX8_game_59 rfl ?_
  refine xx_get xx_c8 dX8_game_60 wf_X8_7 (j := 0) (by decide) hb_4 rfl ?_
  refine xx_iload_n dX8_game_63 rfl ?_
  refine xx_iald dX8_game_64 h2_4 (by unfold vp_in; decide) ?_
  refine xx_eqi (y := (nI t)) rfl ?_
  refine xx_aload_n dX8_game_65 rfl ?_
  refine xx_get xx_c8 dX8_game_66 wf_X8_7 (j := 0) (by decide) hb_4 rfl ?_
  refine xx_iconst (v := 1) dX8_game_69 (by decide) ?_
  refine xx_iload_n dX8_game_70 rfl ?_
  refine xx_isub dX8_game_71 ?_
  refine xx_eqi (y := 0) (by decide) ?_
  refine xx_iald dX8_game_72 h2_4 (by unfold vp_in; decide) ?_
  refine xx_eqi (y := (nI o)) rfl ?_
  refine xx_callV (N := mX4_reset) (vs := [.int (nI t), .int (nI o)]) (b := a + 6) (rest := []) (d2 := 2) (c2 := 0) (s2 := 0) (c3 := 0) (s3 := 0) dX8_game_73 wm_X8_109 wi_X4_reset wv_X4_reset (k := 4) rfl (by decide) hp1_4 nX4_reset ⟨pX4_reset, Nat.le_of_ble_eq_true rfl, by decide, Nat.le_of_ble_eq_true rfl, by decide, by decide⟩ (c_X4_reset (by omega) (by omega) (by omega) (by omega) (by omega) hp1_4 qa1_4 qb1_4 qw1_4) (fun v A5 hC => ?_) (fun E A5 hC => absurd hC.1 (by simp))
  obtain ⟨hv, z5, ka5, kb5, kc5, kd5, fr5⟩ := hC
  cases hv
  have hb_5 := (fr5 b (by omega) (by omega) (by omega) (by omega)).trans hb_4
  have h2_5 := (fr5 a (by omega) (by omega) (by omega) (by omega)).trans h2_4
  have ht_5 := (fr5 (a + 17) (by omega) (by omega) (by omega) (by omega)).trans ht_4
  have gp_5 := (fr5 (a + 1) (by omega) (by omega) (by omega) (by omega)).trans gp_4
  have gt_5 := (fr5 (a + 10) (by omega) (by omega) (by omega) (by omega)).trans gt_4
  have ka3_5 := (fr5 (a + 2) (by omega) (by omega) (by omega) (by omega)).trans ka3_4
  have kb3_5 := (fr5 (a + 3) (by omega) (by omega) (by omega) (by omega)).trans kb3_4
  have kc3_5 := (fr5 (a + 4) (by omega) (by omega) (by omega) (by omega)).trans kc3_4
  have kd3_5 := (fr5 (a + 5) (by omega) (by omega) (by omega) (by omega)).trans kd3_4
  have hq0_5 := (fr5 (a + 11) (by omega) (by omega) (by omega) (by omega)).trans hq0_4
  have ka4_5 := (fr5 (a + 12) (by omega) (by omega) (by omega) (by omega)).trans ka4
  have kb4_5 := (fr5 (a + 13) (by omega) (by omega) (by omega) (by omega)).trans kb4
  have hq1_5 := (fr5 (a + 14) (by omega) (by omega) (by omega) (by omega)).trans hq1_4
  have ra1_5 := (fr5 (a + 15) (by omega) (by omega) (by omega) (by omega)).trans ra1_4
  have rb1_5 := (fr5 (a + 16) (by omega) (by omega) (by omega) (by omega)).trans rb1_4
  refine xx_cst (st2 := []) rfl ?_
  refine xx_aload_n dX8_game_76 rfl ?_
  refine xx_get xx_c8 dX8_game_77 wf_X8_23 (j := 2) (by decide) hb_5 rfl ?_
  refine xx_iload_n dX8_game_80 rfl ?_
  refine xx_aald (kd := 16) (b := a + 14) dX8_game_81 (by decide) rfl gt_5 (by unfold vp_in; decide) rfl ?_
  refine xx_callV (N := mX6_reset) (vs := []) (b := a + 14) (rest := []) (d2 := 1) (c2 := 0) (s2 := 0) (c3 := 0) (s3 := 0) dX8_game_82 wm_X8_113 wi_X6_reset wv_X6_reset (k := 6) rfl (by decide) hq1_5 nX6_reset ⟨pX6_reset, Nat.le_of_ble_eq_true rfl, by decide, Nat.le_of_ble_eq_true rfl, by decide, by decide⟩ (c_X6_reset (by omega) hq1_5 ra1_5 rb1_5) (fun v A6 hC => ?_) (fun E A6 hC => absurd hC.1 (by simp))
  obtain ⟨hv, z6, ka6, kb6, fr6⟩ := hC
  cases hv
  have hb_6 := (fr6 b (by omega) (by omega)).trans hb_5
  have h2_6 := (fr6 a (by omega) (by omega)).trans h2_5
  have ht_6 := (fr6 (a + 17) (by omega) (by omega)).trans ht_5
  have gp_6 := (fr6 (a + 1) (by omega) (by omega)).trans gp_5
  have gt_6 := (fr6 (a + 10) (by omega) (by omega)).trans gt_5
  have ka3_6 := (fr6 (a + 2) (by omega) (by omega)).trans ka3_5
  have kb3_6 := (fr6 (a + 3) (by omega) (by omega)).trans kb3_5
  have kc3_6 := (fr6 (a + 4) (by omega) (by omega)).trans kc3_5
  have kd3_6 := (fr6 (a + 5) (by omega) (by omega)).trans kd3_5
  have hq0_6 := (fr6 (a + 11) (by omega) (by omega)).trans hq0_5
  have ka4_6 := (fr6 (a + 12) (by omega) (by omega)).trans ka4_5
  have kb4_6 := (fr6 (a + 13) (by omega) (by omega)).trans kb4_5
  have ka5_6 := (fr6 (a + 6) (by omega) (by omega)).trans ka5
  have kb5_6 := (fr6 (a + 7) (by omega) (by omega)).trans kb5
  have kc5_6 := (fr6 (a + 8) (by omega) (by omega)).trans kc5
  have kd5_6 := (fr6 (a + 9) (by omega) (by omega)).trans kd5
  have hq1_6 := (fr6 (a + 14) (by omega) (by omega)).trans hq1_5
  refine xx_cst (st2 := []) rfl ?_
  refine xx_iinc (v := 2) dX8_game_85 rfl (by decide) (by decide) ?_
  refine xx_clv (lv2 := [(0, .ref b), (1, .int (nI o)), (2, .int (nI t)), (3, .int 2)]) rfl ?_
  refine xx_goto (tgt := 48) dX8_game_88 (by decide) ?_
  refine xx_iload_n dX8_game_48 rfl ?_
  refine xx_iconst (v := 2) dX8_game_49 (by decide) ?_
  refine xx_icmp_ge (tgt := 91) dX8_game_50 (by decide) (fun j50 => ?_) (fun h => absurd (by decide) h)
  refine xx_aload_n dX8_game_91 rfl ?_
  refine xx_callV (N := mX8_forget) (vs := []) (b := b) (rest := []) (d2 := 0) (c2 := 0) (s2 := 0) (c3 := 0) (s3 := 0) dX8_game_92 wm_X8_115 wi_X8_forget wv_X8_forget (k := 8) rfl (by decide) hb_6 nX8_forget ⟨pX8_forget, Nat.le_of_ble_eq_true rfl, by decide, Nat.le_of_ble_eq_true rfl, by decide, by decide⟩ (c_X8_forget (by omega) hb_6 h2_6 ht_6) (fun v A7 hC => ?_) (fun E A7 hC => absurd hC.1 (by simp))
  obtain ⟨hv, z7, ka7, kb7, fr7⟩ := hC
  cases hv
  have h2_7 := (fr7 a (by omega) (by omega)).trans h2_6
  have gp_7 := (fr7 (a + 1) (by omega) (by omega)).trans gp_6
  have gt_7 := (fr7 (a + 10) (by omega) (by omega)).trans gt_6
  have ka3_7 := (fr7 (a + 2) (by omega) (by omega)).trans ka3_6
  have kb3_7 := (fr7 (a + 3) (by omega) (by omega)).trans kb3_6
  have kc3_7 := (fr7 (a + 4) (by omega) (by omega)).trans kc3_6
  have kd3_7 := (fr7 (a + 5) (by omega) (by omega)).trans kd3_6
  have hq0_7 := (fr7 (a + 11) (by omega) (by omega)).trans hq0_6
  have ka4_7 := (fr7 (a + 12) (by omega) (by omega)).trans ka4_6
  have kb4_7 := (fr7 (a + 13) (by omega) (by omega)).trans kb4_6
  have ka5_7 := (fr7 (a + 6) (by omega) (by omega)).trans ka5_6
  have kb5_7 := (fr7 (a + 7) (by omega) (by omega)).trans kb5_6
  have kc5_7 := (fr7 (a + 8) (by omega) (by omega)).trans kc5_6
  have kd5_7 := (fr7 (a + 9) (by omega) (by omega)).trans kd5_6
  have hq1_7 := (fr7 (a + 14) (by omega) (by omega)).trans hq1_6
  have ka6_7 := (fr7 (a + 15) (by omega) (by omega)).trans ka6
  have kb6_7 := (fr7 (a + 16) (by omega) (by omega)).trans kb6
  refine xx_cst (st2 := []) rfl ?_
  exact xx_vret dX8_game_95 rfl ⟨rfl, by omega, ka7, h2_7, ka3_7, kb3_7, kc3_7, kd3_7, ka5_7, kb5_7, kc5_7, kd5_7, hq0_7, ka4_7, kb4_7, hq1_7, ka6_7, kb6_7, kb7, fun q h1 h2 => by rw [fr7 q (by omega) (by omega), fr6 q (by omega) (by omega), fr5 q (by omega) (by omega) (by omega) (by omega), fr4 q (by omega) (by omega), fr3 q (by omega) (by omega) (by omega) (by omega), o2 q (by omega), o1 q (by omega)]⟩
