/-! ===== the constructor of the reference ===== -/
set_option maxRecDepth 100000 in
theorem c_X9_set16 {G : xx_G} {l : Launch} {A : xx_H} {b a1 a2 a3 : Nat} {u0 u4 u5 u6 u7 u8 u9 u10 u11 u12 u13 u14 u15 u16 u17 u18 u19 u20 u21 u22 u23 u24 u25 u26 u27 u28 : Value} {P Z S : Nat → Int32} (hb : A.2 b = xx_o 9 [u0, .ref a1, .ref a2, .ref a3, u4, u5, u6, u7, u8, u9, u10, u11, u12, u13, u14, u15, u16, u17, u18, u19, u20, u21, u22, u23, u24, u25, u26, u27, u28]) (ga : A.2 a1 = xx_i 69600 P) (gb : A.2 a2 = xx_i 1740 Z) (gc : A.2 a3 = xx_i 1740 S) (n1 : a1 ≠ a2) (n2 : a1 ≠ a3) (n3 : a2 ≠ a3) (m1 : b ≠ a1) (m2 : b ≠ a2) (m3 : b ≠ a3) : xx_X G l mX9_set 0 0 0 0 (lv_args 0 [.ref b, .int 16, .long 0]) [] A (fun r B => r = .inl none ∧ B.1 = A.1 ∧ B.2 a1 = xx_i 69600 P ∧ B.2 a2 = xx_i 1740 (upd Z 16 0) ∧ B.2 a3 = xx_i 1740 (upd S 16 0) ∧ ∀ q, q ≠ a1 → q ≠ a2 → q ≠ a3 → B.2 q = A.2 q) := by
  refine xx_clv (lv2 := [(0, .ref b), (1, .int 16), (2, .long 0)]) rfl ?_
  refine xx_lload_n dX9_set_0 rfl ?_
  refine xx_lconst (v := 0) dX9_set_1 (by decide) ?_
  refine xx_lcmp dX9_set_2 ?_
  refine xx_eqi (y := 0) (by decide) ?_
  refine xx_if_ge (tgt := 11) dX9_set_3 (by decide) (fun j3 => ?_) (fun h => absurd (by decide) h)
  refine xx_lload_n dX9_set_11 rfl ?_
  refine xx_lstore dX9_set_12 (by decide) ?_
  refine xx_clv (lv2 := [(0, .ref b), (1, .int 16), (2, .long 0), (4, .long 0)]) rfl ?_
  refine xx_aload_n dX9_set_14 rfl ?_
  refine xx_get xx_c9 dX9_set_15 wf_X9_17 (j := 3) (by decide) hb rfl ?_
  refine xx_iload_n dX9_set_18 rfl ?_
  refine xx_lload_n dX9_set_19 rfl ?_
  refine xx_lconst (v := 0) dX9_set_20 (by decide) ?_
  refine xx_lcmp dX9_set_21 ?_
  refine xx_eqi (y := 0) (by decide) ?_
  refine xx_if_ge (tgt := 29) dX9_set_22 (by decide) (fun j22 => ?_) (fun h => absurd (by decide) h)
  refine xx_lload_n dX9_set_29 rfl ?_
  refine xx_lconst (v := 0) dX9_set_30 (by decide) ?_
  refine xx_lcmp dX9_set_31 ?_
  refine xx_eqi (y := 0) (by decide) ?_
  refine xx_if_le (tgt := 39) dX9_set_32 (by decide) (fun j32 => ?_) (fun h => absurd (by decide) h)
  refine xx_iconst (v := 0) dX9_set_39 (by decide) ?_
  refine xx_iast dX9_set_40 gc (by unfold vp_in; decide) (xx_gu fun A1 z1 h1 o1 => ?_)
  have h1 : A1.2 a3 = xx_i 1740 (upd S 16 0) := h1
  have hb_1 := (o1 b (by omega)).trans hb
  have ga_1 := (o1 a1 (by omega)).trans ga
  have gb_1 := (o1 a2 (by omega)).trans gb
  refine xx_aload_n dX9_set_41 rfl ?_
  refine xx_get xx_c9 dX9_set_42 wf_X9_14 (j := 2) (by decide) hb_1 rfl ?_
  refine xx_iload_n dX9_set_45 rfl ?_
  refine xx_iconst (v := 0) dX9_set_46 (by decide) ?_
  refine xx_iast dX9_set_47 gb_1 (by unfold vp_in; decide) (xx_gu fun A2 z2 h2 o2 => ?_)
  have h2 : A2.2 a2 = xx_i 1740 (upd Z 16 0) := h2
  have hb_2 := (o2 b (by omega)).trans hb_1
  have ga_2 := (o2 a1 (by omega)).trans ga_1
  have h1_2 := (o2 a3 (by omega)).trans h1
  refine xx_lload dX9_set_48 rfl ?_
  refine xx_lconst (v := 0) dX9_set_50 (by decide) ?_
  refine xx_lcmp dX9_set_51 ?_
  refine xx_eqi (y := 0) (by decide) ?_
  refine xx_if_le (tgt := 98) dX9_set_52 (by decide) (fun j52 => ?_) (fun h => absurd (by decide) h)
  exact xx_vret dX9_set_98 rfl ⟨rfl, by omega, ga_2, h2, h1_2, fun q hq1 hq2 hq3 => by rw [o2 q (by omega), o1 q (by omega)]⟩
set_option maxRecDepth 100000 in
theorem c_X9_set17 {G : xx_G} {l : Launch} {A : xx_H} {b a1 a2 a3 : Nat} {u0 u4 u5 u6 u7 u8 u9 u10 u11 u12 u13 u14 u15 u16 u17 u18 u19 u20 u21 u22 u23 u24 u25 u26 u27 u28 : Value} {P Z S : Nat → Int32} (hb : A.2 b = xx_o 9 [u0, .ref a1, .ref a2, .ref a3, u4, u5, u6, u7, u8, u9, u10, u11, u12, u13, u14, u15, u16, u17, u18, u19, u20, u21, u22, u23, u24, u25, u26, u27, u28]) (ga : A.2 a1 = xx_i 69600 P) (gb : A.2 a2 = xx_i 1740 Z) (gc : A.2 a3 = xx_i 1740 S) (n1 : a1 ≠ a2) (n2 : a1 ≠ a3) (n3 : a2 ≠ a3) (m1 : b ≠ a1) (m2 : b ≠ a2) (m3 : b ≠ a3) : xx_X G l mX9_set 0 0 0 0 (lv_args 0 [.ref b, .int 17, .long 1]) [] A (fun r B => r = .inl none ∧ B.1 = A.1 ∧ B.2 a1 = xx_i 69600 (upd P 680 1) ∧ B.2 a2 = xx_i 1740 (upd (upd Z 17 0) 17 1) ∧ B.2 a3 = xx_i 1740 (upd S 17 1) ∧ ∀ q, q ≠ a1 → q ≠ a2 → q ≠ a3 → B.2 q = A.2 q) := by
  refine xx_clv (lv2 := [(0, .ref b), (1, .int 17), (2, .long 1)]) rfl ?_
  refine xx_lload_n dX9_set_0 rfl ?_
  refine xx_lconst (v := 0) dX9_set_1 (by decide) ?_
  refine xx_lcmp dX9_set_2 ?_
  refine xx_eqi (y := 1) (by decide) ?_
  refine xx_if_ge (tgt := 11) dX9_set_3 (by decide) (fun j3 => ?_) (fun h => absurd (by decide) h)
  refine xx_lload_n dX9_set_11 rfl ?_
  refine xx_lstore dX9_set_12 (by decide) ?_
  refine xx_clv (lv2 := [(0, .ref b), (1, .int 17), (2, .long 1), (4, .long 1)]) rfl ?_
  refine xx_aload_n dX9_set_14 rfl ?_
  refine xx_get xx_c9 dX9_set_15 wf_X9_17 (j := 3) (by decide) hb rfl ?_
  refine xx_iload_n dX9_set_18 rfl ?_
  refine xx_lload_n dX9_set_19 rfl ?_
  refine xx_lconst (v := 0) dX9_set_20 (by decide) ?_
  refine xx_lcmp dX9_set_21 ?_
  refine xx_eqi (y := 1) (by decide) ?_
  refine xx_if_ge (tgt := 29) dX9_set_22 (by decide) (fun j22 => ?_) (fun h => absurd (by decide) h)
  refine xx_lload_n dX9_set_29 rfl ?_
  refine xx_lconst (v := 0) dX9_set_30 (by decide) ?_
  refine xx_lcmp dX9_set_31 ?_
  refine xx_eqi (y := 1) (by decide) ?_
  refine xx_if_le (tgt := 39) dX9_set_32 (by decide) (fun h => absurd h (by decide)) (fun j32 => ?_)
  refine xx_iconst (v := 1) dX9_set_35 (by decide) ?_
  refine xx_goto (tgt := 40) dX9_set_36 (by decide) ?_
  refine xx_iast dX9_set_40 gc (by unfold vp_in; decide) (xx_gu fun A1 z1 h1 o1 => ?_)
  have h1 : A1.2 a3 = xx_i 1740 (upd S 17 1) := h1
  have hb_1 := (o1 b (by omega)).trans hb
  have ga_1 := (o1 a1 (by omega)).trans ga
  have gb_1 := (o1 a2 (by omega)).trans gb
  refine xx_aload_n dX9_set_41 rfl ?_
  refine xx_get xx_c9 dX9_set_42 wf_X9_14 (j := 2) (by decide) hb_1 rfl ?_
  refine xx_iload_n dX9_set_45 rfl ?_
  refine xx_iconst (v := 0) dX9_set_46 (by decide) ?_
  refine xx_iast dX9_set_47 gb_1 (by unfold vp_in; decide) (xx_gu fun A2 z2 h2 o2 => ?_)
  have h2 : A2.2 a2 = xx_i 1740 (upd Z 17 0) := h2
  have hb_2 := (o2 b (by omega)).trans hb_1
  have ga_2 := (o2 a1 (by omega)).trans ga_1
  have h1_2 := (o2 a3 (by omega)).trans h1
  refine xx_lload dX9_set_48 rfl ?_
  refine xx_lconst (v := 0) dX9_set_50 (by decide) ?_
  refine xx_lcmp dX9_set_51 ?_
  refine xx_eqi (y := 1) (by decide) ?_
  refine xx_if_le (tgt := 98) dX9_set_52 (by decide) (fun h => absurd h (by decide)) (fun j52 => ?_)
  refine xx_aload_n dX9_set_55 rfl ?_
  refine xx_get xx_c9 dX9_set_56 wf_X9_8 (j := 1) (by decide) hb_2 rfl ?_
  refine xx_bipush (v := 40) dX9_set_59 (by decide) ?_
  refine xx_iload_n dX9_set_61 rfl ?_
  refine xx_imul dX9_set_62 ?_
  refine xx_eqi (y := 680) (by decide) ?_
  refine xx_aload_n dX9_set_63 rfl ?_
  refine xx_get xx_c9 dX9_set_64 wf_X9_14 (j := 2) (by decide) hb_2 rfl ?_
  refine xx_iload_n dX9_set_67 rfl ?_
  refine xx_iald dX9_set_68 h2 (by unfold vp_in; decide) ?_
  refine xx_eqi (y := 0) rfl ?_
  refine xx_iadd dX9_set_69 ?_
  refine xx_eqi (y := 680) (by decide) ?_
  refine xx_lload dX9_set_70 rfl ?_
  refine xx_ldc2 (v := 65535) dX9_set_72 wk_X9_87 ?_
  refine xx_land dX9_set_75 ?_
  refine xx_eql (y := 1) (by decide) ?_
  refine xx_l2i dX9_set_76 ?_
  refine xx_eqi (y := 1) (by decide) ?_
  refine xx_iast dX9_set_77 ga_2 (by unfold vp_in; decide) (xx_gu fun A3 z3 h3 o3 => ?_)
  have h3 : A3.2 a1 = xx_i 69600 (upd P 680 1) := h3
  have hb_3 := (o3 b (by omega)).trans hb_2
  have h2_3 := (o3 a2 (by omega)).trans h2
  have h1_3 := (o3 a3 (by omega)).trans h1_2
  refine xx_lload dX9_set_78 rfl ?_
  refine xx_bipush (v := 16) dX9_set_80 (by decide) ?_
  refine xx_lshr dX9_set_82 ?_
  refine xx_eql (y := 0) (by decide) ?_
  refine xx_lstore dX9_set_83 (by decide) ?_
  refine xx_clv (lv2 := [(0, .ref b), (1, .int 17), (2, .long 1), (4, .long 0)]) rfl ?_
  refine xx_aload_n dX9_set_85 rfl ?_
  refine xx_get xx_c9 dX9_set_86 wf_X9_14 (j := 2) (by decide) hb_3 rfl ?_
  refine xx_iload_n dX9_set_89 rfl ?_
  refine xx_dup2_11 dX9_set_90 rfl rfl ?_
  refine xx_iald dX9_set_91 h2_3 (by unfold vp_in; decide) ?_
  refine xx_eqi (y := 0) rfl ?_
  refine xx_iconst (v := 1) dX9_set_92 (by decide) ?_
  refine xx_iadd dX9_set_93 ?_
  refine xx_eqi (y := 1) (by decide) ?_
  refine xx_iast dX9_set_94 h2_3 (by unfold vp_in; decide) (xx_gu fun A4 z4 h4 o4 => ?_)
  have h4 : A4.2 a2 = xx_i 1740 (upd (upd Z 17 0) 17 1) := h4
  have hb_4 := (o4 b (by omega)).trans hb_3
  have h3_4 := (o4 a1 (by omega)).trans h3
  have h1_4 := (o4 a3 (by omega)).trans h1_3
  refine xx_goto (tgt := 48) dX9_set_95 (by decide) ?_
  refine xx_lload dX9_set_48 rfl ?_
  refine xx_lconst (v := 0) dX9_set_50 (by decide) ?_
  refine xx_lcmp dX9_set_51 ?_
  refine xx_eqi (y := 0) (by decide) ?_
  refine xx_if_le (tgt := 98) dX9_set_52 (by decide) (fun j52 => ?_) (fun h => absurd (by decide) h)
  exact xx_vret dX9_set_98 rfl ⟨rfl, by omega, h3_4, h4, h1_4, fun q hq1 hq2 hq3 => by rw [o4 q (by omega), o3 q (by omega), o2 q (by omega), o1 q (by omega)]⟩
set_option maxRecDepth 100000 in
theorem s9_4 {G : xx_G} {l : Launch} {A : xx_H} {b : Nat} {Q : Option Value ⊕ String → xx_H → Prop} {u0 u1 u2 u3 u4 u5 u6 u7 u8 u9 u10 u11 u12 u13 u14 u15 u16 u17 u18 u19 u20 u21 u22 u23 u24 u25 u26 u27 u28 : Value} (hb : A.2 b = xx_o 9 [u0, u1, u2, u3, u4, u5, u6, u7, u8, u9, u10, u11, u12, u13, u14, u15, u16, u17, u18, u19, u20, u21, u22, u23, u24, u25, u26, u27, u28]) (hlt : b < A.1) (k : ∀ B : xx_H, B.1 = A.1 + 1 → B.2 b = xx_o 9 [u0, .ref A.1, u2, u3, u4, u5, u6, u7, u8, u9, u10, u11, u12, u13, u14, u15, u16, u17, u18, u19, u20, u21, u22, u23, u24, u25, u26, u27, u28] → B.2 A.1 = xx_i 69600 (fun _ => 0) → (∀ q, q ≠ b → q < A.1 → B.2 q = A.2 q) → xx_X G l mX9_init 1 20 7056 12 [(0, .ref b)] [] B Q) : xx_X G l mX9_init 1 21 76656 4 [(0, .ref b)] [] A Q := by
  refine xx_aload_n dX9_init_4 rfl ?_
  refine xx_ldc (v := 69600) dX9_init_5 wk_X9_7 ?_
  refine xx_newa (kd := 1) (N := 69600) (z := .int 0) dX9_init_7 (by decide) rfl (by intro C h; cases h) wa_int rfl (by decide) (by decide) (by decide) (xx_gp fun A1 z1 h1 o1 => ?_)
  have t1 : A1.1 = A.1 + 1 := by omega
  have h1 : A1.2 A.1 = xx_i 69600 (fun _ => 0) := h1
  have hb_1 := (o1 b (by omega)).trans hb
  refine xx_putF xx_c9 dX9_init_9 wf_X9_8 (j := 1) (by decide) rfl rfl rfl rfl rfl hb_1 (Nat.le_of_ble_eq_true rfl) (xx_gu fun A2 z2 h2 o2 => ?_)
  have h2 : A2.2 b = xx_o 9 [u0, .ref A.1, u2, u3, u4, u5, u6, u7, u8, u9, u10, u11, u12, u13, u14, u15, u16, u17, u18, u19, u20, u21, u22, u23, u24, u25, u26, u27, u28] := h2
  have h1_2 := (o2 A.1 (by omega)).trans h1
  have t2 : A2.1 = A.1 + 1 := by omega
  exact k _ (by omega) h2 h1_2 (fun q hq1 hq2 => by rw [o2 q (by omega), o1 q (by omega)])
set_option maxRecDepth 100000 in
theorem s9_12 {G : xx_G} {l : Launch} {A : xx_H} {b : Nat} {Q : Option Value ⊕ String → xx_H → Prop} {u0 u1 u2 u3 u4 u5 u6 u7 u8 u9 u10 u11 u12 u13 u14 u15 u16 u17 u18 u19 u20 u21 u22 u23 u24 u25 u26 u27 u28 : Value} (hb : A.2 b = xx_o 9 [u0, u1, u2, u3, u4, u5, u6, u7, u8, u9, u10, u11, u12, u13, u14, u15, u16, u17, u18, u19, u20, u21, u22, u23, u24, u25, u26, u27, u28]) (hlt : b < A.1) (k : ∀ B : xx_H, B.1 = A.1 + 1 → B.2 b = xx_o 9 [u0, u1, .ref A.1, u3, u4, u5, u6, u7, u8, u9, u10, u11, u12, u13, u14, u15, u16, u17, u18, u19, u20, u21, u22, u23, u24, u25, u26, u27, u28] → B.2 A.1 = xx_i 1740 (fun _ => 0) → (∀ q, q ≠ b → q < A.1 → B.2 q = A.2 q) → xx_X G l mX9_init 1 19 5316 21 [(0, .ref b)] [] B Q) : xx_X G l mX9_init 1 20 7056 12 [(0, .ref b)] [] A Q := by
  refine xx_aload_n dX9_init_12 rfl ?_
  refine xx_sipush (v := 1740) dX9_init_13 (by decide) ?_
  refine xx_newa (kd := 1) (N := 1740) (z := .int 0) dX9_init_16 (by decide) rfl (by intro C h; cases h) wa_int rfl (by decide) (by decide) (by decide) (xx_gp fun A1 z1 h1 o1 => ?_)
  have t1 : A1.1 = A.1 + 1 := by omega
  have h1 : A1.2 A.1 = xx_i 1740 (fun _ => 0) := h1
  have hb_1 := (o1 b (by omega)).trans hb
  refine xx_putF xx_c9 dX9_init_18 wf_X9_14 (j := 2) (by decide) rfl rfl rfl rfl rfl hb_1 (Nat.le_of_ble_eq_true rfl) (xx_gu fun A2 z2 h2 o2 => ?_)
  have h2 : A2.2 b = xx_o 9 [u0, u1, .ref A.1, u3, u4, u5, u6, u7, u8, u9, u10, u11, u12, u13, u14, u15, u16, u17, u18, u19, u20, u21, u22, u23, u24, u25, u26, u27, u28] := h2
  have h1_2 := (o2 A.1 (by omega)).trans h1
  have t2 : A2.1 = A.1 + 1 := by omega
  exact k _ (by omega) h2 h1_2 (fun q hq1 hq2 => by rw [o2 q (by omega), o1 q (by omega)])
set_option maxRecDepth 100000 in
theorem s9_21 {G : xx_G} {l : Launch} {A : xx_H} {b : Nat} {Q : Option Value ⊕ String → xx_H → Prop} {u0 u1 u2 u3 u4 u5 u6 u7 u8 u9 u10 u11 u12 u13 u14 u15 u16 u17 u18 u19 u20 u21 u22 u23 u24 u25 u26 u27 u28 : Value} (hb : A.2 b = xx_o 9 [u0, u1, u2, u3, u4, u5, u6, u7, u8, u9, u10, u11, u12, u13, u14, u15, u16, u17, u18, u19, u20, u21, u22, u23, u24, u25, u26, u27, u28]) (hlt : b < A.1) (k : ∀ B : xx_H, B.1 = A.1 + 1 → B.2 b = xx_o 9 [u0, u1, u2, .ref A.1, u4, u5, u6, u7, u8, u9, u10, u11, u12, u13, u14, u15, u16, u17, u18, u19, u20, u21, u22, u23, u24, u25, u26, u27, u28] → B.2 A.1 = xx_i 1740 (fun _ => 0) → (∀ q, q ≠ b → q < A.1 → B.2 q = A.2 q) → xx_X G l mX9_init 1 18 3576 30 [(0, .ref b)] [] B Q) : xx_X G l mX9_init 1 19 5316 21 [(0, .ref b)] [] A Q := by
  refine xx_aload_n dX9_init_21 rfl ?_
  refine xx_sipush (v := 1740) dX9_init_22 (by decide) ?_
  refine xx_newa (kd := 1) (N := 1740) (z := .int 0) dX9_init_25 (by decide) rfl (by intro C h; cases h) wa_int rfl (by decide) (by decide) (by decide) (xx_gp fun A1 z1 h1 o1 => ?_)
  have t1 : A1.1 = A.1 + 1 := by omega
  have h1 : A1.2 A.1 = xx_i 1740 (fun _ => 0) := h1
  have hb_1 := (o1 b (by omega)).trans hb
  refine xx_putF xx_c9 dX9_init_27 wf_X9_17 (j := 3) (by decide) rfl rfl rfl rfl rfl hb_1 (Nat.le_of_ble_eq_true rfl) (xx_gu fun A2 z2 h2 o2 => ?_)
  have h2 : A2.2 b = xx_o 9 [u0, u1, u2, .ref A.1, u4, u5, u6, u7, u8, u9, u10, u11, u12, u13, u14, u15, u16, u17, u18, u19, u20, u21, u22, u23, u24, u25, u26, u27, u28] := h2
  have h1_2 := (o2 A.1 (by omega)).trans h1
  have t2 : A2.1 = A.1 + 1 := by omega
  exact k _ (by omega) h2 h1_2 (fun q hq1 hq2 => by rw [o2 q (by omega), o1 q (by omega)])
set_option maxRecDepth 100000 in
theorem s9_30 {G : xx_G} {l : Launch} {A : xx_H} {b : Nat} {Q : Option Value ⊕ String → xx_H → Prop} {u0 u1 u2 u3 u4 u5 u6 u7 u8 u9 u10 u11 u12 u13 u14 u15 u16 u17 u18 u19 u20 u21 u22 u23 u24 u25 u26 u27 u28 : Value} (hb : A.2 b = xx_o 9 [u0, u1, u2, u3, u4, u5, u6, u7, u8, u9, u10, u11, u12, u13, u14, u15, u16, u17, u18, u19, u20, u21, u22, u23, u24, u25, u26, u27, u28]) (hlt : b < A.1) (k : ∀ B : xx_H, B.1 = A.1 + 1 → B.2 b = xx_o 9 [u0, u1, u2, u3, u4, u5, .ref A.1, u7, u8, u9, u10, u11, u12, u13, u14, u15, u16, u17, u18, u19, u20, u21, u22, u23, u24, u25, u26, u27, u28] → B.2 A.1 = xx_i 72 (fun _ => 0) → (∀ q, q ≠ b → q < A.1 → B.2 q = A.2 q) → xx_X G l mX9_init 1 17 3504 38 [(0, .ref b)] [] B Q) : xx_X G l mX9_init 1 18 3576 30 [(0, .ref b)] [] A Q := by
  refine xx_aload_n dX9_init_30 rfl ?_
  refine xx_bipush (v := 72) dX9_init_31 (by decide) ?_
  refine xx_newa (kd := 1) (N := 72) (z := .int 0) dX9_init_33 (by decide) rfl (by intro C h; cases h) wa_int rfl (by decide) (by decide) (by decide) (xx_gp fun A1 z1 h1 o1 => ?_)
  have t1 : A1.1 = A.1 + 1 := by omega
  have h1 : A1.2 A.1 = xx_i 72 (fun _ => 0) := h1
  have hb_1 := (o1 b (by omega)).trans hb
  refine xx_putF xx_c9 dX9_init_35 wf_X9_20 (j := 6) (by decide) rfl rfl rfl rfl rfl hb_1 (Nat.le_of_ble_eq_true rfl) (xx_gu fun A2 z2 h2 o2 => ?_)
  have h2 : A2.2 b = xx_o 9 [u0, u1, u2, u3, u4, u5, .ref A.1, u7, u8, u9, u10, u11, u12, u13, u14, u15, u16, u17, u18, u19, u20, u21, u22, u23, u24, u25, u26, u27, u28] := h2
  have h1_2 := (o2 A.1 (by omega)).trans h1
  have t2 : A2.1 = A.1 + 1 := by omega
  exact k _ (by omega) h2 h1_2 (fun q hq1 hq2 => by rw [o2 q (by omega), o1 q (by omega)])
set_option maxRecDepth 100000 in
theorem s9_38 {G : xx_G} {l : Launch} {A : xx_H} {b : Nat} {Q : Option Value ⊕ String → xx_H → Prop} {u0 u1 u2 u3 u4 u5 u6 u7 u8 u9 u10 u11 u12 u13 u14 u15 u16 u17 u18 u19 u20 u21 u22 u23 u24 u25 u26 u27 u28 : Value} (hb : A.2 b = xx_o 9 [u0, u1, u2, u3, u4, u5, u6, u7, u8, u9, u10, u11, u12, u13, u14, u15, u16, u17, u18, u19, u20, u21, u22, u23, u24, u25, u26, u27, u28]) (hlt : b < A.1) (k : ∀ B : xx_H, B.1 = A.1 + 1 → B.2 b = xx_o 9 [u0, u1, u2, u3, u4, u5, u6, .ref A.1, u8, u9, u10, u11, u12, u13, u14, u15, u16, u17, u18, u19, u20, u21, u22, u23, u24, u25, u26, u27, u28] → B.2 A.1 = xx_i 72 (fun _ => 0) → (∀ q, q ≠ b → q < A.1 → B.2 q = A.2 q) → xx_X G l mX9_init 1 16 3432 46 [(0, .ref b)] [] B Q) : xx_X G l mX9_init 1 17 3504 38 [(0, .ref b)] [] A Q := by
  refine xx_aload_n dX9_init_38 rfl ?_
  refine xx_bipush (v := 72) dX9_init_39 (by decide) ?_
  refine xx_newa (kd := 1) (N := 72) (z := .int 0) dX9_init_41 (by decide) rfl (by intro C h; cases h) wa_int rfl (by decide) (by decide) (by decide) (xx_gp fun A1 z1 h1 o1 => ?_)
  have t1 : A1.1 = A.1 + 1 := by omega
  have h1 : A1.2 A.1 = xx_i 72 (fun _ => 0) := h1
  have hb_1 := (o1 b (by omega)).trans hb
  refine xx_putF xx_c9 dX9_init_43 wf_X9_23 (j := 7) (by decide) rfl rfl rfl rfl rfl hb_1 (Nat.le_of_ble_eq_true rfl) (xx_gu fun A2 z2 h2 o2 => ?_)
  have h2 : A2.2 b = xx_o 9 [u0, u1, u2, u3, u4, u5, u6, .ref A.1, u8, u9, u10, u11, u12, u13, u14, u15, u16, u17, u18, u19, u20, u21, u22, u23, u24, u25, u26, u27, u28] := h2
  have h1_2 := (o2 A.1 (by omega)).trans h1
  have t2 : A2.1 = A.1 + 1 := by omega
  exact k _ (by omega) h2 h1_2 (fun q hq1 hq2 => by rw [o2 q (by omega), o1 q (by omega)])
set_option maxRecDepth 100000 in
theorem s9_46 {G : xx_G} {l : Launch} {A : xx_H} {b : Nat} {Q : Option Value ⊕ String → xx_H → Prop} {u0 u1 u2 u3 u4 u5 u6 u7 u8 u9 u10 u11 u12 u13 u14 u15 u16 u17 u18 u19 u20 u21 u22 u23 u24 u25 u26 u27 u28 : Value} (hb : A.2 b = xx_o 9 [u0, u1, u2, u3, u4, u5, u6, u7, u8, u9, u10, u11, u12, u13, u14, u15, u16, u17, u18, u19, u20, u21, u22, u23, u24, u25, u26, u27, u28]) (hlt : b < A.1) (k : ∀ B : xx_H, B.1 = A.1 + 1 → B.2 b = xx_o 9 [u0, u1, u2, u3, u4, u5, u6, u7, .ref A.1, u9, u10, u11, u12, u13, u14, u15, u16, u17, u18, u19, u20, u21, u22, u23, u24, u25, u26, u27, u28] → B.2 A.1 = xx_i 12 (fun _ => 0) → (∀ q, q ≠ b → q < A.1 → B.2 q = A.2 q) → xx_X G l mX9_init 1 15 3420 54 [(0, .ref b)] [] B Q) : xx_X G l mX9_init 1 16 3432 46 [(0, .ref b)] [] A Q := by
  refine xx_aload_n dX9_init_46 rfl ?_
  refine xx_bipush (v := 12) dX9_init_47 (by decide) ?_
  refine xx_newa (kd := 1) (N := 12) (z := .int 0) dX9_init_49 (by decide) rfl (by intro C h; cases h) wa_int rfl (by decide) (by decide) (by decide) (xx_gp fun A1 z1 h1 o1 => ?_)
  have t1 : A1.1 = A.1 + 1 := by omega
  have h1 : A1.2 A.1 = xx_i 12 (fun _ => 0) := h1
  have hb_1 := (o1 b (by omega)).trans hb
  refine xx_putF xx_c9 dX9_init_51 wf_X9_26 (j := 8) (by decide) rfl rfl rfl rfl rfl hb_1 (Nat.le_of_ble_eq_true rfl) (xx_gu fun A2 z2 h2 o2 => ?_)
  have h2 : A2.2 b = xx_o 9 [u0, u1, u2, u3, u4, u5, u6, u7, .ref A.1, u9, u10, u11, u12, u13, u14, u15, u16, u17, u18, u19, u20, u21, u22, u23, u24, u25, u26, u27, u28] := h2
  have h1_2 := (o2 A.1 (by omega)).trans h1
  have t2 : A2.1 = A.1 + 1 := by omega
  exact k _ (by omega) h2 h1_2 (fun q hq1 hq2 => by rw [o2 q (by omega), o1 q (by omega)])
set_option maxRecDepth 100000 in
theorem s9_54 {G : xx_G} {l : Launch} {A : xx_H} {b : Nat} {Q : Option Value ⊕ String → xx_H → Prop} {u0 u1 u2 u3 u4 u5 u6 u7 u8 u9 u10 u11 u12 u13 u14 u15 u16 u17 u18 u19 u20 u21 u22 u23 u24 u25 u26 u27 u28 : Value} (hb : A.2 b = xx_o 9 [u0, u1, u2, u3, u4, u5, u6, u7, u8, u9, u10, u11, u12, u13, u14, u15, u16, u17, u18, u19, u20, u21, u22, u23, u24, u25, u26, u27, u28]) (hlt : b < A.1) (k : ∀ B : xx_H, B.1 = A.1 + 1 → B.2 b = xx_o 9 [u0, u1, u2, u3, u4, u5, u6, u7, u8, .ref A.1, u10, u11, u12, u13, u14, u15, u16, u17, u18, u19, u20, u21, u22, u23, u24, u25, u26, u27, u28] → B.2 A.1 = xx_i 12 (fun _ => 0) → (∀ q, q ≠ b → q < A.1 → B.2 q = A.2 q) → xx_X G l mX9_init 1 14 3408 62 [(0, .ref b)] [] B Q) : xx_X G l mX9_init 1 15 3420 54 [(0, .ref b)] [] A Q := by
  refine xx_aload_n dX9_init_54 rfl ?_
  refine xx_bipush (v := 12) dX9_init_55 (by decide) ?_
  refine xx_newa (kd := 1) (N := 12) (z := .int 0) dX9_init_57 (by decide) rfl (by intro C h; cases h) wa_int rfl (by decide) (by decide) (by decide) (xx_gp fun A1 z1 h1 o1 => ?_)
  have t1 : A1.1 = A.1 + 1 := by omega
  have h1 : A1.2 A.1 = xx_i 12 (fun _ => 0) := h1
  have hb_1 := (o1 b (by omega)).trans hb
  refine xx_putF xx_c9 dX9_init_59 wf_X9_29 (j := 9) (by decide) rfl rfl rfl rfl rfl hb_1 (Nat.le_of_ble_eq_true rfl) (xx_gu fun A2 z2 h2 o2 => ?_)
  have h2 : A2.2 b = xx_o 9 [u0, u1, u2, u3, u4, u5, u6, u7, u8, .ref A.1, u10, u11, u12, u13, u14, u15, u16, u17, u18, u19, u20, u21, u22, u23, u24, u25, u26, u27, u28] := h2
  have h1_2 := (o2 A.1 (by omega)).trans h1
  have t2 : A2.1 = A.1 + 1 := by omega
  exact k _ (by omega) h2 h1_2 (fun q hq1 hq2 => by rw [o2 q (by omega), o1 q (by omega)])
set_option maxRecDepth 100000 in
theorem s9_62 {G : xx_G} {l : Launch} {A : xx_H} {b : Nat} {Q : Option Value ⊕ String → xx_H → Prop} {u0 u1 u2 u3 u4 u5 u6 u7 u8 u9 u10 u11 u12 u13 u14 u15 u16 u17 u18 u19 u20 u21 u22 u23 u24 u25 u26 u27 u28 : Value} (hb : A.2 b = xx_o 9 [u0, u1, u2, u3, u4, u5, u6, u7, u8, u9, u10, u11, u12, u13, u14, u15, u16, u17, u18, u19, u20, u21, u22, u23, u24, u25, u26, u27, u28]) (hlt : b < A.1) (k : ∀ B : xx_H, B.1 = A.1 + 0 → B.2 b = xx_o 9 [u0, u1, u2, u3, u4, u5, u6, u7, u8, u9, .int (-1), u11, u12, u13, u14, u15, u16, u17, u18, u19, u20, u21, u22, u23, u24, u25, u26, u27, u28] → (∀ q, q ≠ b → q < A.1 → B.2 q = A.2 q) → xx_X G l mX9_init 1 14 3408 67 [(0, .ref b)] [] B Q) : xx_X G l mX9_init 1 14 3408 62 [(0, .ref b)] [] A Q := by
  refine xx_aload_n dX9_init_62 rfl ?_
  refine xx_iconst (v := (-1)) dX9_init_63 (by decide) ?_
  refine xx_put xx_c9 dX9_init_64 wf_X9_32 (j := 10) (by decide) rfl rfl rfl hb (Nat.le_of_ble_eq_true rfl) (xx_gu fun A1 z1 h1 o1 => ?_)
  have h1 : A1.2 b = xx_o 9 [u0, u1, u2, u3, u4, u5, u6, u7, u8, u9, .int (-1), u11, u12, u13, u14, u15, u16, u17, u18, u19, u20, u21, u22, u23, u24, u25, u26, u27, u28] := h1
  have t1 : A1.1 = A.1 + 0 := by omega
  exact k _ (by omega) h1 (fun q hq1 hq2 => by rw [o1 q (by omega)])
set_option maxRecDepth 100000 in
theorem s9_67 {G : xx_G} {l : Launch} {A : xx_H} {b : Nat} {Q : Option Value ⊕ String → xx_H → Prop} {u0 u1 u2 u3 u4 u5 u6 u7 u8 u9 u10 u11 u12 u13 u14 u15 u16 u17 u18 u19 u20 u21 u22 u23 u24 u25 u26 u27 u28 : Value} (hb : A.2 b = xx_o 9 [u0, u1, u2, u3, u4, u5, u6, u7, u8, u9, u10, u11, u12, u13, u14, u15, u16, u17, u18, u19, u20, u21, u22, u23, u24, u25, u26, u27, u28]) (hlt : b < A.1) (k : ∀ B : xx_H, B.1 = A.1 + 1 → B.2 b = xx_o 9 [u0, u1, u2, u3, u4, u5, u6, u7, u8, u9, u10, u11, .ref A.1, u13, u14, u15, u16, u17, u18, u19, u20, u21, u22, u23, u24, u25, u26, u27, u28] → B.2 A.1 = xx_i 1000 (fun _ => 0) → (∀ q, q ≠ b → q < A.1 → B.2 q = A.2 q) → xx_X G l mX9_init 1 13 2408 76 [(0, .ref b)] [] B Q) : xx_X G l mX9_init 1 14 3408 67 [(0, .ref b)] [] A Q := by
  refine xx_aload_n dX9_init_67 rfl ?_
  refine xx_sipush (v := 1000) dX9_init_68 (by decide) ?_
  refine xx_newa (kd := 1) (N := 1000) (z := .int 0) dX9_init_71 (by decide) rfl (by intro C h; cases h) wa_int rfl (by decide) (by decide) (by decide) (xx_gp fun A1 z1 h1 o1 => ?_)
  have t1 : A1.1 = A.1 + 1 := by omega
  have h1 : A1.2 A.1 = xx_i 1000 (fun _ => 0) := h1
  have hb_1 := (o1 b (by omega)).trans hb
  refine xx_putF xx_c9 dX9_init_73 wf_X9_36 (j := 12) (by decide) rfl rfl rfl rfl rfl hb_1 (Nat.le_of_ble_eq_true rfl) (xx_gu fun A2 z2 h2 o2 => ?_)
  have h2 : A2.2 b = xx_o 9 [u0, u1, u2, u3, u4, u5, u6, u7, u8, u9, u10, u11, .ref A.1, u13, u14, u15, u16, u17, u18, u19, u20, u21, u22, u23, u24, u25, u26, u27, u28] := h2
  have h1_2 := (o2 A.1 (by omega)).trans h1
  have t2 : A2.1 = A.1 + 1 := by omega
  exact k _ (by omega) h2 h1_2 (fun q hq1 hq2 => by rw [o2 q (by omega), o1 q (by omega)])
set_option maxRecDepth 100000 in
theorem s9_76 {G : xx_G} {l : Launch} {A : xx_H} {b : Nat} {Q : Option Value ⊕ String → xx_H → Prop} {u0 u1 u2 u3 u4 u5 u6 u7 u8 u9 u10 u11 u12 u13 u14 u15 u16 u17 u18 u19 u20 u21 u22 u23 u24 u25 u26 u27 u28 : Value} (hb : A.2 b = xx_o 9 [u0, u1, u2, u3, u4, u5, u6, u7, u8, u9, u10, u11, u12, u13, u14, u15, u16, u17, u18, u19, u20, u21, u22, u23, u24, u25, u26, u27, u28]) (hlt : b < A.1) (k : ∀ B : xx_H, B.1 = A.1 + 1 → B.2 b = xx_o 9 [u0, u1, u2, u3, u4, u5, u6, u7, u8, u9, u10, u11, u12, .ref A.1, u14, u15, u16, u17, u18, u19, u20, u21, u22, u23, u24, u25, u26, u27, u28] → B.2 A.1 = xx_i 1000 (fun _ => 0) → (∀ q, q ≠ b → q < A.1 → B.2 q = A.2 q) → xx_X G l mX9_init 1 12 1408 85 [(0, .ref b)] [] B Q) : xx_X G l mX9_init 1 13 2408 76 [(0, .ref b)] [] A Q := by
  refine xx_aload_n dX9_init_76 rfl ?_
  refine xx_sipush (v := 1000) dX9_init_77 (by decide) ?_
  refine xx_newa (kd := 1) (N := 1000) (z := .int 0) dX9_init_80 (by decide) rfl (by intro C h; cases h) wa_int rfl (by decide) (by decide) (by decide) (xx_gp fun A1 z1 h1 o1 => ?_)
  have t1 : A1.1 = A.1 + 1 := by omega
  have h1 : A1.2 A.1 = xx_i 1000 (fun _ => 0) := h1
  have hb_1 := (o1 b (by omega)).trans hb
  refine xx_putF xx_c9 dX9_init_82 wf_X9_39 (j := 13) (by decide) rfl rfl rfl rfl rfl hb_1 (Nat.le_of_ble_eq_true rfl) (xx_gu fun A2 z2 h2 o2 => ?_)
  have h2 : A2.2 b = xx_o 9 [u0, u1, u2, u3, u4, u5, u6, u7, u8, u9, u10, u11, u12, .ref A.1, u14, u15, u16, u17, u18, u19, u20, u21, u22, u23, u24, u25, u26, u27, u28] := h2
  have h1_2 := (o2 A.1 (by omega)).trans h1
  have t2 : A2.1 = A.1 + 1 := by omega
  exact k _ (by omega) h2 h1_2 (fun q hq1 hq2 => by rw [o2 q (by omega), o1 q (by omega)])
set_option maxRecDepth 100000 in
theorem s9_85 {G : xx_G} {l : Launch} {A : xx_H} {b : Nat} {Q : Option Value ⊕ String → xx_H → Prop} {u0 u1 u2 u3 u4 u5 u6 u7 u8 u9 u10 u11 u12 u13 u14 u15 u16 u17 u18 u19 u20 u21 u22 u23 u24 u25 u26 u27 u28 : Value} (hb : A.2 b = xx_o 9 [u0, u1, u2, u3, u4, u5, u6, u7, u8, u9, u10, u11, u12, u13, u14, u15, u16, u17, u18, u19, u20, u21, u22, u23, u24, u25, u26, u27, u28]) (hlt : b < A.1) (k : ∀ B : xx_H, B.1 = A.1 + 1 → B.2 b = xx_o 9 [u0, u1, u2, u3, u4, u5, u6, u7, u8, u9, u10, u11, u12, u13, .ref A.1, u15, u16, u17, u18, u19, u20, u21, u22, u23, u24, u25, u26, u27, u28] → B.2 A.1 = xx_i 1000 (fun _ => 0) → (∀ q, q ≠ b → q < A.1 → B.2 q = A.2 q) → xx_X G l mX9_init 1 11 408 94 [(0, .ref b)] [] B Q) : xx_X G l mX9_init 1 12 1408 85 [(0, .ref b)] [] A Q := by
  refine xx_aload_n dX9_init_85 rfl ?_
  refine xx_sipush (v := 1000) dX9_init_86 (by decide) ?_
  refine xx_newa (kd := 1) (N := 1000) (z := .int 0) dX9_init_89 (by decide) rfl (by intro C h; cases h) wa_int rfl (by decide) (by decide) (by decide) (xx_gp fun A1 z1 h1 o1 => ?_)
  have t1 : A1.1 = A.1 + 1 := by omega
  have h1 : A1.2 A.1 = xx_i 1000 (fun _ => 0) := h1
  have hb_1 := (o1 b (by omega)).trans hb
  refine xx_putF xx_c9 dX9_init_91 wf_X9_42 (j := 14) (by decide) rfl rfl rfl rfl rfl hb_1 (Nat.le_of_ble_eq_true rfl) (xx_gu fun A2 z2 h2 o2 => ?_)
  have h2 : A2.2 b = xx_o 9 [u0, u1, u2, u3, u4, u5, u6, u7, u8, u9, u10, u11, u12, u13, .ref A.1, u15, u16, u17, u18, u19, u20, u21, u22, u23, u24, u25, u26, u27, u28] := h2
  have h1_2 := (o2 A.1 (by omega)).trans h1
  have t2 : A2.1 = A.1 + 1 := by omega
  exact k _ (by omega) h2 h1_2 (fun q hq1 hq2 => by rw [o2 q (by omega), o1 q (by omega)])
set_option maxRecDepth 100000 in
theorem s9_94 {G : xx_G} {l : Launch} {A : xx_H} {b : Nat} {Q : Option Value ⊕ String → xx_H → Prop} {u0 u1 u2 u3 u4 u5 u6 u7 u8 u9 u10 u11 u12 u13 u14 u15 u16 u17 u18 u19 u20 u21 u22 u23 u24 u25 u26 u27 u28 : Value} (hb : A.2 b = xx_o 9 [u0, u1, u2, u3, u4, u5, u6, u7, u8, u9, u10, u11, u12, u13, u14, u15, u16, u17, u18, u19, u20, u21, u22, u23, u24, u25, u26, u27, u28]) (hlt : b < A.1) (k : ∀ B : xx_H, B.1 = A.1 + 1 → B.2 b = xx_o 9 [u0, u1, u2, u3, u4, u5, u6, u7, u8, u9, u10, u11, u12, u13, u14, u15, u16, .ref A.1, u18, u19, u20, u21, u22, u23, u24, u25, u26, u27, u28] → B.2 A.1 = xx_i 200 (fun _ => 0) → (∀ q, q ≠ b → q < A.1 → B.2 q = A.2 q) → xx_X G l mX9_init 1 10 208 103 [(0, .ref b)] [] B Q) : xx_X G l mX9_init 1 11 408 94 [(0, .ref b)] [] A Q := by
  refine xx_aload_n dX9_init_94 rfl ?_
  refine xx_sipush (v := 200) dX9_init_95 (by decide) ?_
  refine xx_newa (kd := 1) (N := 200) (z := .int 0) dX9_init_98 (by decide) rfl (by intro C h; cases h) wa_int rfl (by decide) (by decide) (by decide) (xx_gp fun A1 z1 h1 o1 => ?_)
  have t1 : A1.1 = A.1 + 1 := by omega
  have h1 : A1.2 A.1 = xx_i 200 (fun _ => 0) := h1
  have hb_1 := (o1 b (by omega)).trans hb
  refine xx_putF xx_c9 dX9_init_100 wf_X9_45 (j := 17) (by decide) rfl rfl rfl rfl rfl hb_1 (Nat.le_of_ble_eq_true rfl) (xx_gu fun A2 z2 h2 o2 => ?_)
  have h2 : A2.2 b = xx_o 9 [u0, u1, u2, u3, u4, u5, u6, u7, u8, u9, u10, u11, u12, u13, u14, u15, u16, .ref A.1, u18, u19, u20, u21, u22, u23, u24, u25, u26, u27, u28] := h2
  have h1_2 := (o2 A.1 (by omega)).trans h1
  have t2 : A2.1 = A.1 + 1 := by omega
  exact k _ (by omega) h2 h1_2 (fun q hq1 hq2 => by rw [o2 q (by omega), o1 q (by omega)])
set_option maxRecDepth 100000 in
theorem s9_103 {G : xx_G} {l : Launch} {A : xx_H} {b : Nat} {Q : Option Value ⊕ String → xx_H → Prop} {u0 u1 u2 u3 u4 u5 u6 u7 u8 u9 u10 u11 u12 u13 u14 u15 u16 u17 u18 u19 u20 u21 u22 u23 u24 u25 u26 u27 u28 : Value} (hb : A.2 b = xx_o 9 [u0, u1, u2, u3, u4, u5, u6, u7, u8, u9, u10, u11, u12, u13, u14, u15, u16, u17, u18, u19, u20, u21, u22, u23, u24, u25, u26, u27, u28]) (hlt : b < A.1) (k : ∀ B : xx_H, B.1 = A.1 + 1 → B.2 b = xx_o 9 [u0, u1, u2, u3, u4, u5, u6, u7, u8, u9, u10, u11, u12, u13, u14, u15, u16, u17, .ref A.1, u19, u20, u21, u22, u23, u24, u25, u26, u27, u28] → B.2 A.1 = xx_i 12 (fun _ => 0) → (∀ q, q ≠ b → q < A.1 → B.2 q = A.2 q) → xx_X G l mX9_init 1 9 196 111 [(0, .ref b)] [] B Q) : xx_X G l mX9_init 1 10 208 103 [(0, .ref b)] [] A Q := by
  refine xx_aload_n dX9_init_103 rfl ?_
  refine xx_bipush (v := 12) dX9_init_104 (by decide) ?_
  refine xx_newa (kd := 1) (N := 12) (z := .int 0) dX9_init_106 (by decide) rfl (by intro C h; cases h) wa_int rfl (by decide) (by decide) (by decide) (xx_gp fun A1 z1 h1 o1 => ?_)
  have t1 : A1.1 = A.1 + 1 := by omega
  have h1 : A1.2 A.1 = xx_i 12 (fun _ => 0) := h1
  have hb_1 := (o1 b (by omega)).trans hb
  refine xx_putF xx_c9 dX9_init_108 wf_X9_48 (j := 18) (by decide) rfl rfl rfl rfl rfl hb_1 (Nat.le_of_ble_eq_true rfl) (xx_gu fun A2 z2 h2 o2 => ?_)
  have h2 : A2.2 b = xx_o 9 [u0, u1, u2, u3, u4, u5, u6, u7, u8, u9, u10, u11, u12, u13, u14, u15, u16, u17, .ref A.1, u19, u20, u21, u22, u23, u24, u25, u26, u27, u28] := h2
  have h1_2 := (o2 A.1 (by omega)).trans h1
  have t2 : A2.1 = A.1 + 1 := by omega
  exact k _ (by omega) h2 h1_2 (fun q hq1 hq2 => by rw [o2 q (by omega), o1 q (by omega)])
set_option maxRecDepth 100000 in
theorem s9_111 {G : xx_G} {l : Launch} {A : xx_H} {b : Nat} {Q : Option Value ⊕ String → xx_H → Prop} {u0 u1 u2 u3 u4 u5 u6 u7 u8 u9 u10 u11 u12 u13 u14 u15 u16 u17 u18 u19 u20 u21 u22 u23 u24 u25 u26 u27 u28 : Value} (hb : A.2 b = xx_o 9 [u0, u1, u2, u3, u4, u5, u6, u7, u8, u9, u10, u11, u12, u13, u14, u15, u16, u17, u18, u19, u20, u21, u22, u23, u24, u25, u26, u27, u28]) (hlt : b < A.1) (k : ∀ B : xx_H, B.1 = A.1 + 1 → B.2 b = xx_o 9 [u0, u1, u2, u3, u4, u5, u6, u7, u8, u9, u10, u11, u12, u13, u14, u15, u16, u17, u18, .ref A.1, u20, u21, u22, u23, u24, u25, u26, u27, u28] → B.2 A.1 = xx_z 12 (fun _ => 0) → (∀ q, q ≠ b → q < A.1 → B.2 q = A.2 q) → xx_X G l mX9_init 1 8 184 119 [(0, .ref b)] [] B Q) : xx_X G l mX9_init 1 9 196 111 [(0, .ref b)] [] A Q := by
  refine xx_aload_n dX9_init_111 rfl ?_
  refine xx_bipush (v := 12) dX9_init_112 (by decide) ?_
  refine xx_newa (kd := 4) (N := 12) (z := .int 0) dX9_init_114 (by decide) rfl (by intro C h; cases h) wa_boolean rfl (by decide) (by decide) (by decide) (xx_gp fun A1 z1 h1 o1 => ?_)
  have t1 : A1.1 = A.1 + 1 := by omega
  have h1 : A1.2 A.1 = xx_z 12 (fun _ => 0) := h1
  have hb_1 := (o1 b (by omega)).trans hb
  refine xx_putF xx_c9 dX9_init_116 wf_X9_51 (j := 19) (by decide) rfl rfl rfl rfl rfl hb_1 (Nat.le_of_ble_eq_true rfl) (xx_gu fun A2 z2 h2 o2 => ?_)
  have h2 : A2.2 b = xx_o 9 [u0, u1, u2, u3, u4, u5, u6, u7, u8, u9, u10, u11, u12, u13, u14, u15, u16, u17, u18, .ref A.1, u20, u21, u22, u23, u24, u25, u26, u27, u28] := h2
  have h1_2 := (o2 A.1 (by omega)).trans h1
  have t2 : A2.1 = A.1 + 1 := by omega
  exact k _ (by omega) h2 h1_2 (fun q hq1 hq2 => by rw [o2 q (by omega), o1 q (by omega)])
set_option maxRecDepth 100000 in
theorem s9_119 {G : xx_G} {l : Launch} {A : xx_H} {b : Nat} {Q : Option Value ⊕ String → xx_H → Prop} {u0 u1 u2 u3 u4 u5 u6 u7 u8 u9 u10 u11 u12 u13 u14 u15 u16 u17 u18 u19 u20 u21 u22 u23 u24 u25 u26 u27 u28 : Value} (hb : A.2 b = xx_o 9 [u0, u1, u2, u3, u4, u5, u6, u7, u8, u9, u10, u11, u12, u13, u14, u15, u16, u17, u18, u19, u20, u21, u22, u23, u24, u25, u26, u27, u28]) (hlt : b < A.1) (k : ∀ B : xx_H, B.1 = A.1 + 1 → B.2 b = xx_o 9 [u0, u1, u2, u3, u4, u5, u6, u7, u8, u9, u10, u11, u12, u13, u14, u15, u16, u17, u18, u19, .ref A.1, u21, u22, u23, u24, u25, u26, u27, u28] → B.2 A.1 = xx_l 2 (fun _ => 0) → (∀ q, q ≠ b → q < A.1 → B.2 q = A.2 q) → xx_X G l mX9_init 1 7 182 126 [(0, .ref b)] [] B Q) : xx_X G l mX9_init 1 8 184 119 [(0, .ref b)] [] A Q := by
  refine xx_aload_n dX9_init_119 rfl ?_
  refine xx_iconst (v := 2) dX9_init_120 (by decide) ?_
  refine xx_newa (kd := 3) (N := 2) (z := .long 0) dX9_init_121 (by decide) rfl (by intro C h; cases h) wa_long rfl (by decide) (by decide) (by decide) (xx_gp fun A1 z1 h1 o1 => ?_)
  have t1 : A1.1 = A.1 + 1 := by omega
  have h1 : A1.2 A.1 = xx_l 2 (fun _ => 0) := h1
  have hb_1 := (o1 b (by omega)).trans hb
  refine xx_putF xx_c9 dX9_init_123 wf_X9_55 (j := 20) (by decide) rfl rfl rfl rfl rfl hb_1 (Nat.le_of_ble_eq_true rfl) (xx_gu fun A2 z2 h2 o2 => ?_)
  have h2 : A2.2 b = xx_o 9 [u0, u1, u2, u3, u4, u5, u6, u7, u8, u9, u10, u11, u12, u13, u14, u15, u16, u17, u18, u19, .ref A.1, u21, u22, u23, u24, u25, u26, u27, u28] := h2
  have h1_2 := (o2 A.1 (by omega)).trans h1
  have t2 : A2.1 = A.1 + 1 := by omega
  exact k _ (by omega) h2 h1_2 (fun q hq1 hq2 => by rw [o2 q (by omega), o1 q (by omega)])
set_option maxRecDepth 100000 in
theorem s9_126 {G : xx_G} {l : Launch} {A : xx_H} {b : Nat} {Q : Option Value ⊕ String → xx_H → Prop} {u0 u1 u2 u3 u4 u5 u6 u7 u8 u9 u10 u11 u12 u13 u14 u15 u16 u17 u18 u19 u20 u21 u22 u23 u24 u25 u26 u27 u28 : Value} (hb : A.2 b = xx_o 9 [u0, u1, u2, u3, u4, u5, u6, u7, u8, u9, u10, u11, u12, u13, u14, u15, u16, u17, u18, u19, u20, u21, u22, u23, u24, u25, u26, u27, u28]) (hlt : b < A.1) (k : ∀ B : xx_H, B.1 = A.1 + 1 → B.2 b = xx_o 9 [u0, u1, u2, u3, u4, u5, u6, u7, u8, u9, u10, u11, u12, u13, u14, u15, u16, u17, u18, u19, u20, .ref A.1, u22, u23, u24, u25, u26, u27, u28] → B.2 A.1 = xx_l 72 (fun _ => 0) → (∀ q, q ≠ b → q < A.1 → B.2 q = A.2 q) → xx_X G l mX9_init 1 6 110 134 [(0, .ref b)] [] B Q) : xx_X G l mX9_init 1 7 182 126 [(0, .ref b)] [] A Q := by
  refine xx_aload_n dX9_init_126 rfl ?_
  refine xx_bipush (v := 72) dX9_init_127 (by decide) ?_
  refine xx_newa (kd := 3) (N := 72) (z := .long 0) dX9_init_129 (by decide) rfl (by intro C h; cases h) wa_long rfl (by decide) (by decide) (by decide) (xx_gp fun A1 z1 h1 o1 => ?_)
  have t1 : A1.1 = A.1 + 1 := by omega
  have h1 : A1.2 A.1 = xx_l 72 (fun _ => 0) := h1
  have hb_1 := (o1 b (by omega)).trans hb
  refine xx_putF xx_c9 dX9_init_131 wf_X9_59 (j := 21) (by decide) rfl rfl rfl rfl rfl hb_1 (Nat.le_of_ble_eq_true rfl) (xx_gu fun A2 z2 h2 o2 => ?_)
  have h2 : A2.2 b = xx_o 9 [u0, u1, u2, u3, u4, u5, u6, u7, u8, u9, u10, u11, u12, u13, u14, u15, u16, u17, u18, u19, u20, .ref A.1, u22, u23, u24, u25, u26, u27, u28] := h2
  have h1_2 := (o2 A.1 (by omega)).trans h1
  have t2 : A2.1 = A.1 + 1 := by omega
  exact k _ (by omega) h2 h1_2 (fun q hq1 hq2 => by rw [o2 q (by omega), o1 q (by omega)])
set_option maxRecDepth 100000 in
theorem s9_134 {G : xx_G} {l : Launch} {A : xx_H} {b : Nat} {Q : Option Value ⊕ String → xx_H → Prop} {u0 u1 u2 u3 u4 u5 u6 u7 u8 u9 u10 u11 u12 u13 u14 u15 u16 u17 u18 u19 u20 u21 u22 u23 u24 u25 u26 u27 u28 : Value} (hb : A.2 b = xx_o 9 [u0, u1, u2, u3, u4, u5, u6, u7, u8, u9, u10, u11, u12, u13, u14, u15, u16, u17, u18, u19, u20, u21, u22, u23, u24, u25, u26, u27, u28]) (hlt : b < A.1) (k : ∀ B : xx_H, B.1 = A.1 + 1 → B.2 b = xx_o 9 [u0, u1, u2, u3, u4, u5, u6, u7, u8, u9, u10, u11, u12, u13, u14, u15, u16, u17, u18, u19, u20, u21, .ref A.1, u23, u24, u25, u26, u27, u28] → B.2 A.1 = xx_l 2 (fun _ => 0) → (∀ q, q ≠ b → q < A.1 → B.2 q = A.2 q) → xx_X G l mX9_init 1 5 108 141 [(0, .ref b)] [] B Q) : xx_X G l mX9_init 1 6 110 134 [(0, .ref b)] [] A Q := by
  refine xx_aload_n dX9_init_134 rfl ?_
  refine xx_iconst (v := 2) dX9_init_135 (by decide) ?_
  refine xx_newa (kd := 3) (N := 2) (z := .long 0) dX9_init_136 (by decide) rfl (by intro C h; cases h) wa_long rfl (by decide) (by decide) (by decide) (xx_gp fun A1 z1 h1 o1 => ?_)
  have t1 : A1.1 = A.1 + 1 := by omega
  have h1 : A1.2 A.1 = xx_l 2 (fun _ => 0) := h1
  have hb_1 := (o1 b (by omega)).trans hb
  refine xx_putF xx_c9 dX9_init_138 wf_X9_62 (j := 22) (by decide) rfl rfl rfl rfl rfl hb_1 (Nat.le_of_ble_eq_true rfl) (xx_gu fun A2 z2 h2 o2 => ?_)
  have h2 : A2.2 b = xx_o 9 [u0, u1, u2, u3, u4, u5, u6, u7, u8, u9, u10, u11, u12, u13, u14, u15, u16, u17, u18, u19, u20, u21, .ref A.1, u23, u24, u25, u26, u27, u28] := h2
  have h1_2 := (o2 A.1 (by omega)).trans h1
  have t2 : A2.1 = A.1 + 1 := by omega
  exact k _ (by omega) h2 h1_2 (fun q hq1 hq2 => by rw [o2 q (by omega), o1 q (by omega)])
set_option maxRecDepth 100000 in
theorem s9_141 {G : xx_G} {l : Launch} {A : xx_H} {b : Nat} {Q : Option Value ⊕ String → xx_H → Prop} {u0 u1 u2 u3 u4 u5 u6 u7 u8 u9 u10 u11 u12 u13 u14 u15 u16 u17 u18 u19 u20 u21 u22 u23 u24 u25 u26 u27 u28 : Value} (hb : A.2 b = xx_o 9 [u0, u1, u2, u3, u4, u5, u6, u7, u8, u9, u10, u11, u12, u13, u14, u15, u16, u17, u18, u19, u20, u21, u22, u23, u24, u25, u26, u27, u28]) (hlt : b < A.1) (k : ∀ B : xx_H, B.1 = A.1 + 1 → B.2 b = xx_o 9 [u0, u1, u2, u3, u4, u5, u6, u7, u8, u9, u10, u11, u12, u13, u14, u15, u16, u17, u18, u19, u20, u21, u22, .ref A.1, u24, u25, u26, u27, u28] → B.2 A.1 = xx_i 42 (fun _ => 0) → (∀ q, q ≠ b → q < A.1 → B.2 q = A.2 q) → xx_X G l mX9_init 1 4 66 149 [(0, .ref b)] [] B Q) : xx_X G l mX9_init 1 5 108 141 [(0, .ref b)] [] A Q := by
  refine xx_aload_n dX9_init_141 rfl ?_
  refine xx_bipush (v := 42) dX9_init_142 (by decide) ?_
  refine xx_newa (kd := 1) (N := 42) (z := .int 0) dX9_init_144 (by decide) rfl (by intro C h; cases h) wa_int rfl (by decide) (by decide) (by decide) (xx_gp fun A1 z1 h1 o1 => ?_)
  have t1 : A1.1 = A.1 + 1 := by omega
  have h1 : A1.2 A.1 = xx_i 42 (fun _ => 0) := h1
  have hb_1 := (o1 b (by omega)).trans hb
  refine xx_putF xx_c9 dX9_init_146 wf_X9_65 (j := 23) (by decide) rfl rfl rfl rfl rfl hb_1 (Nat.le_of_ble_eq_true rfl) (xx_gu fun A2 z2 h2 o2 => ?_)
  have h2 : A2.2 b = xx_o 9 [u0, u1, u2, u3, u4, u5, u6, u7, u8, u9, u10, u11, u12, u13, u14, u15, u16, u17, u18, u19, u20, u21, u22, .ref A.1, u24, u25, u26, u27, u28] := h2
  have h1_2 := (o2 A.1 (by omega)).trans h1
  have t2 : A2.1 = A.1 + 1 := by omega
  exact k _ (by omega) h2 h1_2 (fun q hq1 hq2 => by rw [o2 q (by omega), o1 q (by omega)])
set_option maxRecDepth 100000 in
theorem s9_149 {G : xx_G} {l : Launch} {A : xx_H} {b : Nat} {Q : Option Value ⊕ String → xx_H → Prop} {u0 u1 u2 u3 u4 u5 u6 u7 u8 u9 u10 u11 u12 u13 u14 u15 u16 u17 u18 u19 u20 u21 u22 u23 u24 u25 u26 u27 u28 : Value} (hb : A.2 b = xx_o 9 [u0, u1, u2, u3, u4, u5, u6, u7, u8, u9, u10, u11, u12, u13, u14, u15, u16, u17, u18, u19, u20, u21, u22, u23, u24, u25, u26, u27, u28]) (hlt : b < A.1) (k : ∀ B : xx_H, B.1 = A.1 + 1 → B.2 b = xx_o 9 [u0, u1, u2, u3, u4, u5, u6, u7, u8, u9, u10, u11, u12, u13, u14, u15, u16, u17, u18, u19, u20, u21, u22, u23, .ref A.1, u25, u26, u27, u28] → B.2 A.1 = xx_i 42 (fun _ => 0) → (∀ q, q ≠ b → q < A.1 → B.2 q = A.2 q) → xx_X G l mX9_init 1 3 24 157 [(0, .ref b)] [] B Q) : xx_X G l mX9_init 1 4 66 149 [(0, .ref b)] [] A Q := by
  refine xx_aload_n dX9_init_149 rfl ?_
  refine xx_bipush (v := 42) dX9_init_150 (by decide) ?_
  refine xx_newa (kd := 1) (N := 42) (z := .int 0) dX9_init_152 (by decide) rfl (by intro C h; cases h) wa_int rfl (by decide) (by decide) (by decide) (xx_gp fun A1 z1 h1 o1 => ?_)
  have t1 : A1.1 = A.1 + 1 := by omega
  have h1 : A1.2 A.1 = xx_i 42 (fun _ => 0) := h1
  have hb_1 := (o1 b (by omega)).trans hb
  refine xx_putF xx_c9 dX9_init_154 wf_X9_68 (j := 24) (by decide) rfl rfl rfl rfl rfl hb_1 (Nat.le_of_ble_eq_true rfl) (xx_gu fun A2 z2 h2 o2 => ?_)
  have h2 : A2.2 b = xx_o 9 [u0, u1, u2, u3, u4, u5, u6, u7, u8, u9, u10, u11, u12, u13, u14, u15, u16, u17, u18, u19, u20, u21, u22, u23, .ref A.1, u25, u26, u27, u28] := h2
  have h1_2 := (o2 A.1 (by omega)).trans h1
  have t2 : A2.1 = A.1 + 1 := by omega
  exact k _ (by omega) h2 h1_2 (fun q hq1 hq2 => by rw [o2 q (by omega), o1 q (by omega)])
set_option maxRecDepth 100000 in
theorem s9_157 {G : xx_G} {l : Launch} {A : xx_H} {b : Nat} {Q : Option Value ⊕ String → xx_H → Prop} {u0 u1 u2 u3 u4 u5 u6 u7 u8 u9 u10 u11 u12 u13 u14 u15 u16 u17 u18 u19 u20 u21 u22 u23 u24 u25 u26 u27 u28 : Value} (hb : A.2 b = xx_o 9 [u0, u1, u2, u3, u4, u5, u6, u7, u8, u9, u10, u11, u12, u13, u14, u15, u16, u17, u18, u19, u20, u21, u22, u23, u24, u25, u26, u27, u28]) (hlt : b < A.1) (k : ∀ B : xx_H, B.1 = A.1 + 1 → B.2 b = xx_o 9 [u0, u1, u2, u3, u4, u5, u6, u7, u8, u9, u10, u11, u12, u13, u14, u15, u16, u17, u18, u19, u20, u21, u22, u23, u24, .ref A.1, u26, u27, u28] → B.2 A.1 = xx_i 6 (fun _ => 0) → (∀ q, q ≠ b → q < A.1 → B.2 q = A.2 q) → xx_X G l mX9_init 1 2 18 165 [(0, .ref b)] [] B Q) : xx_X G l mX9_init 1 3 24 157 [(0, .ref b)] [] A Q := by
  refine xx_aload_n dX9_init_157 rfl ?_
  refine xx_bipush (v := 6) dX9_init_158 (by decide) ?_
  refine xx_newa (kd := 1) (N := 6) (z := .int 0) dX9_init_160 (by decide) rfl (by intro C h; cases h) wa_int rfl (by decide) (by decide) (by decide) (xx_gp fun A1 z1 h1 o1 => ?_)
  have t1 : A1.1 = A.1 + 1 := by omega
  have h1 : A1.2 A.1 = xx_i 6 (fun _ => 0) := h1
  have hb_1 := (o1 b (by omega)).trans hb
  refine xx_putF xx_c9 dX9_init_162 wf_X9_71 (j := 25) (by decide) rfl rfl rfl rfl rfl hb_1 (Nat.le_of_ble_eq_true rfl) (xx_gu fun A2 z2 h2 o2 => ?_)
  have h2 : A2.2 b = xx_o 9 [u0, u1, u2, u3, u4, u5, u6, u7, u8, u9, u10, u11, u12, u13, u14, u15, u16, u17, u18, u19, u20, u21, u22, u23, u24, .ref A.1, u26, u27, u28] := h2
  have h1_2 := (o2 A.1 (by omega)).trans h1
  have t2 : A2.1 = A.1 + 1 := by omega
  exact k _ (by omega) h2 h1_2 (fun q hq1 hq2 => by rw [o2 q (by omega), o1 q (by omega)])
set_option maxRecDepth 100000 in
theorem s9_165 {G : xx_G} {l : Launch} {A : xx_H} {b : Nat} {Q : Option Value ⊕ String → xx_H → Prop} {u0 u1 u2 u3 u4 u5 u6 u7 u8 u9 u10 u11 u12 u13 u14 u15 u16 u17 u18 u19 u20 u21 u22 u23 u24 u25 u26 u27 u28 : Value} (hb : A.2 b = xx_o 9 [u0, u1, u2, u3, u4, u5, u6, u7, u8, u9, u10, u11, u12, u13, u14, u15, u16, u17, u18, u19, u20, u21, u22, u23, u24, u25, u26, u27, u28]) (hlt : b < A.1) (k : ∀ B : xx_H, B.1 = A.1 + 1 → B.2 b = xx_o 9 [u0, u1, u2, u3, u4, u5, u6, u7, u8, u9, u10, u11, u12, u13, u14, u15, u16, u17, u18, u19, u20, u21, u22, u23, u24, u25, .ref A.1, u27, u28] → B.2 A.1 = xx_i 6 (fun _ => 0) → (∀ q, q ≠ b → q < A.1 → B.2 q = A.2 q) → xx_X G l mX9_init 1 1 12 173 [(0, .ref b)] [] B Q) : xx_X G l mX9_init 1 2 18 165 [(0, .ref b)] [] A Q := by
  refine xx_aload_n dX9_init_165 rfl ?_
  refine xx_bipush (v := 6) dX9_init_166 (by decide) ?_
  refine xx_newa (kd := 1) (N := 6) (z := .int 0) dX9_init_168 (by decide) rfl (by intro C h; cases h) wa_int rfl (by decide) (by decide) (by decide) (xx_gp fun A1 z1 h1 o1 => ?_)
  have t1 : A1.1 = A.1 + 1 := by omega
  have h1 : A1.2 A.1 = xx_i 6 (fun _ => 0) := h1
  have hb_1 := (o1 b (by omega)).trans hb
  refine xx_putF xx_c9 dX9_init_170 wf_X9_74 (j := 26) (by decide) rfl rfl rfl rfl rfl hb_1 (Nat.le_of_ble_eq_true rfl) (xx_gu fun A2 z2 h2 o2 => ?_)
  have h2 : A2.2 b = xx_o 9 [u0, u1, u2, u3, u4, u5, u6, u7, u8, u9, u10, u11, u12, u13, u14, u15, u16, u17, u18, u19, u20, u21, u22, u23, u24, u25, .ref A.1, u27, u28] := h2
  have h1_2 := (o2 A.1 (by omega)).trans h1
  have t2 : A2.1 = A.1 + 1 := by omega
  exact k _ (by omega) h2 h1_2 (fun q hq1 hq2 => by rw [o2 q (by omega), o1 q (by omega)])
set_option maxRecDepth 100000 in
theorem s9_173 {G : xx_G} {l : Launch} {A : xx_H} {b : Nat} {Q : Option Value ⊕ String → xx_H → Prop} {u0 u1 u2 u3 u4 u5 u6 u7 u8 u9 u10 u11 u12 u13 u14 u15 u16 u17 u18 u19 u20 u21 u22 u23 u24 u25 u26 u27 u28 : Value} (hb : A.2 b = xx_o 9 [u0, u1, u2, u3, u4, u5, u6, u7, u8, u9, u10, u11, u12, u13, u14, u15, u16, u17, u18, u19, u20, u21, u22, u23, u24, u25, u26, u27, u28]) (hlt : b < A.1) (k : ∀ B : xx_H, B.1 = A.1 + 1 → B.2 b = xx_o 9 [u0, u1, u2, u3, u4, u5, u6, u7, u8, u9, u10, u11, u12, u13, u14, u15, u16, u17, u18, u19, u20, u21, u22, u23, u24, u25, u26, u27, .ref A.1] → B.2 A.1 = xx_z 12 (fun _ => 0) → (∀ q, q ≠ b → q < A.1 → B.2 q = A.2 q) → xx_X G l mX9_init 1 0 0 181 [(0, .ref b)] [] B Q) : xx_X G l mX9_init 1 1 12 173 [(0, .ref b)] [] A Q := by
  refine xx_aload_n dX9_init_173 rfl ?_
  refine xx_bipush (v := 12) dX9_init_174 (by decide) ?_
  refine xx_newa (kd := 4) (N := 12) (z := .int 0) dX9_init_176 (by decide) rfl (by intro C h; cases h) wa_boolean rfl (by decide) (by decide) (by decide) (xx_gp fun A1 z1 h1 o1 => ?_)
  have t1 : A1.1 = A.1 + 1 := by omega
  have h1 : A1.2 A.1 = xx_z 12 (fun _ => 0) := h1
  have hb_1 := (o1 b (by omega)).trans hb
  refine xx_putF xx_c9 dX9_init_178 wf_X9_77 (j := 28) (by decide) rfl rfl rfl rfl rfl hb_1 (Nat.le_of_ble_eq_true rfl) (xx_gu fun A2 z2 h2 o2 => ?_)
  have h2 : A2.2 b = xx_o 9 [u0, u1, u2, u3, u4, u5, u6, u7, u8, u9, u10, u11, u12, u13, u14, u15, u16, u17, u18, u19, u20, u21, u22, u23, u24, u25, u26, u27, .ref A.1] := h2
  have h1_2 := (o2 A.1 (by omega)).trans h1
  have t2 : A2.1 = A.1 + 1 := by omega
  exact k _ (by omega) h2 h1_2 (fun q hq1 hq2 => by rw [o2 q (by omega), o1 q (by omega)])
def xx_md0 (B : xx_H) (b a : Nat) : Prop :=
  B.2 b = xx_o 9 [.int 0, .ref a, .ref (a + 1), .ref (a + 2), .int 0, .int 0, .ref (a + 3), .ref (a + 4), .ref (a + 5), .ref (a + 6), .int (-1), .int 0, .ref (a + 7), .ref (a + 8), .ref (a + 9), .int 0, .int 0, .ref (a + 10), .ref (a + 11), .ref (a + 12), .ref (a + 13), .ref (a + 14), .ref (a + 15), .ref (a + 16), .ref (a + 17), .ref (a + 18), .ref (a + 19), .int 0, .ref (a + 20)] ∧
  B.2 (a + 0) = xx_i 69600 (upd (fun _ => 0) 680 1) ∧
  B.2 (a + 1) = xx_i 1740 (upd (upd (upd (fun _ => 0) 16 0) 17 0) 17 1) ∧
  B.2 (a + 2) = xx_i 1740 (upd (upd (fun _ => 0) 16 0) 17 1) ∧
  B.2 (a + 3) = xx_i 72 (fun _ => 0) ∧
  B.2 (a + 4) = xx_i 72 (fun _ => 0) ∧
  B.2 (a + 5) = xx_i 12 (fun _ => 0) ∧
  B.2 (a + 6) = xx_i 12 (fun _ => 0) ∧
  B.2 (a + 7) = xx_i 1000 (fun _ => 0) ∧
  B.2 (a + 8) = xx_i 1000 (fun _ => 0) ∧
  B.2 (a + 9) = xx_i 1000 (fun _ => 0) ∧
  B.2 (a + 10) = xx_i 200 (fun _ => 0) ∧
  B.2 (a + 11) = xx_i 12 (fun _ => 0) ∧
  B.2 (a + 12) = xx_z 12 (fun _ => 0) ∧
  B.2 (a + 13) = xx_l 2 (vp_updL (vp_updL (fun _ => 0) 0 0) 1 0) ∧
  B.2 (a + 14) = xx_l 72 (fun _ => 0) ∧
  B.2 (a + 15) = xx_l 2 (fun _ => 0) ∧
  B.2 (a + 16) = xx_i 42 (fun _ => 0) ∧
  B.2 (a + 17) = xx_i 42 (fun _ => 0) ∧
  B.2 (a + 18) = xx_i 6 (fun _ => 0) ∧
  B.2 (a + 19) = xx_i 6 (fun _ => 0) ∧
  B.2 (a + 20) = xx_z 12 (fun _ => 0)
set_option maxRecDepth 100000 in
theorem c_X9_init {G : xx_G} {l : Launch} {A : xx_H} {b : Nat} (hb : A.2 b = xx_o 9 [.int 0, .null, .null, .null, .int 0, .int 0, .null, .null, .null, .null, .int 0, .int 0, .null, .null, .null, .int 0, .int 0, .null, .null, .null, .null, .null, .null, .null, .null, .null, .null, .int 0, .null]) : xx_X G l mX9_init 1 21 76656 0 (lv_args 0 [.ref b]) [] A (fun r B => r = .inl none ∧ B.1 = A.1 + 21 ∧ xx_md0 B b A.1 ∧ ∀ q, q ≠ b → q < A.1 → B.2 q = A.2 q) := by
  refine xx_wf (fun wf => ?_)
  have hlt : b < A.1 := wf b (xx_k0 hb)
  refine xx_clv (lv2 := [(0, .ref b)]) rfl ?_
  refine xx_aload_n dX9_init_0 rfl ?_
  refine xx_obji dX9_init_1 wm_X9_1 wo_i wo_c (by decide) (Nat.le_of_ble_eq_true rfl) ?_
  refine s9_4 hb (by omega) (fun A1 z1 b1 n1 f1 => ?_)
  have t1 : A1.1 = A.1 + 1 := by omega
  refine s9_12 b1 (by omega) (fun A2 z2 b2 n2 f2 => ?_)
  have t2 : A2.1 = A.1 + 2 := by omega
  rw [t1] at b2 n2 f2
  refine s9_21 b2 (by omega) (fun A3 z3 b3 n3 f3 => ?_)
  have t3 : A3.1 = A.1 + 3 := by omega
  rw [t2] at b3 n3 f3
  refine s9_30 b3 (by omega) (fun A4 z4 b4 n4 f4 => ?_)
  have t4 : A4.1 = A.1 + 4 := by omega
  rw [t3] at b4 n4 f4
  refine s9_38 b4 (by omega) (fun A5 z5 b5 n5 f5 => ?_)
  have t5 : A5.1 = A.1 + 5 := by omega
  rw [t4] at b5 n5 f5
  refine s9_46 b5 (by omega) (fun A6 z6 b6 n6 f6 => ?_)
  have t6 : A6.1 = A.1 + 6 := by omega
  rw [t5] at b6 n6 f6
  refine s9_54 b6 (by omega) (fun A7 z7 b7 n7 f7 => ?_)
  have t7 : A7.1 = A.1 + 7 := by omega
  rw [t6] at b7 n7 f7
  refine s9_62 b7 (by omega) (fun A8 z8 b8 f8 => ?_)
  have t8 : A8.1 = A.1 + 7 := by omega
  rw [t7] at f8
  refine s9_67 b8 (by omega) (fun A9 z9 b9 n9 f9 => ?_)
  have t9 : A9.1 = A.1 + 8 := by omega
  rw [t8] at b9 n9 f9
  refine s9_76 b9 (by omega) (fun A10 z10 b10 n10 f10 => ?_)
  have t10 : A10.1 = A.1 + 9 := by omega
  rw [t9] at b10 n10 f10
  refine s9_85 b10 (by omega) (fun A11 z11 b11 n11 f11 => ?_)
  have t11 : A11.1 = A.1 + 10 := by omega
  rw [t10] at b11 n11 f11
  refine s9_94 b11 (by omega) (fun A12 z12 b12 n12 f12 => ?_)
  have t12 : A12.1 = A.1 + 11 := by omega
  rw [t11] at b12 n12 f12
  refine s9_103 b12 (by omega) (fun A13 z13 b13 n13 f13 => ?_)
  have t13 : A13.1 = A.1 + 12 := by omega
  rw [t12] at b13 n13 f13
  refine s9_111 b13 (by omega) (fun A14 z14 b14 n14 f14 => ?_)
  have t14 : A14.1 = A.1 + 13 := by omega
  rw [t13] at b14 n14 f14
  refine s9_119 b14 (by omega) (fun A15 z15 b15 n15 f15 => ?_)
  have t15 : A15.1 = A.1 + 14 := by omega
  rw [t14] at b15 n15 f15
  refine s9_126 b15 (by omega) (fun A16 z16 b16 n16 f16 => ?_)
  have t16 : A16.1 = A.1 + 15 := by omega
  rw [t15] at b16 n16 f16
  refine s9_134 b16 (by omega) (fun A17 z17 b17 n17 f17 => ?_)
  have t17 : A17.1 = A.1 + 16 := by omega
  rw [t16] at b17 n17 f17
  refine s9_141 b17 (by omega) (fun A18 z18 b18 n18 f18 => ?_)
  have t18 : A18.1 = A.1 + 17 := by omega
  rw [t17] at b18 n18 f18
  refine s9_149 b18 (by omega) (fun A19 z19 b19 n19 f19 => ?_)
  have t19 : A19.1 = A.1 + 18 := by omega
  rw [t18] at b19 n19 f19
  refine s9_157 b19 (by omega) (fun A20 z20 b20 n20 f20 => ?_)
  have t20 : A20.1 = A.1 + 19 := by omega
  rw [t19] at b20 n20 f20
  refine s9_165 b20 (by omega) (fun A21 z21 b21 n21 f21 => ?_)
  have t21 : A21.1 = A.1 + 20 := by omega
  rw [t20] at b21 n21 f21
  refine s9_173 b21 (by omega) (fun A22 z22 b22 n22 f22 => ?_)
  have t22 : A22.1 = A.1 + 21 := by omega
  rw [t21] at b22 n22 f22
  have e0 : A22.2 A.1 = _ := (show A22.2 A.1 = A1.2 A.1 by rw [f22 _ (by omega) (by omega), f21 _ (by omega) (by omega), f20 _ (by omega) (by omega), f19 _ (by omega) (by omega), f18 _ (by omega) (by omega), f17 _ (by omega) (by omega), f16 _ (by omega) (by omega), f15 _ (by omega) (by omega), f14 _ (by omega) (by omega), f13 _ (by omega) (by omega), f12 _ (by omega) (by omega), f11 _ (by omega) (by omega), f10 _ (by omega) (by omega), f9 _ (by omega) (by omega), f8 _ (by omega) (by omega), f7 _ (by omega) (by omega), f6 _ (by omega) (by omega), f5 _ (by omega) (by omega), f4 _ (by omega) (by omega), f3 _ (by omega) (by omega), f2 _ (by omega) (by omega)]).trans n1
  have e1 : A22.2 (A.1 + 1) = _ := (show A22.2 (A.1 + 1) = A2.2 (A.1 + 1) by rw [f22 _ (by omega) (by omega), f21 _ (by omega) (by omega), f20 _ (by omega) (by omega), f19 _ (by omega) (by omega), f18 _ (by omega) (by omega), f17 _ (by omega) (by omega), f16 _ (by omega) (by omega), f15 _ (by omega) (by omega), f14 _ (by omega) (by omega), f13 _ (by omega) (by omega), f12 _ (by omega) (by omega), f11 _ (by omega) (by omega), f10 _ (by omega) (by omega), f9 _ (by omega) (by omega), f8 _ (by omega) (by omega), f7 _ (by omega) (by omega), f6 _ (by omega) (by omega), f5 _ (by omega) (by omega), f4 _ (by omega) (by omega), f3 _ (by omega) (by omega)]).trans n2
  have e2 : A22.2 (A.1 + 2) = _ := (show A22.2 (A.1 + 2) = A3.2 (A.1 + 2) by rw [f22 _ (by omega) (by omega), f21 _ (by omega) (by omega), f20 _ (by omega) (by omega), f19 _ (by omega) (by omega), f18 _ (by omega) (by omega), f17 _ (by omega) (by omega), f16 _ (by omega) (by omega), f15 _ (by omega) (by omega), f14 _ (by omega) (by omega), f13 _ (by omega) (by omega), f12 _ (by omega) (by omega), f11 _ (by omega) (by omega), f10 _ (by omega) (by omega), f9 _ (by omega) (by omega), f8 _ (by omega) (by omega), f7 _ (by omega) (by omega), f6 _ (by omega) (by omega), f5 _ (by omega) (by omega), f4 _ (by omega) (by omega)]).trans n3
  have e3 : A22.2 (A.1 + 3) = _ := (show A22.2 (A.1 + 3) = A4.2 (A.1 + 3) by rw [f22 _ (by omega) (by omega), f21 _ (by omega) (by omega), f20 _ (by omega) (by omega), f19 _ (by omega) (by omega), f18 _ (by omega) (by omega), f17 _ (by omega) (by omega), f16 _ (by omega) (by omega), f15 _ (by omega) (by omega), f14 _ (by omega) (by omega), f13 _ (by omega) (by omega), f12 _ (by omega) (by omega), f11 _ (by omega) (by omega), f10 _ (by omega) (by omega), f9 _ (by omega) (by omega), f8 _ (by omega) (by omega), f7 _ (by omega) (by omega), f6 _ (by omega) (by omega), f5 _ (by omega) (by omega)]).trans n4
  have e4 : A22.2 (A.1 + 4) = _ := (show A22.2 (A.1 + 4) = A5.2 (A.1 + 4) by rw [f22 _ (by omega) (by omega), f21 _ (by omega) (by omega), f20 _ (by omega) (by omega), f19 _ (by omega) (by omega), f18 _ (by omega) (by omega), f17 _ (by omega) (by omega), f16 _ (by omega) (by omega), f15 _ (by omega) (by omega), f14 _ (by omega) (by omega), f13 _ (by omega) (by omega), f12 _ (by omega) (by omega), f11 _ (by omega) (by omega), f10 _ (by omega) (by omega), f9 _ (by omega) (by omega), f8 _ (by omega) (by omega), f7 _ (by omega) (by omega), f6 _ (by omega) (by omega)]).trans n5
  have e5 : A22.2 (A.1 + 5) = _ := (show A22.2 (A.1 + 5) = A6.2 (A.1 + 5) by rw [f22 _ (by omega) (by omega), f21 _ (by omega) (by omega), f20 _ (by omega) (by omega), f19 _ (by omega) (by omega), f18 _ (by omega) (by omega), f17 _ (by omega) (by omega), f16 _ (by omega) (by omega), f15 _ (by omega) (by omega), f14 _ (by omega) (by omega), f13 _ (by omega) (by omega), f12 _ (by omega) (by omega), f11 _ (by omega) (by omega), f10 _ (by omega) (by omega), f9 _ (by omega) (by omega), f8 _ (by omega) (by omega), f7 _ (by omega) (by omega)]).trans n6
  have e6 : A22.2 (A.1 + 6) = _ := (show A22.2 (A.1 + 6) = A7.2 (A.1 + 6) by rw [f22 _ (by omega) (by omega), f21 _ (by omega) (by omega), f20 _ (by omega) (by omega), f19 _ (by omega) (by omega), f18 _ (by omega) (by omega), f17 _ (by omega) (by omega), f16 _ (by omega) (by omega), f15 _ (by omega) (by omega), f14 _ (by omega) (by omega), f13 _ (by omega) (by omega), f12 _ (by omega) (by omega), f11 _ (by omega) (by omega), f10 _ (by omega) (by omega), f9 _ (by omega) (by omega), f8 _ (by omega) (by omega)]).trans n7
  have e7 : A22.2 (A.1 + 7) = _ := (show A22.2 (A.1 + 7) = A9.2 (A.1 + 7) by rw [f22 _ (by omega) (by omega), f21 _ (by omega) (by omega), f20 _ (by omega) (by omega), f19 _ (by omega) (by omega), f18 _ (by omega) (by omega), f17 _ (by omega) (by omega), f16 _ (by omega) (by omega), f15 _ (by omega) (by omega), f14 _ (by omega) (by omega), f13 _ (by omega) (by omega), f12 _ (by omega) (by omega), f11 _ (by omega) (by omega), f10 _ (by omega) (by omega)]).trans n9
  have e8 : A22.2 (A.1 + 8) = _ := (show A22.2 (A.1 + 8) = A10.2 (A.1 + 8) by rw [f22 _ (by omega) (by omega), f21 _ (by omega) (by omega), f20 _ (by omega) (by omega), f19 _ (by omega) (by omega), f18 _ (by omega) (by omega), f17 _ (by omega) (by omega), f16 _ (by omega) (by omega), f15 _ (by omega) (by omega), f14 _ (by omega) (by omega), f13 _ (by omega) (by omega), f12 _ (by omega) (by omega), f11 _ (by omega) (by omega)]).trans n10
  have e9 : A22.2 (A.1 + 9) = _ := (show A22.2 (A.1 + 9) = A11.2 (A.1 + 9) by rw [f22 _ (by omega) (by omega), f21 _ (by omega) (by omega), f20 _ (by omega) (by omega), f19 _ (by omega) (by omega), f18 _ (by omega) (by omega), f17 _ (by omega) (by omega), f16 _ (by omega) (by omega), f15 _ (by omega) (by omega), f14 _ (by omega) (by omega), f13 _ (by omega) (by omega), f12 _ (by omega) (by omega)]).trans n11
  have e10 : A22.2 (A.1 + 10) = _ := (show A22.2 (A.1 + 10) = A12.2 (A.1 + 10) by rw [f22 _ (by omega) (by omega), f21 _ (by omega) (by omega), f20 _ (by omega) (by omega), f19 _ (by omega) (by omega), f18 _ (by omega) (by omega), f17 _ (by omega) (by omega), f16 _ (by omega) (by omega), f15 _ (by omega) (by omega), f14 _ (by omega) (by omega), f13 _ (by omega) (by omega)]).trans n12
  have e11 : A22.2 (A.1 + 11) = _ := (show A22.2 (A.1 + 11) = A13.2 (A.1 + 11) by rw [f22 _ (by omega) (by omega), f21 _ (by omega) (by omega), f20 _ (by omega) (by omega), f19 _ (by omega) (by omega), f18 _ (by omega) (by omega), f17 _ (by omega) (by omega), f16 _ (by omega) (by omega), f15 _ (by omega) (by omega), f14 _ (by omega) (by omega)]).trans n13
  have e12 : A22.2 (A.1 + 12) = _ := (show A22.2 (A.1 + 12) = A14.2 (A.1 + 12) by rw [f22 _ (by omega) (by omega), f21 _ (by omega) (by omega), f20 _ (by omega) (by omega), f19 _ (by omega) (by omega), f18 _ (by omega) (by omega), f17 _ (by omega) (by omega), f16 _ (by omega) (by omega), f15 _ (by omega) (by omega)]).trans n14
  have e13 : A22.2 (A.1 + 13) = _ := (show A22.2 (A.1 + 13) = A15.2 (A.1 + 13) by rw [f22 _ (by omega) (by omega), f21 _ (by omega) (by omega), f20 _ (by omega) (by omega), f19 _ (by omega) (by omega), f18 _ (by omega) (by omega), f17 _ (by omega) (by omega), f16 _ (by omega) (by omega)]).trans n15
  have e14 : A22.2 (A.1 + 14) = _ := (show A22.2 (A.1 + 14) = A16.2 (A.1 + 14) by rw [f22 _ (by omega) (by omega), f21 _ (by omega) (by omega), f20 _ (by omega) (by omega), f19 _ (by omega) (by omega), f18 _ (by omega) (by omega), f17 _ (by omega) (by omega)]).trans n16
  have e15 : A22.2 (A.1 + 15) = _ := (show A22.2 (A.1 + 15) = A17.2 (A.1 + 15) by rw [f22 _ (by omega) (by omega), f21 _ (by omega) (by omega), f20 _ (by omega) (by omega), f19 _ (by omega) (by omega), f18 _ (by omega) (by omega)]).trans n17
  have e16 : A22.2 (A.1 + 16) = _ := (show A22.2 (A.1 + 16) = A18.2 (A.1 + 16) by rw [f22 _ (by omega) (by omega), f21 _ (by omega) (by omega), f20 _ (by omega) (by omega), f19 _ (by omega) (by omega)]).trans n18
  have e17 : A22.2 (A.1 + 17) = _ := (show A22.2 (A.1 + 17) = A19.2 (A.1 + 17) by rw [f22 _ (by omega) (by omega), f21 _ (by omega) (by omega), f20 _ (by omega) (by omega)]).trans n19
  have e18 : A22.2 (A.1 + 18) = _ := (show A22.2 (A.1 + 18) = A20.2 (A.1 + 18) by rw [f22 _ (by omega) (by omega), f21 _ (by omega) (by omega)]).trans n20
  have e19 : A22.2 (A.1 + 19) = _ := (show A22.2 (A.1 + 19) = A21.2 (A.1 + 19) by rw [f22 _ (by omega) (by omega)]).trans n21
  have e20 := n22
  have fr : ∀ q, q ≠ b → q < A.1 → A22.2 q = A.2 q := fun q hq1 hq2 => by rw [f22 q (by omega) (by omega), f21 q (by omega) (by omega), f20 q (by omega) (by omega), f19 q (by omega) (by omega), f18 q (by omega) (by omega), f17 q (by omega) (by omega), f16 q (by omega) (by omega), f15 q (by omega) (by omega), f14 q (by omega) (by omega), f13 q (by omega) (by omega), f12 q (by omega) (by omega), f11 q (by omega) (by omega), f10 q (by omega) (by omega), f9 q (by omega) (by omega), f8 q (by omega) (by omega), f7 q (by omega) (by omega), f6 q (by omega) (by omega), f5 q (by omega) (by omega), f4 q (by omega) (by omega), f3 q (by omega) (by omega), f2 q (by omega) (by omega), f1 q (by omega) (by omega)]
  clear f1 f2 f3 f4 f5 f6 f7 f8 f9 f10 f11 f12 f13 f14 f15 f16 f17 f18 f19 f20 f21 f22 n1 n2 n3 n4 n5 n6 n7 n9 n10 n11 n12 n13 n14 n15 n16 n17 n18 n19 n20 n21 n22 b1 b2 b3 b4 b5 b6 b7 b8 b9 b10 b11 b12 b13 b14 b15 b16 b17 b18 b19 b20 b21 z1 z2 z3 z4 z5 z6 z7 z8 z9 z10 z11 z12 z13 z14 z15 z16 z17 z18 z19 z20 z21 z22 t1 t2 t3 t4 t5 t6 t7 t8 t9 t10 t11 t12 t13 t14 t15 t16 t17 t18 t19 t20 t21
  refine xx_aload_n dX9_init_181 rfl ?_
  refine xx_get xx_c9 dX9_init_182 wf_X9_55 (j := 20) (by decide) b22 rfl ?_
  refine xx_iconst (v := 0) dX9_init_185 (by decide) ?_
  refine xx_lconst (v := 0) dX9_init_186 (by decide) ?_
  refine xx_last dX9_init_187 e13 (by unfold vp_in; decide) (xx_gu fun A23 z23 h23 o23 => ?_)
  have h23 : A23.2 (A.1 + 13) = xx_l 2 (vp_updL (fun _ => 0) 0 0) := h23
  have b22_23 := (o23 b (by omega)).trans b22
  have e0_23 := (o23 A.1 (by omega)).trans e0
  have e1_23 := (o23 (A.1 + 1) (by omega)).trans e1
  have e2_23 := (o23 (A.1 + 2) (by omega)).trans e2
  have t23 : A23.1 = A.1 + 21 := by omega
  refine xx_aload_n dX9_init_188 rfl ?_
  refine xx_get xx_c9 dX9_init_189 wf_X9_55 (j := 20) (by decide) b22_23 rfl ?_
  refine xx_iconst (v := 1) dX9_init_192 (by decide) ?_
  refine xx_lconst (v := 0) dX9_init_193 (by decide) ?_
  refine xx_last dX9_init_194 h23 (by unfold vp_in; decide) (xx_gu fun A24 z24 h24 o24 => ?_)
  have h24 : A24.2 (A.1 + 13) = xx_l 2 (vp_updL (vp_updL (fun _ => 0) 0 0) 1 0) := h24
  have b22_24 := (o24 b (by omega)).trans b22_23
  have e0_24 := (o24 A.1 (by omega)).trans e0_23
  have e1_24 := (o24 (A.1 + 1) (by omega)).trans e1_23
  have e2_24 := (o24 (A.1 + 2) (by omega)).trans e2_23
  have t24 : A24.1 = A.1 + 21 := by omega
  refine xx_aload_n dX9_init_195 rfl ?_
  refine xx_bipush (v := 16) dX9_init_196 (by decide) ?_
  refine xx_lconst (v := 0) dX9_init_198 (by decide) ?_
  refine xx_callV (N := mX9_set) (vs := [.int 16, .long 0]) (b := b) (rest := []) (d2 := 0) (c2 := 0) (s2 := 0) (c3 := 0) (s3 := 0) dX9_init_199 wm_X9_80 wi_X9_set wv_X9_set (k := 9) rfl (by decide) b22_24 nX9_set ⟨pX9_set, Nat.le_of_ble_eq_true rfl, by decide, Nat.le_of_ble_eq_true rfl, by decide, by decide⟩ (c_X9_set16 b22_24 e0_24 e1_24 e2_24 (by omega) (by omega) (by omega) (by omega) (by omega) (by omega)) (fun v A25 hC => ?_) (fun E A25 hC => ?_)
  rotate_left
  · exact absurd hC.1 (by simp)
  obtain ⟨hv, y25, p25, q25, r25, fr25⟩ := hC
  cases hv
  have b22_25 := (fr25 b (by omega) (by omega) (by omega)).trans b22_24
  have h24_25 := (fr25 (A.1 + 13) (by omega) (by omega) (by omega)).trans h24
  refine xx_cst (st2 := []) rfl ?_
  have t25 : A25.1 = A.1 + 21 := by omega
  refine xx_aload_n dX9_init_202 rfl ?_
  refine xx_bipush (v := 17) dX9_init_203 (by decide) ?_
  refine xx_lconst (v := 1) dX9_init_205 (by decide) ?_
  refine xx_callV (N := mX9_set) (vs := [.int 17, .long 1]) (b := b) (rest := []) (d2 := 0) (c2 := 0) (s2 := 0) (c3 := 0) (s3 := 0) dX9_init_206 wm_X9_80 wi_X9_set wv_X9_set (k := 9) rfl (by decide) b22_25 nX9_set ⟨pX9_set, Nat.le_of_ble_eq_true rfl, by decide, Nat.le_of_ble_eq_true rfl, by decide, by decide⟩ (c_X9_set17 b22_25 p25 q25 r25 (by omega) (by omega) (by omega) (by omega) (by omega) (by omega)) (fun v A26 hC => ?_) (fun E A26 hC => ?_)
  rotate_left
  · exact absurd hC.1 (by simp)
  obtain ⟨hv, y26, p26, q26, r26, fr26⟩ := hC
  cases hv
  have b22_26 := (fr26 b (by omega) (by omega) (by omega)).trans b22_25
  have h24_26 := (fr26 (A.1 + 13) (by omega) (by omega) (by omega)).trans h24_25
  refine xx_cst (st2 := []) rfl ?_
  have t26 : A26.1 = A.1 + 21 := by omega
  exact xx_vret dX9_init_209 rfl ⟨rfl, by omega, ⟨b22_26, p26, q26, r26, (show A26.2 (A.1 + 3) = _ by rw [fr26 _ (by omega) (by omega) (by omega), fr25 _ (by omega) (by omega) (by omega), o24 _ (by omega), o23 _ (by omega)]; exact e3), (show A26.2 (A.1 + 4) = _ by rw [fr26 _ (by omega) (by omega) (by omega), fr25 _ (by omega) (by omega) (by omega), o24 _ (by omega), o23 _ (by omega)]; exact e4), (show A26.2 (A.1 + 5) = _ by rw [fr26 _ (by omega) (by omega) (by omega), fr25 _ (by omega) (by omega) (by omega), o24 _ (by omega), o23 _ (by omega)]; exact e5), (show A26.2 (A.1 + 6) = _ by rw [fr26 _ (by omega) (by omega) (by omega), fr25 _ (by omega) (by omega) (by omega), o24 _ (by omega), o23 _ (by omega)]; exact e6), (show A26.2 (A.1 + 7) = _ by rw [fr26 _ (by omega) (by omega) (by omega), fr25 _ (by omega) (by omega) (by omega), o24 _ (by omega), o23 _ (by omega)]; exact e7), (show A26.2 (A.1 + 8) = _ by rw [fr26 _ (by omega) (by omega) (by omega), fr25 _ (by omega) (by omega) (by omega), o24 _ (by omega), o23 _ (by omega)]; exact e8), (show A26.2 (A.1 + 9) = _ by rw [fr26 _ (by omega) (by omega) (by omega), fr25 _ (by omega) (by omega) (by omega), o24 _ (by omega), o23 _ (by omega)]; exact e9), (show A26.2 (A.1 + 10) = _ by rw [fr26 _ (by omega) (by omega) (by omega), fr25 _ (by omega) (by omega) (by omega), o24 _ (by omega), o23 _ (by omega)]; exact e10), (show A26.2 (A.1 + 11) = _ by rw [fr26 _ (by omega) (by omega) (by omega), fr25 _ (by omega) (by omega) (by omega), o24 _ (by omega), o23 _ (by omega)]; exact e11), (show A26.2 (A.1 + 12) = _ by rw [fr26 _ (by omega) (by omega) (by omega), fr25 _ (by omega) (by omega) (by omega), o24 _ (by omega), o23 _ (by omega)]; exact e12), h24_26, (show A26.2 (A.1 + 14) = _ by rw [fr26 _ (by omega) (by omega) (by omega), fr25 _ (by omega) (by omega) (by omega), o24 _ (by omega), o23 _ (by omega)]; exact e14), (show A26.2 (A.1 + 15) = _ by rw [fr26 _ (by omega) (by omega) (by omega), fr25 _ (by omega) (by omega) (by omega), o24 _ (by omega), o23 _ (by omega)]; exact e15), (show A26.2 (A.1 + 16) = _ by rw [fr26 _ (by omega) (by omega) (by omega), fr25 _ (by omega) (by omega) (by omega), o24 _ (by omega), o23 _ (by omega)]; exact e16), (show A26.2 (A.1 + 17) = _ by rw [fr26 _ (by omega) (by omega) (by omega), fr25 _ (by omega) (by omega) (by omega), o24 _ (by omega), o23 _ (by omega)]; exact e17), (show A26.2 (A.1 + 18) = _ by rw [fr26 _ (by omega) (by omega) (by omega), fr25 _ (by omega) (by omega) (by omega), o24 _ (by omega), o23 _ (by omega)]; exact e18), (show A26.2 (A.1 + 19) = _ by rw [fr26 _ (by omega) (by omega) (by omega), fr25 _ (by omega) (by omega) (by omega), o24 _ (by omega), o23 _ (by omega)]; exact e19), (show A26.2 (A.1 + 20) = _ by rw [fr26 _ (by omega) (by omega) (by omega), fr25 _ (by omega) (by omega) (by omega), o24 _ (by omega), o23 _ (by omega)]; exact e20)⟩, fun q hq1 hq2 => by rw [fr26 q (by omega) (by omega) (by omega), fr25 q (by omega) (by omega) (by omega), o24 q (by omega), o23 q (by omega)]; exact fr q hq1 hq2⟩
