/-! ===== the constructor of BestReplies ===== -/
def xx_po0 (B : xx_H) (b a : Nat) : Prop := B.2 b = xx_o 4 [.int 0, .int 0, .int 0, .int 0, .ref a, .ref (a + 1), .ref (a + 2)] ∧ B.2 a = xx_i 36 (fun _ => 0) ∧ B.2 (a + 1) = xx_i 36 (fun _ => 0) ∧ B.2 (a + 2) = xx_i 36 (fun _ => 0)
theorem xx_po0.to {B C : xx_H} {b a : Nat} (h : xx_po0 B b a) (h0 : C.2 b = B.2 b) (h1 : ∀ q, a ≤ q → q < a + 3 → C.2 q = B.2 q) : xx_po0 C b a :=
  ⟨h0.trans h.1, (h1 _ (by omega) (by omega)).trans h.2.1, (h1 _ (by omega) (by omega)).trans h.2.2.1, (h1 _ (by omega) (by omega)).trans h.2.2.2⟩
def xx_tw0 (B : xx_H) (b a : Nat) : Prop := B.2 b = xx_o 6 [.ref a, .ref (a + 1)] ∧ B.2 a = xx_i 6 (fun _ => 0) ∧ B.2 (a + 1) = xx_i 6 (fun _ => 0)
theorem xx_tw0.to {B C : xx_H} {b a : Nat} (h : xx_tw0 B b a) (h0 : C.2 b = B.2 b) (h1 : ∀ q, a ≤ q → q < a + 2 → C.2 q = B.2 q) : xx_tw0 C b a :=
  ⟨h0.trans h.1, (h1 _ (by omega) (by omega)).trans h.2.1, (h1 _ (by omega) (by omega)).trans h.2.2⟩
theorem c_po0 {G : xx_G} {l : Launch} {A : xx_H} {b : Nat} (hb : A.2 b = xx_o 4 [.int 0, .int 0, .int 0, .int 0, .null, .null, .null]) : xx_X G l mX4_init 1 3 108 0 (lv_args 0 [.ref b]) [] A (fun r B => r = .inl none ∧ B.1 = A.1 + 3 ∧ xx_po0 B b A.1 ∧ ∀ q, q ≠ b → q < A.1 → B.2 q = A.2 q) :=
  xx_mono (fun r B h => ⟨h.1, h.2.1, ⟨h.2.2.1, h.2.2.2.1, h.2.2.2.2.1, h.2.2.2.2.2.1⟩, h.2.2.2.2.2.2⟩) (c_X4_init hb)
theorem c_tw0 {G : xx_G} {l : Launch} {A : xx_H} {b : Nat} (hb : A.2 b = xx_o 6 [.null, .null]) : xx_X G l mX6_init 1 2 12 0 (lv_args 0 [.ref b]) [] A (fun r B => r = .inl none ∧ B.1 = A.1 + 2 ∧ xx_tw0 B b A.1 ∧ ∀ q, q ≠ b → q < A.1 → B.2 q = A.2 q) :=
  xx_mono (fun r B h => ⟨h.1, h.2.1, ⟨h.2.2.1, h.2.2.2.1, h.2.2.2.2.1⟩, h.2.2.2.2.2⟩) (c_X6_init hb)
def xx_n8_counts (B : xx_H) (a : Nat) : Prop := B.2 (a) = xx_i 2 (fun _ => 0)
theorem xx_n8_counts.to {B C : xx_H} {a : Nat} (h : xx_n8_counts B a) (h1 : ∀ q, a ≤ q → q < a + 1 → C.2 q = B.2 q) : xx_n8_counts C a := by
  have g0 : B.2 (a) = xx_i 2 (fun _ => 0) := h
  exact (h1 _ (by omega) (by omega)).trans g0
set_option maxRecDepth 100000 in
theorem s8_counts {G : xx_G} {l : Launch} {A : xx_H} {b : Nat} {Q : Option Value ⊕ String → xx_H → Prop} {u0 u1 u2 u3 u4 u5 u6 u7 u8 u9 u10 u11 u12 u13 u14 u15 u16 u17 : Value} (hb : A.2 b = xx_o 8 [u0, u1, u2, u3, u4, u5, u6, u7, u8, u9, u10, u11, u12, u13, u14, u15, u16, u17]) (hlt : b < A.1) (k : ∀ B : xx_H, B.1 = A.1 + 1 → B.2 b = xx_o 8 [.ref A.1, u1, u2, u3, u4, u5, u6, u7, u8, u9, u10, u11, u12, u13, u14, u15, u16, u17] → xx_n8_counts B A.1 → (∀ q, q ≠ b → q < A.1 → B.2 q = A.2 q) → xx_X G l mX8_init 5 295 3592 11 [(0, .ref b)] [] B Q) : xx_X G l mX8_init 5 296 3594 4 [(0, .ref b)] [] A Q := by
  refine xx_aload_n dX8_init_4 rfl ?_
  refine xx_iconst (v := 2) dX8_init_5 (by decide) ?_
  refine xx_newa (kd := 1) (N := 2) (z := .int 0) dX8_init_6 (by decide) rfl (by intro C h; cases h) wa_int rfl (by decide) (by decide) (by decide) (xx_gp fun A1 z1 h1 o1 => ?_)
  have t1 : A1.1 = A.1 + 1 := by omega
  have h1 : A1.2 A.1 = xx_i 2 (fun _ => 0) := h1
  have hb_1 := (o1 b (by omega)).trans hb
  refine xx_putF xx_c8 dX8_init_8 wf_X8_7 (j := 0) (by decide) rfl rfl rfl rfl rfl hb_1 (Nat.le_of_ble_eq_true rfl) (xx_gu fun A2 z2 h2 o2 => ?_)
  have h2 : A2.2 b = xx_o 8 [.ref A.1, u1, u2, u3, u4, u5, u6, u7, u8, u9, u10, u11, u12, u13, u14, u15, u16, u17] := h2
  have h1_2 := (o2 A.1 (by omega)).trans h1
  have t2 : A2.1 = A.1 + 1 := by omega
  exact k _ (by omega) h2 h1_2 (fun q hq1 hq2 => by rw [o2 q (by omega), o1 q (by omega)])
def xx_n8_payoffs (B : xx_H) (a : Nat) : Prop := B.2 (a) = xx_r 14 2 (va_up (va_up (fun _ => none) (0 : Int32).toNatClampNeg (some (a + 1))) (1 : Int32).toNatClampNeg (some (a + 5))) ∧ xx_po0 B (a + 1) (a + 2) ∧ xx_po0 B (a + 5) (a + 6)
theorem xx_n8_payoffs.to {B C : xx_H} {a : Nat} (h : xx_n8_payoffs B a) (h1 : ∀ q, a ≤ q → q < a + 9 → C.2 q = B.2 q) : xx_n8_payoffs C a := by
  obtain ⟨g0, g1, g2⟩ := h
  exact ⟨(h1 _ (by omega) (by omega)).trans g0, g1.to (h1 _ (by omega) (by omega)) (fun q h2 h3 => h1 q (by omega) (by omega)), g2.to (h1 _ (by omega) (by omega)) (fun q h2 h3 => h1 q (by omega) (by omega))⟩
set_option maxRecDepth 100000 in
theorem s8_payoffs {G : xx_G} {l : Launch} {A : xx_H} {b : Nat} {Q : Option Value ⊕ String → xx_H → Prop} {u0 u1 u2 u3 u4 u5 u6 u7 u8 u9 u10 u11 u12 u13 u14 u15 u16 u17 : Value} (hb : A.2 b = xx_o 8 [u0, u1, u2, u3, u4, u5, u6, u7, u8, u9, u10, u11, u12, u13, u14, u15, u16, u17]) (hlt : b < A.1) (k : ∀ B : xx_H, B.1 = A.1 + 9 → B.2 b = xx_o 8 [u0, .ref A.1, u2, u3, u4, u5, u6, u7, u8, u9, u10, u11, u12, u13, u14, u15, u16, u17] → xx_n8_payoffs B A.1 → (∀ q, q ≠ b → q < A.1 → B.2 q = A.2 q) → xx_X G l mX8_init 5 286 3360 39 [(0, .ref b)] [] B Q) : xx_X G l mX8_init 5 295 3592 11 [(0, .ref b)] [] A Q := by
  refine xx_aload_n dX8_init_11 rfl ?_
  refine xx_iconst (v := 2) dX8_init_12 (by decide) ?_
  refine xx_anew (kd := 14) (C := RX4) (N := 2) dX8_init_13 (by decide) rfl (by decide) wc_X8_13 (by decide) (by decide) (by decide) (xx_gp fun A1 z1 h1 o1 => ?_)
  have t1 : A1.1 = A.1 + 1 := by omega
  have h1 : A1.2 A.1 = xx_r 14 2 (fun _ => none) := h1
  have hb_1 := (o1 b (by omega)).trans hb
  refine xx_dup dX8_init_16 rfl ?_
  refine xx_iconst (v := 0) dX8_init_17 (by decide) ?_
  refine xx_new xx_c4 (fs := [.int 0, .int 0, .int 0, .int 0, .null, .null, .null]) dX8_init_18 wc_X8_13 wn_X4 wz_X4 df_X4 (xx_gp fun A2 z2 h2 o2 => ?_)
  rw [t1] at h2 ⊢
  have t2 : A2.1 = A.1 + 2 := by omega
  have h2 : A2.2 (A.1 + 1) = xx_o 4 [.int 0, .int 0, .int 0, .int 0, .null, .null, .null] := h2
  have hb_2 := (o2 b (by omega)).trans hb_1
  have h1_2 := (o2 A.1 (by omega)).trans h1
  refine xx_dup dX8_init_21 rfl ?_
  refine xx_callIN (N := mX4_init) (vs := []) (b := (A.1 + 1)) (rest := [.ref (A.1 + 1), .int 0, .ref A.1, .ref A.1, .ref b]) (d2 := 1) (c2 := 3) (s2 := 108) (c3 := 290) (s3 := 3475) dX8_init_22 (host := RX8) rfl rfl rfl (by decide) wi_X4_init (by decide) nX4_init ⟨pX4_init, Nat.le_of_ble_eq_true rfl, by decide, Nat.le_of_ble_eq_true rfl, by omega, by omega⟩ (c_po0 h2) (fun v A3 hC => ?_) (fun E A3 hC => ?_)
  rotate_left
  · exact absurd hC.1 (by simp)
  obtain ⟨hv, y3, cf3, fr3⟩ := hC
  cases hv
  rw [t2] at cf3
  have t3 : A3.1 = A.1 + 5 := by omega
  have hb_3 := (fr3 b (by omega) (by omega)).trans hb_2
  have h1_3 := (fr3 A.1 (by omega) (by omega)).trans h1_2
  refine xx_cst (st2 := [.ref (A.1 + 1), .int 0, .ref A.1, .ref A.1, .ref b]) rfl ?_
  have pc3 := cf3.1
  refine xx_aast xx_c4 dX8_init_25 (by decide) rfl h1_3 pc3 (by unfold vp_in; decide) (xx_gu fun A4 z4 h4 o4 => ?_)
  have h4 : A4.2 A.1 = xx_r 14 2 (va_up (fun _ => none) (0 : Int32).toNatClampNeg (some (A.1 + 1))) := h4
  have hb_4 := (o4 b (by omega)).trans hb_3
  have pc3_4 := (o4 (A.1 + 1) (by omega)).trans pc3
  have t4 : A4.1 = A.1 + 5 := by omega
  refine xx_dup dX8_init_26 rfl ?_
  refine xx_iconst (v := 1) dX8_init_27 (by decide) ?_
  refine xx_new xx_c4 (fs := [.int 0, .int 0, .int 0, .int 0, .null, .null, .null]) dX8_init_28 wc_X8_13 wn_X4 wz_X4 df_X4 (xx_gp fun A5 z5 h5 o5 => ?_)
  rw [t4] at h5 ⊢
  have t5 : A5.1 = A.1 + 6 := by omega
  have h5 : A5.2 (A.1 + 5) = xx_o 4 [.int 0, .int 0, .int 0, .int 0, .null, .null, .null] := h5
  have hb_5 := (o5 b (by omega)).trans hb_4
  have h4_5 := (o5 A.1 (by omega)).trans h4
  have pc3_5 := (o5 (A.1 + 1) (by omega)).trans pc3_4
  refine xx_dup dX8_init_31 rfl ?_
  refine xx_callIN (N := mX4_init) (vs := []) (b := (A.1 + 5)) (rest := [.ref (A.1 + 5), .int 1, .ref A.1, .ref A.1, .ref b]) (d2 := 1) (c2 := 3) (s2 := 108) (c3 := 286) (s3 := 3360) dX8_init_32 (host := RX8) rfl rfl rfl (by decide) wi_X4_init (by decide) nX4_init ⟨pX4_init, Nat.le_of_ble_eq_true rfl, by decide, Nat.le_of_ble_eq_true rfl, by omega, by omega⟩ (c_po0 h5) (fun v A6 hC => ?_) (fun E A6 hC => ?_)
  rotate_left
  · exact absurd hC.1 (by simp)
  obtain ⟨hv, y6, cf6, fr6⟩ := hC
  cases hv
  rw [t5] at cf6
  have t6 : A6.1 = A.1 + 9 := by omega
  have hb_6 := (fr6 b (by omega) (by omega)).trans hb_5
  have h4_6 := (fr6 A.1 (by omega) (by omega)).trans h4_5
  have pc3_6 := (fr6 (A.1 + 1) (by omega) (by omega)).trans pc3_5
  refine xx_cst (st2 := [.ref (A.1 + 5), .int 1, .ref A.1, .ref A.1, .ref b]) rfl ?_
  have pc6 := cf6.1
  refine xx_aast xx_c4 dX8_init_35 (by decide) rfl h4_6 pc6 (by unfold vp_in; decide) (xx_gu fun A7 z7 h7 o7 => ?_)
  have h7 : A7.2 A.1 = xx_r 14 2 (va_up (va_up (fun _ => none) (0 : Int32).toNatClampNeg (some (A.1 + 1))) (1 : Int32).toNatClampNeg (some (A.1 + 5))) := h7
  have hb_7 := (o7 b (by omega)).trans hb_6
  have pc3_7 := (o7 (A.1 + 1) (by omega)).trans pc3_6
  have pc6_7 := (o7 (A.1 + 5) (by omega)).trans pc6
  have t7 : A7.1 = A.1 + 9 := by omega
  refine xx_putF xx_c8 dX8_init_36 wf_X8_16 (j := 1) (by decide) rfl rfl rfl rfl rfl hb_7 (Nat.le_of_ble_eq_true rfl) (xx_gu fun A8 z8 h8 o8 => ?_)
  have h8 : A8.2 b = xx_o 8 [u0, .ref A.1, u2, u3, u4, u5, u6, u7, u8, u9, u10, u11, u12, u13, u14, u15, u16, u17] := h8
  have h7_8 := (o8 A.1 (by omega)).trans h7
  have pc3_8 := (o8 (A.1 + 1) (by omega)).trans pc3_7
  have pc6_8 := (o8 (A.1 + 5) (by omega)).trans pc6_7
  have t8 : A8.1 = A.1 + 9 := by omega
  exact k _ (by omega) h8 ⟨h7_8, (cf3.to (by rw [o8 _ (by omega), o7 _ (by omega), fr6 _ (by omega) (by omega), o5 _ (by omega), o4 _ (by omega)]) (fun q hq1 hq2 => by rw [o8 q (by omega), o7 q (by omega), fr6 q (by omega) (by omega), o5 q (by omega), o4 q (by omega)])), (cf6.to (by rw [o8 _ (by omega), o7 _ (by omega)]) (fun q hq1 hq2 => by rw [o8 q (by omega), o7 q (by omega)]))⟩ (fun q hq1 hq2 => by rw [o8 q (by omega), o7 q (by omega), fr6 q (by omega) (by omega), o5 q (by omega), o4 q (by omega), fr3 q (by omega) (by omega), o2 q (by omega), o1 q (by omega)])
def xx_n8_told (B : xx_H) (a : Nat) : Prop := B.2 (a) = xx_r 16 2 (va_up (va_up (fun _ => none) (0 : Int32).toNatClampNeg (some (a + 1))) (1 : Int32).toNatClampNeg (some (a + 4))) ∧ xx_tw0 B (a + 1) (a + 2) ∧ xx_tw0 B (a + 4) (a + 5)
theorem xx_n8_told.to {B C : xx_H} {a : Nat} (h : xx_n8_told B a) (h1 : ∀ q, a ≤ q → q < a + 7 → C.2 q = B.2 q) : xx_n8_told C a := by
  obtain ⟨g0, g1, g2⟩ := h
  exact ⟨(h1 _ (by omega) (by omega)).trans g0, g1.to (h1 _ (by omega) (by omega)) (fun q h2 h3 => h1 q (by omega) (by omega)), g2.to (h1 _ (by omega) (by omega)) (fun q h2 h3 => h1 q (by omega) (by omega))⟩
set_option maxRecDepth 100000 in
theorem s8_told {G : xx_G} {l : Launch} {A : xx_H} {b : Nat} {Q : Option Value ⊕ String → xx_H → Prop} {u0 u1 u2 u3 u4 u5 u6 u7 u8 u9 u10 u11 u12 u13 u14 u15 u16 u17 : Value} (hb : A.2 b = xx_o 8 [u0, u1, u2, u3, u4, u5, u6, u7, u8, u9, u10, u11, u12, u13, u14, u15, u16, u17]) (hlt : b < A.1) (k : ∀ B : xx_H, B.1 = A.1 + 7 → B.2 b = xx_o 8 [u0, u1, .ref A.1, u3, u4, u5, u6, u7, u8, u9, u10, u11, u12, u13, u14, u15, u16, u17] → xx_n8_told B A.1 → (∀ q, q ≠ b → q < A.1 → B.2 q = A.2 q) → xx_X G l mX8_init 5 279 3330 67 [(0, .ref b)] [] B Q) : xx_X G l mX8_init 5 286 3360 39 [(0, .ref b)] [] A Q := by
  refine xx_aload_n dX8_init_39 rfl ?_
  refine xx_iconst (v := 2) dX8_init_40 (by decide) ?_
  refine xx_anew (kd := 16) (C := RX6) (N := 2) dX8_init_41 (by decide) rfl (by decide) wc_X8_20 (by decide) (by decide) (by decide) (xx_gp fun A1 z1 h1 o1 => ?_)
  have t1 : A1.1 = A.1 + 1 := by omega
  have h1 : A1.2 A.1 = xx_r 16 2 (fun _ => none) := h1
  have hb_1 := (o1 b (by omega)).trans hb
  refine xx_dup dX8_init_44 rfl ?_
  refine xx_iconst (v := 0) dX8_init_45 (by decide) ?_
  refine xx_new xx_c6 (fs := [.null, .null]) dX8_init_46 wc_X8_20 wn_X6 wz_X6 df_X6 (xx_gp fun A2 z2 h2 o2 => ?_)
  rw [t1] at h2 ⊢
  have t2 : A2.1 = A.1 + 2 := by omega
  have h2 : A2.2 (A.1 + 1) = xx_o 6 [.null, .null] := h2
  have hb_2 := (o2 b (by omega)).trans hb_1
  have h1_2 := (o2 A.1 (by omega)).trans h1
  refine xx_dup dX8_init_49 rfl ?_
  refine xx_callIN (N := mX6_init) (vs := []) (b := (A.1 + 1)) (rest := [.ref (A.1 + 1), .int 0, .ref A.1, .ref A.1, .ref b]) (d2 := 1) (c2 := 2) (s2 := 12) (c3 := 282) (s3 := 3344) dX8_init_50 (host := RX8) rfl rfl rfl (by decide) wi_X6_init (by decide) nX6_init ⟨pX6_init, Nat.le_of_ble_eq_true rfl, by decide, Nat.le_of_ble_eq_true rfl, by omega, by omega⟩ (c_tw0 h2) (fun v A3 hC => ?_) (fun E A3 hC => ?_)
  rotate_left
  · exact absurd hC.1 (by simp)
  obtain ⟨hv, y3, cf3, fr3⟩ := hC
  cases hv
  rw [t2] at cf3
  have t3 : A3.1 = A.1 + 4 := by omega
  have hb_3 := (fr3 b (by omega) (by omega)).trans hb_2
  have h1_3 := (fr3 A.1 (by omega) (by omega)).trans h1_2
  refine xx_cst (st2 := [.ref (A.1 + 1), .int 0, .ref A.1, .ref A.1, .ref b]) rfl ?_
  have pc3 := cf3.1
  refine xx_aast xx_c6 dX8_init_53 (by decide) rfl h1_3 pc3 (by unfold vp_in; decide) (xx_gu fun A4 z4 h4 o4 => ?_)
  have h4 : A4.2 A.1 = xx_r 16 2 (va_up (fun _ => none) (0 : Int32).toNatClampNeg (some (A.1 + 1))) := h4
  have hb_4 := (o4 b (by omega)).trans hb_3
  have pc3_4 := (o4 (A.1 + 1) (by omega)).trans pc3
  have t4 : A4.1 = A.1 + 4 := by omega
  refine xx_dup dX8_init_54 rfl ?_
  refine xx_iconst (v := 1) dX8_init_55 (by decide) ?_
  refine xx_new xx_c6 (fs := [.null, .null]) dX8_init_56 wc_X8_20 wn_X6 wz_X6 df_X6 (xx_gp fun A5 z5 h5 o5 => ?_)
  rw [t4] at h5 ⊢
  have t5 : A5.1 = A.1 + 5 := by omega
  have h5 : A5.2 (A.1 + 4) = xx_o 6 [.null, .null] := h5
  have hb_5 := (o5 b (by omega)).trans hb_4
  have h4_5 := (o5 A.1 (by omega)).trans h4
  have pc3_5 := (o5 (A.1 + 1) (by omega)).trans pc3_4
  refine xx_dup dX8_init_59 rfl ?_
  refine xx_callIN (N := mX6_init) (vs := []) (b := (A.1 + 4)) (rest := [.ref (A.1 + 4), .int 1, .ref A.1, .ref A.1, .ref b]) (d2 := 1) (c2 := 2) (s2 := 12) (c3 := 279) (s3 := 3330) dX8_init_60 (host := RX8) rfl rfl rfl (by decide) wi_X6_init (by decide) nX6_init ⟨pX6_init, Nat.le_of_ble_eq_true rfl, by decide, Nat.le_of_ble_eq_true rfl, by omega, by omega⟩ (c_tw0 h5) (fun v A6 hC => ?_) (fun E A6 hC => ?_)
  rotate_left
  · exact absurd hC.1 (by simp)
  obtain ⟨hv, y6, cf6, fr6⟩ := hC
  cases hv
  rw [t5] at cf6
  have t6 : A6.1 = A.1 + 7 := by omega
  have hb_6 := (fr6 b (by omega) (by omega)).trans hb_5
  have h4_6 := (fr6 A.1 (by omega) (by omega)).trans h4_5
  have pc3_6 := (fr6 (A.1 + 1) (by omega) (by omega)).trans pc3_5
  refine xx_cst (st2 := [.ref (A.1 + 4), .int 1, .ref A.1, .ref A.1, .ref b]) rfl ?_
  have pc6 := cf6.1
  refine xx_aast xx_c6 dX8_init_63 (by decide) rfl h4_6 pc6 (by unfold vp_in; decide) (xx_gu fun A7 z7 h7 o7 => ?_)
  have h7 : A7.2 A.1 = xx_r 16 2 (va_up (va_up (fun _ => none) (0 : Int32).toNatClampNeg (some (A.1 + 1))) (1 : Int32).toNatClampNeg (some (A.1 + 4))) := h7
  have hb_7 := (o7 b (by omega)).trans hb_6
  have pc3_7 := (o7 (A.1 + 1) (by omega)).trans pc3_6
  have pc6_7 := (o7 (A.1 + 4) (by omega)).trans pc6
  have t7 : A7.1 = A.1 + 7 := by omega
  refine xx_putF xx_c8 dX8_init_64 wf_X8_23 (j := 2) (by decide) rfl rfl rfl rfl rfl hb_7 (Nat.le_of_ble_eq_true rfl) (xx_gu fun A8 z8 h8 o8 => ?_)
  have h8 : A8.2 b = xx_o 8 [u0, u1, .ref A.1, u3, u4, u5, u6, u7, u8, u9, u10, u11, u12, u13, u14, u15, u16, u17] := h8
  have h7_8 := (o8 A.1 (by omega)).trans h7
  have pc3_8 := (o8 (A.1 + 1) (by omega)).trans pc3_7
  have pc6_8 := (o8 (A.1 + 4) (by omega)).trans pc6_7
  have t8 : A8.1 = A.1 + 7 := by omega
  exact k _ (by omega) h8 ⟨h7_8, (cf3.to (by rw [o8 _ (by omega), o7 _ (by omega), fr6 _ (by omega) (by omega), o5 _ (by omega), o4 _ (by omega)]) (fun q hq1 hq2 => by rw [o8 q (by omega), o7 q (by omega), fr6 q (by omega) (by omega), o5 q (by omega), o4 q (by omega)])), (cf6.to (by rw [o8 _ (by omega), o7 _ (by omega)]) (fun q hq1 hq2 => by rw [o8 q (by omega), o7 q (by omega)]))⟩ (fun q hq1 hq2 => by rw [o8 q (by omega), o7 q (by omega), fr6 q (by omega) (by omega), o5 q (by omega), o4 q (by omega), fr3 q (by omega) (by omega), o2 q (by omega), o1 q (by omega)])
def xx_n8_there (B : xx_H) (a : Nat) : Prop := B.2 (a) = xx_i 2 (fun _ => 0)
theorem xx_n8_there.to {B C : xx_H} {a : Nat} (h : xx_n8_there B a) (h1 : ∀ q, a ≤ q → q < a + 1 → C.2 q = B.2 q) : xx_n8_there C a := by
  have g0 : B.2 (a) = xx_i 2 (fun _ => 0) := h
  exact (h1 _ (by omega) (by omega)).trans g0
set_option maxRecDepth 100000 in
theorem s8_there {G : xx_G} {l : Launch} {A : xx_H} {b : Nat} {Q : Option Value ⊕ String → xx_H → Prop} {u0 u1 u2 u3 u4 u5 u6 u7 u8 u9 u10 u11 u12 u13 u14 u15 u16 u17 : Value} (hb : A.2 b = xx_o 8 [u0, u1, u2, u3, u4, u5, u6, u7, u8, u9, u10, u11, u12, u13, u14, u15, u16, u17]) (hlt : b < A.1) (k : ∀ B : xx_H, B.1 = A.1 + 1 → B.2 b = xx_o 8 [u0, u1, u2, .ref A.1, u4, u5, u6, u7, u8, u9, u10, u11, u12, u13, u14, u15, u16, u17] → xx_n8_there B A.1 → (∀ q, q ≠ b → q < A.1 → B.2 q = A.2 q) → xx_X G l mX8_init 5 278 3328 74 [(0, .ref b)] [] B Q) : xx_X G l mX8_init 5 279 3330 67 [(0, .ref b)] [] A Q := by
  refine xx_aload_n dX8_init_67 rfl ?_
  refine xx_iconst (v := 2) dX8_init_68 (by decide) ?_
  refine xx_newa (kd := 1) (N := 2) (z := .int 0) dX8_init_69 (by decide) rfl (by intro C h; cases h) wa_int rfl (by decide) (by decide) (by decide) (xx_gp fun A1 z1 h1 o1 => ?_)
  have t1 : A1.1 = A.1 + 1 := by omega
  have h1 : A1.2 A.1 = xx_i 2 (fun _ => 0) := h1
  have hb_1 := (o1 b (by omega)).trans hb
  refine xx_putF xx_c8 dX8_init_71 wf_X8_27 (j := 3) (by decide) rfl rfl rfl rfl rfl hb_1 (Nat.le_of_ble_eq_true rfl) (xx_gu fun A2 z2 h2 o2 => ?_)
  have h2 : A2.2 b = xx_o 8 [u0, u1, u2, .ref A.1, u4, u5, u6, u7, u8, u9, u10, u11, u12, u13, u14, u15, u16, u17] := h2
  have h1_2 := (o2 A.1 (by omega)).trans h1
  have t2 : A2.1 = A.1 + 1 := by omega
  exact k _ (by omega) h2 h1_2 (fun q hq1 hq2 => by rw [o2 q (by omega), o1 q (by omega)])
def xx_n8_tables (B : xx_H) (a : Nat) : Prop := B.2 (a) = xx_r 15 2 (va_up (va_up (fun _ => none) (0 : Int32).toNatClampNeg (some (a + 1))) (1 : Int32).toNatClampNeg (some (a + 104))) ∧ xx_tb0 B (a + 1) (a + 2) ∧ xx_tb0 B (a + 104) (a + 105)
theorem xx_n8_tables.to {B C : xx_H} {a : Nat} (h : xx_n8_tables B a) (h1 : ∀ q, a ≤ q → q < a + 207 → C.2 q = B.2 q) : xx_n8_tables C a := by
  obtain ⟨g0, g1, g2⟩ := h
  exact ⟨(h1 _ (by omega) (by omega)).trans g0, g1.to (h1 _ (by omega) (by omega)) (fun q h2 h3 => h1 q (by omega) (by omega)), g2.to (h1 _ (by omega) (by omega)) (fun q h2 h3 => h1 q (by omega) (by omega))⟩
set_option maxRecDepth 100000 in
theorem s8_tables {G : xx_G} {l : Launch} {A : xx_H} {b : Nat} {Q : Option Value ⊕ String → xx_H → Prop} {u0 u1 u2 u3 u4 u5 u6 u7 u8 u9 u10 u11 u12 u13 u14 u15 u16 u17 : Value} (hb : A.2 b = xx_o 8 [u0, u1, u2, u3, u4, u5, u6, u7, u8, u9, u10, u11, u12, u13, u14, u15, u16, u17]) (hlt : b < A.1) (k : ∀ B : xx_H, B.1 = A.1 + 207 → B.2 b = xx_o 8 [u0, u1, u2, u3, .ref A.1, u5, u6, u7, u8, u9, u10, u11, u12, u13, u14, u15, u16, u17] → xx_n8_tables B A.1 → (∀ q, q ≠ b → q < A.1 → B.2 q = A.2 q) → xx_X G l mX8_init 5 71 1494 102 [(0, .ref b)] [] B Q) : xx_X G l mX8_init 5 278 3328 74 [(0, .ref b)] [] A Q := by
  refine xx_aload_n dX8_init_74 rfl ?_
  refine xx_iconst (v := 2) dX8_init_75 (by decide) ?_
  refine xx_anew (kd := 15) (C := RX5) (N := 2) dX8_init_76 (by decide) rfl (by decide) wc_X8_30 (by decide) (by decide) (by decide) (xx_gp fun A1 z1 h1 o1 => ?_)
  have t1 : A1.1 = A.1 + 1 := by omega
  have h1 : A1.2 A.1 = xx_r 15 2 (fun _ => none) := h1
  have hb_1 := (o1 b (by omega)).trans hb
  refine xx_dup dX8_init_79 rfl ?_
  refine xx_iconst (v := 0) dX8_init_80 (by decide) ?_
  refine xx_new xx_c5 (fs := [.int 0, .int 0, .int 0, .null, .null, .null, .null, .null, .null, .null]) dX8_init_81 wc_X8_30 wn_X5 wz_X5 df_X5 (xx_gp fun A2 z2 h2 o2 => ?_)
  rw [t1] at h2 ⊢
  have t2 : A2.1 = A.1 + 2 := by omega
  have h2 : A2.2 (A.1 + 1) = xx_o 5 [.int 0, .int 0, .int 0, .null, .null, .null, .null, .null, .null, .null] := h2
  have hb_2 := (o2 b (by omega)).trans hb_1
  have h1_2 := (o2 A.1 (by omega)).trans h1
  refine xx_dup dX8_init_84 rfl ?_
  refine xx_callIN (N := mX5_init) (vs := []) (b := (A.1 + 1)) (rest := [.ref (A.1 + 1), .int 0, .ref A.1, .ref A.1, .ref b]) (d2 := 4) (c2 := 102) (s2 := 906) (c3 := 174) (s3 := 2410) dX8_init_85 (host := RX8) rfl rfl rfl (by decide) wi_X5_init (by decide) nX5_init ⟨pX5_init, Nat.le_of_ble_eq_true rfl, by decide, Nat.le_of_ble_eq_true rfl, by omega, by omega⟩ (c_X5_init h2) (fun v A3 hC => ?_) (fun E A3 hC => ?_)
  rotate_left
  · exact absurd hC.1 (by simp)
  obtain ⟨hv, y3, cf3, fr3⟩ := hC
  cases hv
  rw [t2] at cf3
  have t3 : A3.1 = A.1 + 104 := by omega
  have hb_3 := (fr3 b (by omega) (by omega)).trans hb_2
  have h1_3 := (fr3 A.1 (by omega) (by omega)).trans h1_2
  refine xx_cst (st2 := [.ref (A.1 + 1), .int 0, .ref A.1, .ref A.1, .ref b]) rfl ?_
  have pc3 := cf3.1
  refine xx_aast xx_c5 dX8_init_88 (by decide) rfl h1_3 pc3 (by unfold vp_in; decide) (xx_gu fun A4 z4 h4 o4 => ?_)
  have h4 : A4.2 A.1 = xx_r 15 2 (va_up (fun _ => none) (0 : Int32).toNatClampNeg (some (A.1 + 1))) := h4
  have hb_4 := (o4 b (by omega)).trans hb_3
  have pc3_4 := (o4 (A.1 + 1) (by omega)).trans pc3
  have t4 : A4.1 = A.1 + 104 := by omega
  refine xx_dup dX8_init_89 rfl ?_
  refine xx_iconst (v := 1) dX8_init_90 (by decide) ?_
  refine xx_new xx_c5 (fs := [.int 0, .int 0, .int 0, .null, .null, .null, .null, .null, .null, .null]) dX8_init_91 wc_X8_30 wn_X5 wz_X5 df_X5 (xx_gp fun A5 z5 h5 o5 => ?_)
  rw [t4] at h5 ⊢
  have t5 : A5.1 = A.1 + 105 := by omega
  have h5 : A5.2 (A.1 + 104) = xx_o 5 [.int 0, .int 0, .int 0, .null, .null, .null, .null, .null, .null, .null] := h5
  have hb_5 := (o5 b (by omega)).trans hb_4
  have h4_5 := (o5 A.1 (by omega)).trans h4
  have pc3_5 := (o5 (A.1 + 1) (by omega)).trans pc3_4
  refine xx_dup dX8_init_94 rfl ?_
  refine xx_callIN (N := mX5_init) (vs := []) (b := (A.1 + 104)) (rest := [.ref (A.1 + 104), .int 1, .ref A.1, .ref A.1, .ref b]) (d2 := 4) (c2 := 102) (s2 := 906) (c3 := 71) (s3 := 1494) dX8_init_95 (host := RX8) rfl rfl rfl (by decide) wi_X5_init (by decide) nX5_init ⟨pX5_init, Nat.le_of_ble_eq_true rfl, by decide, Nat.le_of_ble_eq_true rfl, by omega, by omega⟩ (c_X5_init h5) (fun v A6 hC => ?_) (fun E A6 hC => ?_)
  rotate_left
  · exact absurd hC.1 (by simp)
  obtain ⟨hv, y6, cf6, fr6⟩ := hC
  cases hv
  rw [t5] at cf6
  have t6 : A6.1 = A.1 + 207 := by omega
  have hb_6 := (fr6 b (by omega) (by omega)).trans hb_5
  have h4_6 := (fr6 A.1 (by omega) (by omega)).trans h4_5
  have pc3_6 := (fr6 (A.1 + 1) (by omega) (by omega)).trans pc3_5
  refine xx_cst (st2 := [.ref (A.1 + 104), .int 1, .ref A.1, .ref A.1, .ref b]) rfl ?_
  have pc6 := cf6.1
  refine xx_aast xx_c5 dX8_init_98 (by decide) rfl h4_6 pc6 (by unfold vp_in; decide) (xx_gu fun A7 z7 h7 o7 => ?_)
  have h7 : A7.2 A.1 = xx_r 15 2 (va_up (va_up (fun _ => none) (0 : Int32).toNatClampNeg (some (A.1 + 1))) (1 : Int32).toNatClampNeg (some (A.1 + 104))) := h7
  have hb_7 := (o7 b (by omega)).trans hb_6
  have pc3_7 := (o7 (A.1 + 1) (by omega)).trans pc3_6
  have pc6_7 := (o7 (A.1 + 104) (by omega)).trans pc6
  have t7 : A7.1 = A.1 + 207 := by omega
  refine xx_putF xx_c8 dX8_init_99 wf_X8_33 (j := 4) (by decide) rfl rfl rfl rfl rfl hb_7 (Nat.le_of_ble_eq_true rfl) (xx_gu fun A8 z8 h8 o8 => ?_)
  have h8 : A8.2 b = xx_o 8 [u0, u1, u2, u3, .ref A.1, u5, u6, u7, u8, u9, u10, u11, u12, u13, u14, u15, u16, u17] := h8
  have h7_8 := (o8 A.1 (by omega)).trans h7
  have pc3_8 := (o8 (A.1 + 1) (by omega)).trans pc3_7
  have pc6_8 := (o8 (A.1 + 104) (by omega)).trans pc6_7
  have t8 : A8.1 = A.1 + 207 := by omega
  exact k _ (by omega) h8 ⟨h7_8, (cf3.to (by rw [o8 _ (by omega), o7 _ (by omega), fr6 _ (by omega) (by omega), o5 _ (by omega), o4 _ (by omega)]) (fun q hq1 hq2 => by rw [o8 q (by omega), o7 q (by omega), fr6 q (by omega) (by omega), o5 q (by omega), o4 q (by omega)])), (cf6.to (by rw [o8 _ (by omega), o7 _ (by omega)]) (fun q hq1 hq2 => by rw [o8 q (by omega), o7 q (by omega)]))⟩ (fun q hq1 hq2 => by rw [o8 q (by omega), o7 q (by omega), fr6 q (by omega) (by omega), o5 q (by omega), o4 q (by omega), fr3 q (by omega) (by omega), o2 q (by omega), o1 q (by omega)])
def xx_n8_path (B : xx_H) (a : Nat) : Prop := B.2 (a) = xx_r 5 3 (fun j => some (a + 1 + j)) ∧ (∀ j, j < 3 → B.2 (a + 1 + j) = xx_i 256 (fun _ => 0))
theorem xx_n8_path.to {B C : xx_H} {a : Nat} (h : xx_n8_path B a) (h1 : ∀ q, a ≤ q → q < a + 4 → C.2 q = B.2 q) : xx_n8_path C a := by
  obtain ⟨g0, g1⟩ := h
  exact ⟨(h1 _ (by omega) (by omega)).trans g0, fun j hj => (h1 _ (by omega) (by omega)).trans (g1 j hj)⟩
set_option maxRecDepth 100000 in
theorem s8_path {G : xx_G} {l : Launch} {A : xx_H} {b : Nat} {Q : Option Value ⊕ String → xx_H → Prop} {u0 u1 u2 u3 u4 u5 u6 u7 u8 u9 u10 u11 u12 u13 u14 u15 u16 u17 : Value} (hb : A.2 b = xx_o 8 [u0, u1, u2, u3, u4, u5, u6, u7, u8, u9, u10, u11, u12, u13, u14, u15, u16, u17]) (hlt : b < A.1) (k : ∀ B : xx_H, B.1 = A.1 + 4 → B.2 b = xx_o 8 [u0, u1, u2, u3, u4, .ref A.1, u6, u7, u8, u9, u10, u11, u12, u13, u14, u15, u16, u17] → xx_n8_path B A.1 → (∀ q, q ≠ b → q < A.1 → B.2 q = A.2 q) → xx_X G l mX8_init 5 67 723 114 [(0, .ref b)] [] B Q) : xx_X G l mX8_init 5 71 1494 102 [(0, .ref b)] [] A Q := by
  refine xx_aload_n dX8_init_102 rfl ?_
  refine xx_iconst (v := 3) dX8_init_103 (by decide) ?_
  refine xx_sipush (v := 256) dX8_init_104 (by decide) ?_
  refine xx_mna (N := 3) (K := 256) dX8_init_107 wc_X8_37 (by decide) (by decide) (by decide) (by decide) (by decide) (by decide) (by decide) (xx_gg fun A1 z1 h1 g1 o1 => ?_)
  have t1 : A1.1 = A.1 + 4 := by omega
  have h1 : A1.2 A.1 = xx_r 5 3 (fun j => some (A.1 + 1 + j)) := h1
  have hb_1 := (o1 b (by omega)).trans hb
  refine xx_putF xx_c8 dX8_init_111 wf_X8_39 (j := 5) (by decide) rfl rfl rfl rfl rfl hb_1 (Nat.le_of_ble_eq_true rfl) (xx_gu fun A2 z2 h2 o2 => ?_)
  have h2 : A2.2 b = xx_o 8 [u0, u1, u2, u3, u4, .ref A.1, u6, u7, u8, u9, u10, u11, u12, u13, u14, u15, u16, u17] := h2
  have h1_2 := (o2 A.1 (by omega)).trans h1
  have t2 : A2.1 = A.1 + 4 := by omega
  exact k _ (by omega) h2 ⟨h1_2, (fun j hj => (by rw [o2 _ (by omega)]; exact g1 j hj))⟩ (fun q hq1 hq2 => by rw [o2 q (by omega), o1 q (by omega)])
set_option maxRecDepth 100000 in
theorem s8_plain {G : xx_G} {l : Launch} {A : xx_H} {b : Nat} {Q : Option Value ⊕ String → xx_H → Prop} {u0 u1 u2 u3 u4 u5 u6 u7 u8 u9 u10 u11 u12 u13 u14 u15 u16 u17 : Value} (hb : A.2 b = xx_o 8 [u0, u1, u2, u3, u4, u5, u6, u7, u8, u9, u10, u11, u12, u13, u14, u15, u16, u17]) (hlt : b < A.1) (k : ∀ B : xx_H, B.1 = A.1 + 0 → B.2 b = xx_o 8 [u0, u1, u2, u3, u4, u5, .int 0, .int (-1), .null, u9, u10, u11, u12, u13, u14, u15, u16, u17] → (∀ q, q ≠ b → q < A.1 → B.2 q = A.2 q) → xx_X G l mX8_init 5 67 723 129 [(0, .ref b)] [] B Q) : xx_X G l mX8_init 5 67 723 114 [(0, .ref b)] [] A Q := by
  refine xx_aload_n dX8_init_114 rfl ?_
  refine xx_iconst (v := 0) dX8_init_115 (by decide) ?_
  refine xx_put xx_c8 dX8_init_116 wf_X8_42 (j := 6) (by decide) rfl rfl rfl hb (Nat.le_of_ble_eq_true rfl) (xx_gu fun A1 z1 h1 o1 => ?_)
  have h1 : A1.2 b = xx_o 8 [u0, u1, u2, u3, u4, u5, .int 0, u7, u8, u9, u10, u11, u12, u13, u14, u15, u16, u17] := h1
  have t1 : A1.1 = A.1 + 0 := by omega
  refine xx_aload_n dX8_init_119 rfl ?_
  refine xx_iconst (v := (-1)) dX8_init_120 (by decide) ?_
  refine xx_put xx_c8 dX8_init_121 wf_X8_46 (j := 7) (by decide) rfl rfl rfl h1 (Nat.le_of_ble_eq_true rfl) (xx_gu fun A2 z2 h2 o2 => ?_)
  have h2 : A2.2 b = xx_o 8 [u0, u1, u2, u3, u4, u5, .int 0, .int (-1), u8, u9, u10, u11, u12, u13, u14, u15, u16, u17] := h2
  have t2 : A2.1 = A.1 + 0 := by omega
  refine xx_aload_n dX8_init_124 rfl ?_
  refine xx_null dX8_init_125 ?_
  refine xx_put xx_c8 dX8_init_126 wf_X8_49 (j := 8) (by decide) rfl rfl rfl h2 (Nat.le_of_ble_eq_true rfl) (xx_gu fun A3 z3 h3 o3 => ?_)
  have h3 : A3.2 b = xx_o 8 [u0, u1, u2, u3, u4, u5, .int 0, .int (-1), .null, u9, u10, u11, u12, u13, u14, u15, u16, u17] := h3
  have t3 : A3.1 = A.1 + 0 := by omega
  exact k _ (by omega) h3 (fun q hq1 hq2 => by rw [o3 q (by omega), o2 q (by omega), o1 q (by omega)])
def xx_n8_entries (B : xx_H) (a : Nat) : Prop := B.2 (a) = xx_r 5 2 (fun j => some (a + 1 + j)) ∧ (∀ j, j < 2 → B.2 (a + 1 + j) = xx_i 100 (fun _ => 0))
theorem xx_n8_entries.to {B C : xx_H} {a : Nat} (h : xx_n8_entries B a) (h1 : ∀ q, a ≤ q → q < a + 3 → C.2 q = B.2 q) : xx_n8_entries C a := by
  obtain ⟨g0, g1⟩ := h
  exact ⟨(h1 _ (by omega) (by omega)).trans g0, fun j hj => (h1 _ (by omega) (by omega)).trans (g1 j hj)⟩
set_option maxRecDepth 100000 in
theorem s8_entries {G : xx_G} {l : Launch} {A : xx_H} {b : Nat} {Q : Option Value ⊕ String → xx_H → Prop} {u0 u1 u2 u3 u4 u5 u6 u7 u8 u9 u10 u11 u12 u13 u14 u15 u16 u17 : Value} (hb : A.2 b = xx_o 8 [u0, u1, u2, u3, u4, u5, u6, u7, u8, u9, u10, u11, u12, u13, u14, u15, u16, u17]) (hlt : b < A.1) (k : ∀ B : xx_H, B.1 = A.1 + 3 → B.2 b = xx_o 8 [u0, u1, u2, u3, u4, u5, u6, u7, u8, .ref A.1, u10, u11, u12, u13, u14, u15, u16, u17] → xx_n8_entries B A.1 → (∀ q, q ≠ b → q < A.1 → B.2 q = A.2 q) → xx_X G l mX8_init 5 64 521 140 [(0, .ref b)] [] B Q) : xx_X G l mX8_init 5 67 723 129 [(0, .ref b)] [] A Q := by
  refine xx_aload_n dX8_init_129 rfl ?_
  refine xx_iconst (v := 2) dX8_init_130 (by decide) ?_
  refine xx_bipush (v := 100) dX8_init_131 (by decide) ?_
  refine xx_mna (N := 2) (K := 100) dX8_init_133 wc_X8_37 (by decide) (by decide) (by decide) (by decide) (by decide) (by decide) (by decide) (xx_gg fun A1 z1 h1 g1 o1 => ?_)
  have t1 : A1.1 = A.1 + 3 := by omega
  have h1 : A1.2 A.1 = xx_r 5 2 (fun j => some (A.1 + 1 + j)) := h1
  have hb_1 := (o1 b (by omega)).trans hb
  refine xx_putF xx_c8 dX8_init_137 wf_X8_53 (j := 9) (by decide) rfl rfl rfl rfl rfl hb_1 (Nat.le_of_ble_eq_true rfl) (xx_gu fun A2 z2 h2 o2 => ?_)
  have h2 : A2.2 b = xx_o 8 [u0, u1, u2, u3, u4, u5, u6, u7, u8, .ref A.1, u10, u11, u12, u13, u14, u15, u16, u17] := h2
  have h1_2 := (o2 A.1 (by omega)).trans h1
  have t2 : A2.1 = A.1 + 3 := by omega
  exact k _ (by omega) h2 ⟨h1_2, (fun j hj => (by rw [o2 _ (by omega)]; exact g1 j hj))⟩ (fun q hq1 hq2 => by rw [o2 q (by omega), o1 q (by omega)])
set_option maxRecDepth 100000 in
theorem s8_plain2 {G : xx_G} {l : Launch} {A : xx_H} {b : Nat} {Q : Option Value ⊕ String → xx_H → Prop} {u0 u1 u2 u3 u4 u5 u6 u7 u8 u9 u10 u11 u12 u13 u14 u15 u16 u17 : Value} (hb : A.2 b = xx_o 8 [u0, u1, u2, u3, u4, u5, u6, u7, u8, u9, u10, u11, u12, u13, u14, u15, u16, u17]) (hlt : b < A.1) (k : ∀ B : xx_H, B.1 = A.1 + 0 → B.2 b = xx_o 8 [u0, u1, u2, u3, u4, u5, u6, u7, u8, u9, .int 0, .int 0, u12, u13, u14, u15, u16, u17] → (∀ q, q ≠ b → q < A.1 → B.2 q = A.2 q) → xx_X G l mX8_init 5 64 521 150 [(0, .ref b)] [] B Q) : xx_X G l mX8_init 5 64 521 140 [(0, .ref b)] [] A Q := by
  refine xx_aload_n dX8_init_140 rfl ?_
  refine xx_iconst (v := 0) dX8_init_141 (by decide) ?_
  refine xx_put xx_c8 dX8_init_142 wf_X8_56 (j := 10) (by decide) rfl rfl rfl hb (Nat.le_of_ble_eq_true rfl) (xx_gu fun A1 z1 h1 o1 => ?_)
  have h1 : A1.2 b = xx_o 8 [u0, u1, u2, u3, u4, u5, u6, u7, u8, u9, .int 0, u11, u12, u13, u14, u15, u16, u17] := h1
  have t1 : A1.1 = A.1 + 0 := by omega
  refine xx_aload_n dX8_init_145 rfl ?_
  refine xx_iconst (v := 0) dX8_init_146 (by decide) ?_
  refine xx_put xx_c8 dX8_init_147 wf_X8_59 (j := 11) (by decide) rfl rfl rfl h1 (Nat.le_of_ble_eq_true rfl) (xx_gu fun A2 z2 h2 o2 => ?_)
  have h2 : A2.2 b = xx_o 8 [u0, u1, u2, u3, u4, u5, u6, u7, u8, u9, .int 0, .int 0, u12, u13, u14, u15, u16, u17] := h2
  have t2 : A2.1 = A.1 + 0 := by omega
  exact k _ (by omega) h2 (fun q hq1 hq2 => by rw [o2 q (by omega), o1 q (by omega)])
def xx_n8_strategies (B : xx_H) (a : Nat) : Prop := B.2 (a) = xx_r 17 2 (va_up (va_up (fun _ => none) (0 : Int32).toNatClampNeg (some (a + 1))) (1 : Int32).toNatClampNeg (some (a + 17))) ∧ xx_wt0 B (a + 1) (a + 2) ∧ xx_wt0 B (a + 17) (a + 18)
theorem xx_n8_strategies.to {B C : xx_H} {a : Nat} (h : xx_n8_strategies B a) (h1 : ∀ q, a ≤ q → q < a + 33 → C.2 q = B.2 q) : xx_n8_strategies C a := by
  obtain ⟨g0, g1, g2⟩ := h
  exact ⟨(h1 _ (by omega) (by omega)).trans g0, g1.to (h1 _ (by omega) (by omega)) (fun q h2 h3 => h1 q (by omega) (by omega)), g2.to (h1 _ (by omega) (by omega)) (fun q h2 h3 => h1 q (by omega) (by omega))⟩
set_option maxRecDepth 100000 in
theorem s8_strategies {G : xx_G} {l : Launch} {A : xx_H} {b : Nat} {Q : Option Value ⊕ String → xx_H → Prop} {u0 u1 u2 u3 u4 u5 u6 u7 u8 u9 u10 u11 u12 u13 u14 u15 u16 u17 : Value} (hb : A.2 b = xx_o 8 [u0, u1, u2, u3, u4, u5, u6, u7, u8, u9, u10, u11, u12, u13, u14, u15, u16, u17]) (hlt : b < A.1) (k : ∀ B : xx_H, B.1 = A.1 + 33 → B.2 b = xx_o 8 [u0, u1, u2, u3, u4, u5, u6, u7, u8, u9, u10, u11, .ref A.1, u13, u14, u15, u16, u17] → xx_n8_strategies B A.1 → (∀ q, q ≠ b → q < A.1 → B.2 q = A.2 q) → xx_X G l mX8_init 5 31 265 178 [(0, .ref b)] [] B Q) : xx_X G l mX8_init 5 64 521 150 [(0, .ref b)] [] A Q := by
  refine xx_aload_n dX8_init_150 rfl ?_
  refine xx_iconst (v := 2) dX8_init_151 (by decide) ?_
  refine xx_anew (kd := 17) (C := RX7) (N := 2) dX8_init_152 (by decide) rfl (by decide) wc_X8_63 (by decide) (by decide) (by decide) (xx_gp fun A1 z1 h1 o1 => ?_)
  have t1 : A1.1 = A.1 + 1 := by omega
  have h1 : A1.2 A.1 = xx_r 17 2 (fun _ => none) := h1
  have hb_1 := (o1 b (by omega)).trans hb
  refine xx_dup dX8_init_155 rfl ?_
  refine xx_iconst (v := 0) dX8_init_156 (by decide) ?_
  refine xx_new xx_c7 (fs := [.null, .null]) dX8_init_157 wc_X8_63 wn_X7 wz_X7 df_X7 (xx_gp fun A2 z2 h2 o2 => ?_)
  rw [t1] at h2 ⊢
  have t2 : A2.1 = A.1 + 2 := by omega
  have h2 : A2.2 (A.1 + 1) = xx_o 7 [.null, .null] := h2
  have hb_2 := (o2 b (by omega)).trans hb_1
  have h1_2 := (o2 A.1 (by omega)).trans h1
  refine xx_dup dX8_init_160 rfl ?_
  refine xx_callIN (N := mX7_init) (vs := []) (b := (A.1 + 1)) (rest := [.ref (A.1 + 1), .int 0, .ref A.1, .ref A.1, .ref b]) (d2 := 4) (c2 := 15) (s2 := 125) (c3 := 47) (s3 := 392) dX8_init_161 (host := RX8) rfl rfl rfl (by decide) wi_X7_init (by decide) nX7_init ⟨pX7_init, Nat.le_of_ble_eq_true rfl, by decide, Nat.le_of_ble_eq_true rfl, by omega, by omega⟩ (c_X7_init h2) (fun v A3 hC => ?_) (fun E A3 hC => ?_)
  rotate_left
  · exact absurd hC.1 (by simp)
  obtain ⟨hv, y3, cf3, fr3⟩ := hC
  cases hv
  rw [t2] at cf3
  have t3 : A3.1 = A.1 + 17 := by omega
  have hb_3 := (fr3 b (by omega) (by omega)).trans hb_2
  have h1_3 := (fr3 A.1 (by omega) (by omega)).trans h1_2
  refine xx_cst (st2 := [.ref (A.1 + 1), .int 0, .ref A.1, .ref A.1, .ref b]) rfl ?_
  have pc3 := cf3.1
  refine xx_aast xx_c7 dX8_init_164 (by decide) rfl h1_3 pc3 (by unfold vp_in; decide) (xx_gu fun A4 z4 h4 o4 => ?_)
  have h4 : A4.2 A.1 = xx_r 17 2 (va_up (fun _ => none) (0 : Int32).toNatClampNeg (some (A.1 + 1))) := h4
  have hb_4 := (o4 b (by omega)).trans hb_3
  have pc3_4 := (o4 (A.1 + 1) (by omega)).trans pc3
  have t4 : A4.1 = A.1 + 17 := by omega
  refine xx_dup dX8_init_165 rfl ?_
  refine xx_iconst (v := 1) dX8_init_166 (by decide) ?_
  refine xx_new xx_c7 (fs := [.null, .null]) dX8_init_167 wc_X8_63 wn_X7 wz_X7 df_X7 (xx_gp fun A5 z5 h5 o5 => ?_)
  rw [t4] at h5 ⊢
  have t5 : A5.1 = A.1 + 18 := by omega
  have h5 : A5.2 (A.1 + 17) = xx_o 7 [.null, .null] := h5
  have hb_5 := (o5 b (by omega)).trans hb_4
  have h4_5 := (o5 A.1 (by omega)).trans h4
  have pc3_5 := (o5 (A.1 + 1) (by omega)).trans pc3_4
  refine xx_dup dX8_init_170 rfl ?_
  refine xx_callIN (N := mX7_init) (vs := []) (b := (A.1 + 17)) (rest := [.ref (A.1 + 17), .int 1, .ref A.1, .ref A.1, .ref b]) (d2 := 4) (c2 := 15) (s2 := 125) (c3 := 31) (s3 := 265) dX8_init_171 (host := RX8) rfl rfl rfl (by decide) wi_X7_init (by decide) nX7_init ⟨pX7_init, Nat.le_of_ble_eq_true rfl, by decide, Nat.le_of_ble_eq_true rfl, by omega, by omega⟩ (c_X7_init h5) (fun v A6 hC => ?_) (fun E A6 hC => ?_)
  rotate_left
  · exact absurd hC.1 (by simp)
  obtain ⟨hv, y6, cf6, fr6⟩ := hC
  cases hv
  rw [t5] at cf6
  have t6 : A6.1 = A.1 + 33 := by omega
  have hb_6 := (fr6 b (by omega) (by omega)).trans hb_5
  have h4_6 := (fr6 A.1 (by omega) (by omega)).trans h4_5
  have pc3_6 := (fr6 (A.1 + 1) (by omega) (by omega)).trans pc3_5
  refine xx_cst (st2 := [.ref (A.1 + 17), .int 1, .ref A.1, .ref A.1, .ref b]) rfl ?_
  have pc6 := cf6.1
  refine xx_aast xx_c7 dX8_init_174 (by decide) rfl h4_6 pc6 (by unfold vp_in; decide) (xx_gu fun A7 z7 h7 o7 => ?_)
  have h7 : A7.2 A.1 = xx_r 17 2 (va_up (va_up (fun _ => none) (0 : Int32).toNatClampNeg (some (A.1 + 1))) (1 : Int32).toNatClampNeg (some (A.1 + 17))) := h7
  have hb_7 := (o7 b (by omega)).trans hb_6
  have pc3_7 := (o7 (A.1 + 1) (by omega)).trans pc3_6
  have pc6_7 := (o7 (A.1 + 17) (by omega)).trans pc6
  have t7 : A7.1 = A.1 + 33 := by omega
  refine xx_putF xx_c8 dX8_init_175 wf_X8_66 (j := 12) (by decide) rfl rfl rfl rfl rfl hb_7 (Nat.le_of_ble_eq_true rfl) (xx_gu fun A8 z8 h8 o8 => ?_)
  have h8 : A8.2 b = xx_o 8 [u0, u1, u2, u3, u4, u5, u6, u7, u8, u9, u10, u11, .ref A.1, u13, u14, u15, u16, u17] := h8
  have h7_8 := (o8 A.1 (by omega)).trans h7
  have pc3_8 := (o8 (A.1 + 1) (by omega)).trans pc3_7
  have pc6_8 := (o8 (A.1 + 17) (by omega)).trans pc6_7
  have t8 : A8.1 = A.1 + 33 := by omega
  exact k _ (by omega) h8 ⟨h7_8, (cf3.to (by rw [o8 _ (by omega), o7 _ (by omega), fr6 _ (by omega) (by omega), o5 _ (by omega), o4 _ (by omega)]) (fun q hq1 hq2 => by rw [o8 q (by omega), o7 q (by omega), fr6 q (by omega) (by omega), o5 q (by omega), o4 q (by omega)])), (cf6.to (by rw [o8 _ (by omega), o7 _ (by omega)]) (fun q hq1 hq2 => by rw [o8 q (by omega), o7 q (by omega)]))⟩ (fun q hq1 hq2 => by rw [o8 q (by omega), o7 q (by omega), fr6 q (by omega) (by omega), o5 q (by omega), o4 q (by omega), fr3 q (by omega) (by omega), o2 q (by omega), o1 q (by omega)])
def xx_n8_values (B : xx_H) (a : Nat) : Prop := xx_row B (a) 6
theorem xx_n8_values.to {B C : xx_H} {a : Nat} (h : xx_n8_values B a) (h1 : ∀ q, a ≤ q → q < a + 13 → C.2 q = B.2 q) : xx_n8_values C a := by
  have g0 : xx_row B (a) 6 := h
  exact g0.to (fun q h2 h3 => h1 q (by omega) (by omega))
set_option maxRecDepth 100000 in
theorem s8_values {G : xx_G} {l : Launch} {A : xx_H} {b : Nat} {Q : Option Value ⊕ String → xx_H → Prop} {u0 u1 u2 u3 u4 u5 u6 u7 u8 u9 u10 u11 u12 u13 u14 u15 u16 u17 : Value} (hb : A.2 b = xx_o 8 [u0, u1, u2, u3, u4, u5, u6, u7, u8, u9, u10, u11, u12, u13, u14, u15, u16, u17]) (hlt : b < A.1) (k : ∀ B : xx_H, B.1 = A.1 + 13 → B.2 b = xx_o 8 [u0, u1, u2, u3, u4, u5, u6, u7, u8, u9, u10, u11, u12, .ref A.1, u14, u15, u16, u17] → xx_n8_values B A.1 → (∀ q, q ≠ b → q < A.1 → B.2 q = A.2 q) → xx_X G l mX8_init 5 18 157 187 [(0, .ref b)] [] B Q) : xx_X G l mX8_init 5 31 265 178 [(0, .ref b)] [] A Q := by
  refine xx_aload_n dX8_init_178 rfl ?_
  refine xx_bipush (v := 6) dX8_init_179 (by decide) ?_
  refine xx_eqi (y := nI 6) rfl ?_
  refine xx_callS (N := mX8_bigs) (vs := [.int (nI 6)]) (rest := [.ref b]) (d2 := 3) (c2 := 13) (s2 := 108) (c3 := 18) (s3 := 157) dX8_init_181 wm_X8_70 ws_X8_bigs wz_X8 (by decide) nX8_bigs ⟨pX8_bigs, Nat.le_of_ble_eq_true rfl, by decide, Nat.le_of_ble_eq_true rfl, by omega, by omega⟩ (c_X8_bigs (N := 6) (by decide)) (fun v A1 hC => ?_) (fun E A1 hC => ?_)
  rotate_left
  · exact absurd hC.1 (by simp)
  obtain ⟨hv, y1, rw1, fr1⟩ := hC
  cases hv
  have t1 : A1.1 = A.1 + 13 := by omega
  have hb_1 := (fr1 b (by omega)).trans hb
  refine xx_cst (st2 := [.ref A.1, .ref b]) rfl ?_
  refine xx_putF xx_c8 dX8_init_184 wf_X8_74 (j := 13) (by decide) rfl rfl rfl rfl rfl hb_1 (Nat.le_of_ble_eq_true rfl) (xx_gu fun A2 z2 h2 o2 => ?_)
  have h2 : A2.2 b = xx_o 8 [u0, u1, u2, u3, u4, u5, u6, u7, u8, u9, u10, u11, u12, .ref A.1, u14, u15, u16, u17] := h2
  have t2 : A2.1 = A.1 + 13 := by omega
  exact k _ (by omega) h2 (rw1.to (fun q hq1 hq2 => by rw [o2 q (by omega)])) (fun q hq1 hq2 => by rw [o2 q (by omega), fr1 q (by omega)])
def xx_n8_product (B : xx_H) (a : Nat) : Prop := xx_zb B (a)
theorem xx_n8_product.to {B C : xx_H} {a : Nat} (h : xx_n8_product B a) (h1 : ∀ q, a ≤ q → q < a + 2 → C.2 q = B.2 q) : xx_n8_product C a := by
  have g0 : xx_zb B (a) := h
  exact g0.to (h1 _ (by omega) (by omega)) (h1 _ (by omega) (by omega))
set_option maxRecDepth 100000 in
theorem s8_product {G : xx_G} {l : Launch} {A : xx_H} {b : Nat} {Q : Option Value ⊕ String → xx_H → Prop} {u0 u1 u2 u3 u4 u5 u6 u7 u8 u9 u10 u11 u12 u13 u14 u15 u16 u17 : Value} (hb : A.2 b = xx_o 8 [u0, u1, u2, u3, u4, u5, u6, u7, u8, u9, u10, u11, u12, u13, u14, u15, u16, u17]) (hlt : b < A.1) (k : ∀ B : xx_H, B.1 = A.1 + 2 → B.2 b = xx_o 8 [u0, u1, u2, u3, u4, u5, u6, u7, u8, u9, u10, u11, u12, u13, .ref A.1, u15, u16, u17] → xx_n8_product B A.1 → (∀ q, q ≠ b → q < A.1 → B.2 q = A.2 q) → xx_X G l mX8_init 5 16 140 198 [(0, .ref b)] [] B Q) : xx_X G l mX8_init 5 18 157 187 [(0, .ref b)] [] A Q := by
  refine xx_aload_n dX8_init_187 rfl ?_
  refine xx_new xx_c0 (fs := [.int 0, .int 0, .null]) dX8_init_188 wc_X8_78 wn_X0 wz_X0 df_X0 (xx_gp fun A1 z1 h1 o1 => ?_)
  have t1 : A1.1 = A.1 + 1 := by omega
  have h1 : A1.2 A.1 = xx_o 0 [.int 0, .int 0, .null] := h1
  have hb_1 := (o1 b (by omega)).trans hb
  refine xx_dup dX8_init_191 rfl ?_
  refine xx_callIN (N := mX0_init) (vs := []) (b := A.1) (rest := [.ref A.1, .ref b]) (d2 := 1) (c2 := 1) (s2 := 14) (c3 := 16) (s3 := 140) dX8_init_192 (host := RX8) rfl rfl rfl (by decide) wi_X0_init (by decide) nX0_init ⟨pX0_init, Nat.le_of_ble_eq_true rfl, by decide, Nat.le_of_ble_eq_true rfl, by omega, by omega⟩ (c_big0 h1 (by omega)) (fun v A2 hC => ?_) (fun E A2 hC => ?_)
  rotate_left
  · exact absurd hC.1 (by simp)
  obtain ⟨hv, y2, zb2, fr2⟩ := hC
  cases hv
  have t2 : A2.1 = A.1 + 2 := by omega
  have hb_2 := (fr2 b (by omega) (by omega)).trans hb_1
  refine xx_cst (st2 := [.ref A.1, .ref b]) rfl ?_
  obtain ⟨p2, pb2⟩ := zb2
  refine xx_putF xx_c8 dX8_init_195 wf_X8_81 (j := 14) (by decide) rfl rfl rfl rfl rfl hb_2 (Nat.le_of_ble_eq_true rfl) (xx_gu fun A3 z3 h3 o3 => ?_)
  have h3 : A3.2 b = xx_o 8 [u0, u1, u2, u3, u4, u5, u6, u7, u8, u9, u10, u11, u12, u13, .ref A.1, u15, u16, u17] := h3
  have p2_3 := (o3 A.1 (by omega)).trans p2
  have pb2_3 := (o3 (A.1 + 1) (by omega)).trans pb2
  have t3 : A3.1 = A.1 + 2 := by omega
  exact k _ (by omega) h3 ⟨p2_3, pb2_3⟩ (fun q hq1 hq2 => by rw [o3 q (by omega), fr2 q (by omega) (by omega), o1 q (by omega)])
def xx_n8_own (B : xx_H) (a : Nat) : Prop := xx_zb B (a)
theorem xx_n8_own.to {B C : xx_H} {a : Nat} (h : xx_n8_own B a) (h1 : ∀ q, a ≤ q → q < a + 2 → C.2 q = B.2 q) : xx_n8_own C a := by
  have g0 : xx_zb B (a) := h
  exact g0.to (h1 _ (by omega) (by omega)) (h1 _ (by omega) (by omega))
set_option maxRecDepth 100000 in
theorem s8_own {G : xx_G} {l : Launch} {A : xx_H} {b : Nat} {Q : Option Value ⊕ String → xx_H → Prop} {u0 u1 u2 u3 u4 u5 u6 u7 u8 u9 u10 u11 u12 u13 u14 u15 u16 u17 : Value} (hb : A.2 b = xx_o 8 [u0, u1, u2, u3, u4, u5, u6, u7, u8, u9, u10, u11, u12, u13, u14, u15, u16, u17]) (hlt : b < A.1) (k : ∀ B : xx_H, B.1 = A.1 + 2 → B.2 b = xx_o 8 [u0, u1, u2, u3, u4, u5, u6, u7, u8, u9, u10, u11, u12, u13, u14, .ref A.1, u16, u17] → xx_n8_own B A.1 → (∀ q, q ≠ b → q < A.1 → B.2 q = A.2 q) → xx_X G l mX8_init 5 14 123 209 [(0, .ref b)] [] B Q) : xx_X G l mX8_init 5 16 140 198 [(0, .ref b)] [] A Q := by
  refine xx_aload_n dX8_init_198 rfl ?_
  refine xx_new xx_c0 (fs := [.int 0, .int 0, .null]) dX8_init_199 wc_X8_78 wn_X0 wz_X0 df_X0 (xx_gp fun A1 z1 h1 o1 => ?_)
  have t1 : A1.1 = A.1 + 1 := by omega
  have h1 : A1.2 A.1 = xx_o 0 [.int 0, .int 0, .null] := h1
  have hb_1 := (o1 b (by omega)).trans hb
  refine xx_dup dX8_init_202 rfl ?_
  refine xx_callIN (N := mX0_init) (vs := []) (b := A.1) (rest := [.ref A.1, .ref b]) (d2 := 1) (c2 := 1) (s2 := 14) (c3 := 14) (s3 := 123) dX8_init_203 (host := RX8) rfl rfl rfl (by decide) wi_X0_init (by decide) nX0_init ⟨pX0_init, Nat.le_of_ble_eq_true rfl, by decide, Nat.le_of_ble_eq_true rfl, by omega, by omega⟩ (c_big0 h1 (by omega)) (fun v A2 hC => ?_) (fun E A2 hC => ?_)
  rotate_left
  · exact absurd hC.1 (by simp)
  obtain ⟨hv, y2, zb2, fr2⟩ := hC
  cases hv
  have t2 : A2.1 = A.1 + 2 := by omega
  have hb_2 := (fr2 b (by omega) (by omega)).trans hb_1
  refine xx_cst (st2 := [.ref A.1, .ref b]) rfl ?_
  obtain ⟨p2, pb2⟩ := zb2
  refine xx_putF xx_c8 dX8_init_206 wf_X8_85 (j := 15) (by decide) rfl rfl rfl rfl rfl hb_2 (Nat.le_of_ble_eq_true rfl) (xx_gu fun A3 z3 h3 o3 => ?_)
  have h3 : A3.2 b = xx_o 8 [u0, u1, u2, u3, u4, u5, u6, u7, u8, u9, u10, u11, u12, u13, u14, .ref A.1, u16, u17] := h3
  have p2_3 := (o3 A.1 (by omega)).trans p2
  have pb2_3 := (o3 (A.1 + 1) (by omega)).trans pb2
  have t3 : A3.1 = A.1 + 2 := by omega
  exact k _ (by omega) h3 ⟨p2_3, pb2_3⟩ (fun q hq1 hq2 => by rw [o3 q (by omega), fr2 q (by omega) (by omega), o1 q (by omega)])
def xx_n8_hand (B : xx_H) (a : Nat) : Prop := xx_fr0 B (a) (a + 1)
theorem xx_n8_hand.to {B C : xx_H} {a : Nat} (h : xx_n8_hand B a) (h1 : ∀ q, a ≤ q → q < a + 5 → C.2 q = B.2 q) : xx_n8_hand C a := by
  have g0 : xx_fr0 B (a) (a + 1) := h
  exact g0.to (h1 _ (by omega) (by omega)) (fun q h2 h3 => h1 q (by omega) (by omega))
set_option maxRecDepth 100000 in
theorem s8_hand {G : xx_G} {l : Launch} {A : xx_H} {b : Nat} {Q : Option Value ⊕ String → xx_H → Prop} {u0 u1 u2 u3 u4 u5 u6 u7 u8 u9 u10 u11 u12 u13 u14 u15 u16 u17 : Value} (hb : A.2 b = xx_o 8 [u0, u1, u2, u3, u4, u5, u6, u7, u8, u9, u10, u11, u12, u13, u14, u15, u16, u17]) (hlt : b < A.1) (k : ∀ B : xx_H, B.1 = A.1 + 5 → B.2 b = xx_o 8 [u0, u1, u2, u3, u4, u5, u6, u7, u8, u9, u10, u11, u12, u13, u14, u15, .ref A.1, u17] → xx_n8_hand B A.1 → (∀ q, q ≠ b → q < A.1 → B.2 q = A.2 q) → xx_X G l mX8_init 5 9 87 220 [(0, .ref b)] [] B Q) : xx_X G l mX8_init 5 14 123 209 [(0, .ref b)] [] A Q := by
  refine xx_aload_n dX8_init_209 rfl ?_
  refine xx_new xx_c2 (fs := [.null, .null]) dX8_init_210 wc_X8_88 wn_X2 wz_X2 df_X2 (xx_gp fun A1 z1 h1 o1 => ?_)
  have t1 : A1.1 = A.1 + 1 := by omega
  have h1 : A1.2 A.1 = xx_o 2 [.null, .null] := h1
  have hb_1 := (o1 b (by omega)).trans hb
  refine xx_dup dX8_init_213 rfl ?_
  refine xx_callI (N := mX2_init) (vs := []) (b := A.1) (rest := [.ref A.1, .ref b]) (d2 := 2) (c2 := 4) (s2 := 34) (c3 := 9) (s3 := 87) dX8_init_214 rfl rfl rfl wm_X8_90 wi_X2_init (by decide) nX2_init ⟨pX2_init, Nat.le_of_ble_eq_true rfl, by decide, Nat.le_of_ble_eq_true rfl, by omega, by omega⟩ (c_X2_init h1) (fun v A2 hC => ?_) (fun E A2 hC => ?_)
  rotate_left
  · exact absurd hC.1 (by simp)
  obtain ⟨hv, y2, cf2, fr2⟩ := hC
  cases hv
  rw [t1] at cf2
  have t2 : A2.1 = A.1 + 5 := by omega
  have hb_2 := (fr2 b (by omega) (by omega)).trans hb_1
  refine xx_cst (st2 := [.ref A.1, .ref b]) rfl ?_
  have pc2 := cf2.1
  refine xx_putF xx_c8 dX8_init_217 wf_X8_91 (j := 16) (by decide) rfl rfl rfl rfl rfl hb_2 (Nat.le_of_ble_eq_true rfl) (xx_gu fun A3 z3 h3 o3 => ?_)
  have h3 : A3.2 b = xx_o 8 [u0, u1, u2, u3, u4, u5, u6, u7, u8, u9, u10, u11, u12, u13, u14, u15, .ref A.1, u17] := h3
  have pc2_3 := (o3 A.1 (by omega)).trans pc2
  have t3 : A3.1 = A.1 + 5 := by omega
  exact k _ (by omega) h3 (cf2.to (by rw [o3 _ (by omega)]) (fun q hq1 hq2 => by rw [o3 q (by omega)])) (fun q hq1 hq2 => by rw [o3 q (by omega), fr2 q (by omega) (by omega), o1 q (by omega)])
def xx_n8_divider (B : xx_H) (a : Nat) : Prop := xx_div0 B (a) (a + 1)
theorem xx_n8_divider.to {B C : xx_H} {a : Nat} (h : xx_n8_divider B a) (h1 : ∀ q, a ≤ q → q < a + 9 → C.2 q = B.2 q) : xx_n8_divider C a := by
  have g0 : xx_div0 B (a) (a + 1) := h
  exact g0.to (h1 _ (by omega) (by omega)) (fun q h2 h3 => h1 q (by omega) (by omega))
set_option maxRecDepth 100000 in
theorem s8_divider {G : xx_G} {l : Launch} {A : xx_H} {b : Nat} {Q : Option Value ⊕ String → xx_H → Prop} {u0 u1 u2 u3 u4 u5 u6 u7 u8 u9 u10 u11 u12 u13 u14 u15 u16 u17 : Value} (hb : A.2 b = xx_o 8 [u0, u1, u2, u3, u4, u5, u6, u7, u8, u9, u10, u11, u12, u13, u14, u15, u16, u17]) (hlt : b < A.1) (k : ∀ B : xx_H, B.1 = A.1 + 9 → B.2 b = xx_o 8 [u0, u1, u2, u3, u4, u5, u6, u7, u8, u9, u10, u11, u12, u13, u14, u15, u16, .ref A.1] → xx_n8_divider B A.1 → (∀ q, q ≠ b → q < A.1 → B.2 q = A.2 q) → xx_X G l mX8_init 5 0 0 231 [(0, .ref b)] [] B Q) : xx_X G l mX8_init 5 9 87 220 [(0, .ref b)] [] A Q := by
  refine xx_aload_n dX8_init_220 rfl ?_
  refine xx_new xx_c1 (fs := [.null, .null, .null, .null, .null, .null]) dX8_init_221 wc_X8_95 wn_X1 wz_X1 df_X1 (xx_gp fun A1 z1 h1 o1 => ?_)
  have t1 : A1.1 = A.1 + 1 := by omega
  have h1 : A1.2 A.1 = xx_o 1 [.null, .null, .null, .null, .null, .null] := h1
  have hb_1 := (o1 b (by omega)).trans hb
  refine xx_dup dX8_init_224 rfl ?_
  refine xx_callIN (N := mX1_init) (vs := []) (b := A.1) (rest := [.ref A.1, .ref b]) (d2 := 2) (c2 := 8) (s2 := 81) (c3 := 0) (s3 := 0) dX8_init_225 (host := RX8) rfl rfl rfl (by decide) wi_X1_init (by decide) nX1_init ⟨pX1_init, Nat.le_of_ble_eq_true rfl, by decide, Nat.le_of_ble_eq_true rfl, by omega, by omega⟩ (c_X1_init h1) (fun v A2 hC => ?_) (fun E A2 hC => ?_)
  rotate_left
  · exact absurd hC.1 (by simp)
  obtain ⟨hv, y2, cf2, fr2⟩ := hC
  cases hv
  rw [t1] at cf2
  have t2 : A2.1 = A.1 + 9 := by omega
  have hb_2 := (fr2 b (by omega) (by omega)).trans hb_1
  refine xx_cst (st2 := [.ref A.1, .ref b]) rfl ?_
  have pc2 := cf2.1
  refine xx_putF xx_c8 dX8_init_228 wf_X8_98 (j := 17) (by decide) rfl rfl rfl rfl rfl hb_2 (Nat.le_of_ble_eq_true rfl) (xx_gu fun A3 z3 h3 o3 => ?_)
  have h3 : A3.2 b = xx_o 8 [u0, u1, u2, u3, u4, u5, u6, u7, u8, u9, u10, u11, u12, u13, u14, u15, u16, .ref A.1] := h3
  have pc2_3 := (o3 A.1 (by omega)).trans pc2
  have t3 : A3.1 = A.1 + 9 := by omega
  exact k _ (by omega) h3 (cf2.to (by rw [o3 _ (by omega)]) (fun q hq1 hq2 => by rw [o3 q (by omega)])) (fun q hq1 hq2 => by rw [o3 q (by omega), fr2 q (by omega) (by omega), o1 q (by omega)])
def xx_br0 (B : xx_H) (b a : Nat) : Prop :=
  B.2 b = xx_o 8 [.ref a, .ref (a + 1), .ref (a + 10), .ref (a + 17), .ref (a + 18), .ref (a + 225), .int 0, .int (-1), .null, .ref (a + 229), .int 0, .int 0, .ref (a + 232), .ref (a + 265), .ref (a + 278), .ref (a + 280), .ref (a + 282), .ref (a + 287)] ∧
  xx_n8_counts B a ∧
  xx_n8_payoffs B (a + 1) ∧
  xx_n8_told B (a + 10) ∧
  xx_n8_there B (a + 17) ∧
  xx_n8_tables B (a + 18) ∧
  xx_n8_path B (a + 225) ∧
  xx_n8_entries B (a + 229) ∧
  xx_n8_strategies B (a + 232) ∧
  xx_n8_values B (a + 265) ∧
  xx_n8_product B (a + 278) ∧
  xx_n8_own B (a + 280) ∧
  xx_n8_hand B (a + 282) ∧
  xx_n8_divider B (a + 287)
set_option maxRecDepth 100000 in
theorem c_X8_init {G : xx_G} {l : Launch} {A : xx_H} {b : Nat} (hb : A.2 b = xx_o 8 [.null, .null, .null, .null, .null, .null, .int 0, .int 0, .null, .null, .int 0, .int 0, .null, .null, .null, .null, .null, .null]) : xx_X G l mX8_init 5 296 3594 0 (lv_args 0 [.ref b]) [] A (fun r B => r = .inl none ∧ B.1 = A.1 + 296 ∧ xx_br0 B b A.1 ∧ ∀ q, q ≠ b → q < A.1 → B.2 q = A.2 q) := by
  refine xx_wf (fun wf => ?_)
  have hlt : b < A.1 := wf b (xx_k0 hb)
  refine xx_clv (lv2 := [(0, .ref b)]) rfl ?_
  refine xx_aload_n dX8_init_0 rfl ?_
  refine xx_obji dX8_init_1 wm_X8_1 wo_i wo_c (by decide) (Nat.le_of_ble_eq_true rfl) ?_
  refine s8_counts hb (by omega) (fun A1 z1 b1 n1 f1 => ?_)
  have t1 : A1.1 = A.1 + 1 := by omega
  refine s8_payoffs b1 (by omega) (fun A2 z2 b2 n2 f2 => ?_)
  have t2 : A2.1 = A.1 + 10 := by omega
  rw [t1] at b2 n2 f2
  refine s8_told b2 (by omega) (fun A3 z3 b3 n3 f3 => ?_)
  have t3 : A3.1 = A.1 + 17 := by omega
  rw [t2] at b3 n3 f3
  refine s8_there b3 (by omega) (fun A4 z4 b4 n4 f4 => ?_)
  have t4 : A4.1 = A.1 + 18 := by omega
  rw [t3] at b4 n4 f4
  refine s8_tables b4 (by omega) (fun A5 z5 b5 n5 f5 => ?_)
  have t5 : A5.1 = A.1 + 225 := by omega
  rw [t4] at b5 n5 f5
  refine s8_path b5 (by omega) (fun A6 z6 b6 n6 f6 => ?_)
  have t6 : A6.1 = A.1 + 229 := by omega
  rw [t5] at b6 n6 f6
  refine s8_plain b6 (by omega) (fun A7 z7 b7 f7 => ?_)
  have t7 : A7.1 = A.1 + 229 := by omega
  rw [t6] at f7
  refine s8_entries b7 (by omega) (fun A8 z8 b8 n8 f8 => ?_)
  have t8 : A8.1 = A.1 + 232 := by omega
  rw [t7] at b8 n8 f8
  refine s8_plain2 b8 (by omega) (fun A9 z9 b9 f9 => ?_)
  have t9 : A9.1 = A.1 + 232 := by omega
  rw [t8] at f9
  refine s8_strategies b9 (by omega) (fun A10 z10 b10 n10 f10 => ?_)
  have t10 : A10.1 = A.1 + 265 := by omega
  rw [t9] at b10 n10 f10
  refine s8_values b10 (by omega) (fun A11 z11 b11 n11 f11 => ?_)
  have t11 : A11.1 = A.1 + 278 := by omega
  rw [t10] at b11 n11 f11
  refine s8_product b11 (by omega) (fun A12 z12 b12 n12 f12 => ?_)
  have t12 : A12.1 = A.1 + 280 := by omega
  rw [t11] at b12 n12 f12
  refine s8_own b12 (by omega) (fun A13 z13 b13 n13 f13 => ?_)
  have t13 : A13.1 = A.1 + 282 := by omega
  rw [t12] at b13 n13 f13
  refine s8_hand b13 (by omega) (fun A14 z14 b14 n14 f14 => ?_)
  have t14 : A14.1 = A.1 + 287 := by omega
  rw [t13] at b14 n14 f14
  refine s8_divider b14 (by omega) (fun A15 z15 b15 n15 f15 => ?_)
  have t15 : A15.1 = A.1 + 296 := by omega
  rw [t14] at b15 n15 f15
  exact xx_vret dX8_init_231 rfl ⟨rfl, by omega, ⟨b15, n1.to (fun q h1 h2 => by rw [f15 q (by omega) (by omega), f14 q (by omega) (by omega), f13 q (by omega) (by omega), f12 q (by omega) (by omega), f11 q (by omega) (by omega), f10 q (by omega) (by omega), f9 q (by omega) (by omega), f8 q (by omega) (by omega), f7 q (by omega) (by omega), f6 q (by omega) (by omega), f5 q (by omega) (by omega), f4 q (by omega) (by omega), f3 q (by omega) (by omega), f2 q (by omega) (by omega)]), n2.to (fun q h1 h2 => by rw [f15 q (by omega) (by omega), f14 q (by omega) (by omega), f13 q (by omega) (by omega), f12 q (by omega) (by omega), f11 q (by omega) (by omega), f10 q (by omega) (by omega), f9 q (by omega) (by omega), f8 q (by omega) (by omega), f7 q (by omega) (by omega), f6 q (by omega) (by omega), f5 q (by omega) (by omega), f4 q (by omega) (by omega), f3 q (by omega) (by omega)]), n3.to (fun q h1 h2 => by rw [f15 q (by omega) (by omega), f14 q (by omega) (by omega), f13 q (by omega) (by omega), f12 q (by omega) (by omega), f11 q (by omega) (by omega), f10 q (by omega) (by omega), f9 q (by omega) (by omega), f8 q (by omega) (by omega), f7 q (by omega) (by omega), f6 q (by omega) (by omega), f5 q (by omega) (by omega), f4 q (by omega) (by omega)]), n4.to (fun q h1 h2 => by rw [f15 q (by omega) (by omega), f14 q (by omega) (by omega), f13 q (by omega) (by omega), f12 q (by omega) (by omega), f11 q (by omega) (by omega), f10 q (by omega) (by omega), f9 q (by omega) (by omega), f8 q (by omega) (by omega), f7 q (by omega) (by omega), f6 q (by omega) (by omega), f5 q (by omega) (by omega)]), n5.to (fun q h1 h2 => by rw [f15 q (by omega) (by omega), f14 q (by omega) (by omega), f13 q (by omega) (by omega), f12 q (by omega) (by omega), f11 q (by omega) (by omega), f10 q (by omega) (by omega), f9 q (by omega) (by omega), f8 q (by omega) (by omega), f7 q (by omega) (by omega), f6 q (by omega) (by omega)]), n6.to (fun q h1 h2 => by rw [f15 q (by omega) (by omega), f14 q (by omega) (by omega), f13 q (by omega) (by omega), f12 q (by omega) (by omega), f11 q (by omega) (by omega), f10 q (by omega) (by omega), f9 q (by omega) (by omega), f8 q (by omega) (by omega), f7 q (by omega) (by omega)]), n8.to (fun q h1 h2 => by rw [f15 q (by omega) (by omega), f14 q (by omega) (by omega), f13 q (by omega) (by omega), f12 q (by omega) (by omega), f11 q (by omega) (by omega), f10 q (by omega) (by omega), f9 q (by omega) (by omega)]), n10.to (fun q h1 h2 => by rw [f15 q (by omega) (by omega), f14 q (by omega) (by omega), f13 q (by omega) (by omega), f12 q (by omega) (by omega), f11 q (by omega) (by omega)]), n11.to (fun q h1 h2 => by rw [f15 q (by omega) (by omega), f14 q (by omega) (by omega), f13 q (by omega) (by omega), f12 q (by omega) (by omega)]), n12.to (fun q h1 h2 => by rw [f15 q (by omega) (by omega), f14 q (by omega) (by omega), f13 q (by omega) (by omega)]), n13.to (fun q h1 h2 => by rw [f15 q (by omega) (by omega), f14 q (by omega) (by omega)]), n14.to (fun q h1 h2 => by rw [f15 q (by omega) (by omega)]), n15⟩, fun q hq1 hq2 => by rw [f15 q (by omega) (by omega), f14 q (by omega) (by omega), f13 q (by omega) (by omega), f12 q (by omega) (by omega), f11 q (by omega) (by omega), f10 q (by omega) (by omega), f9 q (by omega) (by omega), f8 q (by omega) (by omega), f7 q (by omega) (by omega), f6 q (by omega) (by omega), f5 q (by omega) (by omega), f4 q (by omega) (by omega), f3 q (by omega) (by omega), f2 q (by omega) (by omega), f1 q (by omega) (by omega)]⟩
