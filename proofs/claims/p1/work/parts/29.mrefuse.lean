/-! ===== what the reference refuses on an object without a game ===== -/
def xx_inn (v lo hi : Int32) : Int32 := if v < lo then 0 else if hi < v then 0 else 1
/-- answered; one field's object has changed and nothing else -/
def xx_r1 (v : Option Value) (c : Nat) (fs : List Value) (A : xx_H) (r : Option Value ⊕ String) (B : xx_H) : Prop := r = .inl v ∧ B.1 = A.1 ∧ B.2 c = xx_o 9 fs ∧ ∀ q, q ≠ c → B.2 q = A.2 q
set_option maxRecDepth 100000 in
theorem c_X9_in {G : xx_G} {l : Launch} {A : xx_H} {v lo hi : Int32} : xx_X G l mX9_in 0 0 0 0 (lv_args 0 [.int v, .int lo, .int hi]) [] A (fun r B => r = .inl (some (.int (xx_inn v lo hi))) ∧ B = A) := by
  refine xx_clv (lv2 := [(0, .int v), (1, .int lo), (2, .int hi)]) rfl ?_
  refine xx_iload_n dX9_in_0 rfl ?_
  refine xx_iload_n dX9_in_1 rfl ?_
  refine xx_icmp_lt (tgt := 14) dX9_in_2 (by decide) (fun j2 => ?_) (fun j2 => ?_)
  · refine xx_iconst (v := 0) dX9_in_14 (by decide) ?_
    exact xx_zret dX9_in_15 rfl rfl ⟨by unfold xx_inn; rw [if_pos j2], rfl⟩
  · refine xx_iload_n dX9_in_5 rfl ?_
    refine xx_iload_n dX9_in_6 rfl ?_
    refine xx_icmp_gt (tgt := 14) dX9_in_7 (by decide) (fun j7 => ?_) (fun j7 => ?_)
    · refine xx_iconst (v := 0) dX9_in_14 (by decide) ?_
      exact xx_zret dX9_in_15 rfl rfl ⟨by unfold xx_inn; rw [if_neg j2, if_pos j7], rfl⟩
    · refine xx_iconst (v := 1) dX9_in_10 (by decide) ?_
      refine xx_goto (tgt := 15) dX9_in_11 (by decide) ?_
      exact xx_zret dX9_in_15 rfl rfl ⟨by unfold xx_inn; rw [if_neg j2, if_neg j7], rfl⟩
set_option maxRecDepth 100000 in
theorem r_X9_pay {G : xx_G} {l : Launch} {A : xx_H} {b : Nat} {u0 u1 u2 u3 u6 u7 u8 u9 u10 u11 u12 u13 u14 u15 u16 u17 u18 u19 u20 u21 u22 u23 u24 u25 u26 u27 u28 : Value} {p0 p1 p2 p3 p4 : Int32} (hb : A.2 b = xx_o 9 [u0, u1, u2, u3, .int 0, .int 0, u6, u7, u8, u9, u10, u11, u12, u13, u14, u15, u16, u17, u18, u19, u20, u21, u22, u23, u24, u25, u26, u27, u28]) : xx_X G l mX9_pay 1 0 0 0 (lv_args 0 [.ref b, .int p0, .int p1, .int p2, .int p3, .int p4]) [] A (xx_r1 (none) b [.int 1, u1, u2, u3, .int 0, .int 0, u6, u7, u8, u9, u10, u11, u12, u13, u14, u15, u16, u17, u18, u19, u20, u21, u22, u23, u24, u25, u26, u27, u28] A) := by
  refine xx_clv (lv2 := [(0, .ref b), (1, .int p0), (2, .int p1), (3, .int p2), (4, .int p3), (5, .int p4)]) rfl ?_
  refine xx_iload_n dX9_pay_0 rfl ?_
  refine xx_iconst (v := 0) dX9_pay_1 (by decide) ?_
  refine xx_iconst (v := 1) dX9_pay_2 (by decide) ?_
  refine xx_callS (N := mX9_in) (vs := [.int p0, .int 0, .int 1]) (rest := []) (d2 := 0) (c2 := 0) (s2 := 0) (c3 := 0) (s3 := 0) dX9_pay_3 wm_X9_116 ws_X9_in wz_X9 (by decide) nX9_in ⟨pX9_in, Nat.le_of_ble_eq_true rfl, by decide, Nat.le_of_ble_eq_true rfl, by decide, by decide⟩ c_X9_in (fun v B hC => ?_) (fun E B hC => absurd hC.1 (by simp))
  obtain ⟨hv, rfl⟩ := hC
  cases hv
  refine xx_cst (st2 := [.int (xx_inn p0 0 1)]) rfl ?_
  refine xx_if_eq (tgt := 66) dX9_pay_6 (by decide) (fun j6 => ?_) (fun j6 => ?_)
  · refine xx_iconst (v := 0) dX9_pay_66 (by decide) ?_
    refine xx_istore dX9_pay_67 (by decide) ?_
    refine xx_clv (lv2 := [(0, .ref b), (1, .int p0), (2, .int p1), (3, .int p2), (4, .int p3), (5, .int p4), (6, .int 0)]) rfl ?_
    refine xx_aload_n dX9_pay_69 rfl ?_
    refine xx_aload_n dX9_pay_70 rfl ?_
    refine xx_get xx_c9 dX9_pay_71 wf_X9_120 (j := 4) (by decide) hb rfl ?_
    refine xx_if_ne (tgt := 81) dX9_pay_74 (by decide) (fun h => absurd rfl h) (fun j74 => ?_)
    refine xx_iconst (v := 1) dX9_pay_77 (by decide) ?_
    refine xx_goto (tgt := 91) dX9_pay_78 (by decide) ?_
    refine xx_put xx_c9 dX9_pay_91 wf_X9_84 (j := 0) (by decide) rfl rfl rfl hb (Nat.le_of_ble_eq_true rfl) (xx_gu fun A2 z2 h2 o2 => ?_)
    have h2 : A2.2 b = xx_o 9 [.int 1, u1, u2, u3, .int 0, .int 0, u6, u7, u8, u9, u10, u11, u12, u13, u14, u15, u16, u17, u18, u19, u20, u21, u22, u23, u24, u25, u26, u27, u28] := h2
    refine xx_aload_n dX9_pay_94 rfl ?_
    refine xx_get xx_c9 dX9_pay_95 wf_X9_84 (j := 0) (by decide) h2 rfl ?_
    refine xx_if_le (tgt := 102) dX9_pay_98 (by decide) (fun h => absurd h (by decide)) (fun j98 => ?_)
    exact xx_vret dX9_pay_101 rfl ⟨rfl, by rw [z2], h2, fun q hq => by rw [o2 q hq]⟩
  · refine xx_iload_n dX9_pay_9 rfl ?_
    refine xx_iconst (v := 0) dX9_pay_10 (by decide) ?_
    refine xx_aload_n dX9_pay_11 rfl ?_
    refine xx_get xx_c9 dX9_pay_12 wf_X9_120 (j := 4) (by decide) hb rfl ?_
    refine xx_iconst (v := 1) dX9_pay_15 (by decide) ?_
    refine xx_isub dX9_pay_16 ?_
    refine xx_eqi (y := (-1)) (by decide) ?_
    refine xx_callS (N := mX9_in) (vs := [.int p1, .int 0, .int ((-1))]) (rest := []) (d2 := 0) (c2 := 0) (s2 := 0) (c3 := 0) (s3 := 0) dX9_pay_17 wm_X9_116 ws_X9_in wz_X9 (by decide) nX9_in ⟨pX9_in, Nat.le_of_ble_eq_true rfl, by decide, Nat.le_of_ble_eq_true rfl, by decide, by decide⟩ c_X9_in (fun v B hC => ?_) (fun E B hC => absurd hC.1 (by simp))
    obtain ⟨hv, rfl⟩ := hC
    cases hv
    refine xx_cst (st2 := [.int (xx_inn p1 0 ((-1)))]) rfl ?_
    refine xx_if_eq (tgt := 66) dX9_pay_20 (by decide) (fun j20 => ?_) (fun j20 => ?_)
    · refine xx_iconst (v := 0) dX9_pay_66 (by decide) ?_
      refine xx_istore dX9_pay_67 (by decide) ?_
      refine xx_clv (lv2 := [(0, .ref b), (1, .int p0), (2, .int p1), (3, .int p2), (4, .int p3), (5, .int p4), (6, .int 0)]) rfl ?_
      refine xx_aload_n dX9_pay_69 rfl ?_
      refine xx_aload_n dX9_pay_70 rfl ?_
      refine xx_get xx_c9 dX9_pay_71 wf_X9_120 (j := 4) (by decide) hb rfl ?_
      refine xx_if_ne (tgt := 81) dX9_pay_74 (by decide) (fun h => absurd rfl h) (fun j74 => ?_)
      refine xx_iconst (v := 1) dX9_pay_77 (by decide) ?_
      refine xx_goto (tgt := 91) dX9_pay_78 (by decide) ?_
      refine xx_put xx_c9 dX9_pay_91 wf_X9_84 (j := 0) (by decide) rfl rfl rfl hb (Nat.le_of_ble_eq_true rfl) (xx_gu fun A3 z3 h3 o3 => ?_)
      have h3 : A3.2 b = xx_o 9 [.int 1, u1, u2, u3, .int 0, .int 0, u6, u7, u8, u9, u10, u11, u12, u13, u14, u15, u16, u17, u18, u19, u20, u21, u22, u23, u24, u25, u26, u27, u28] := h3
      refine xx_aload_n dX9_pay_94 rfl ?_
      refine xx_get xx_c9 dX9_pay_95 wf_X9_84 (j := 0) (by decide) h3 rfl ?_
      refine xx_if_le (tgt := 102) dX9_pay_98 (by decide) (fun h => absurd h (by decide)) (fun j98 => ?_)
      exact xx_vret dX9_pay_101 rfl ⟨rfl, by rw [z3], h3, fun q hq => by rw [o3 q hq]⟩
    · refine xx_iload_n dX9_pay_23 rfl ?_
      refine xx_iconst (v := 0) dX9_pay_24 (by decide) ?_
      refine xx_aload_n dX9_pay_25 rfl ?_
      refine xx_get xx_c9 dX9_pay_26 wf_X9_123 (j := 5) (by decide) hb rfl ?_
      refine xx_iconst (v := 1) dX9_pay_29 (by decide) ?_
      refine xx_isub dX9_pay_30 ?_
      refine xx_eqi (y := (-1)) (by decide) ?_
      refine xx_callS (N := mX9_in) (vs := [.int p2, .int 0, .int ((-1))]) (rest := []) (d2 := 0) (c2 := 0) (s2 := 0) (c3 := 0) (s3 := 0) dX9_pay_31 wm_X9_116 ws_X9_in wz_X9 (by decide) nX9_in ⟨pX9_in, Nat.le_of_ble_eq_true rfl, by decide, Nat.le_of_ble_eq_true rfl, by decide, by decide⟩ c_X9_in (fun v B hC => ?_) (fun E B hC => absurd hC.1 (by simp))
      obtain ⟨hv, rfl⟩ := hC
      cases hv
      refine xx_cst (st2 := [.int (xx_inn p2 0 ((-1)))]) rfl ?_
      refine xx_if_eq (tgt := 66) dX9_pay_34 (by decide) (fun j34 => ?_) (fun j34 => ?_)
      · refine xx_iconst (v := 0) dX9_pay_66 (by decide) ?_
        refine xx_istore dX9_pay_67 (by decide) ?_
        refine xx_clv (lv2 := [(0, .ref b), (1, .int p0), (2, .int p1), (3, .int p2), (4, .int p3), (5, .int p4), (6, .int 0)]) rfl ?_
        refine xx_aload_n dX9_pay_69 rfl ?_
        refine xx_aload_n dX9_pay_70 rfl ?_
        refine xx_get xx_c9 dX9_pay_71 wf_X9_120 (j := 4) (by decide) hb rfl ?_
        refine xx_if_ne (tgt := 81) dX9_pay_74 (by decide) (fun h => absurd rfl h) (fun j74 => ?_)
        refine xx_iconst (v := 1) dX9_pay_77 (by decide) ?_
        refine xx_goto (tgt := 91) dX9_pay_78 (by decide) ?_
        refine xx_put xx_c9 dX9_pay_91 wf_X9_84 (j := 0) (by decide) rfl rfl rfl hb (Nat.le_of_ble_eq_true rfl) (xx_gu fun A4 z4 h4 o4 => ?_)
        have h4 : A4.2 b = xx_o 9 [.int 1, u1, u2, u3, .int 0, .int 0, u6, u7, u8, u9, u10, u11, u12, u13, u14, u15, u16, u17, u18, u19, u20, u21, u22, u23, u24, u25, u26, u27, u28] := h4
        refine xx_aload_n dX9_pay_94 rfl ?_
        refine xx_get xx_c9 dX9_pay_95 wf_X9_84 (j := 0) (by decide) h4 rfl ?_
        refine xx_if_le (tgt := 102) dX9_pay_98 (by decide) (fun h => absurd h (by decide)) (fun j98 => ?_)
        exact xx_vret dX9_pay_101 rfl ⟨rfl, by rw [z4], h4, fun q hq => by rw [o4 q hq]⟩
      · refine xx_iload dX9_pay_37 rfl ?_
        refine xx_sipush (v := (-9999)) dX9_pay_39 (by decide) ?_
        refine xx_sipush (v := 9999) dX9_pay_42 (by decide) ?_
        refine xx_callS (N := mX9_in) (vs := [.int p3, .int ((-9999)), .int 9999]) (rest := []) (d2 := 0) (c2 := 0) (s2 := 0) (c3 := 0) (s3 := 0) dX9_pay_45 wm_X9_116 ws_X9_in wz_X9 (by decide) nX9_in ⟨pX9_in, Nat.le_of_ble_eq_true rfl, by decide, Nat.le_of_ble_eq_true rfl, by decide, by decide⟩ c_X9_in (fun v B hC => ?_) (fun E B hC => absurd hC.1 (by simp))
        obtain ⟨hv, rfl⟩ := hC
        cases hv
        refine xx_cst (st2 := [.int (xx_inn p3 ((-9999)) 9999)]) rfl ?_
        refine xx_if_eq (tgt := 66) dX9_pay_48 (by decide) (fun j48 => ?_) (fun j48 => ?_)
        · refine xx_iconst (v := 0) dX9_pay_66 (by decide) ?_
          refine xx_istore dX9_pay_67 (by decide) ?_
          refine xx_clv (lv2 := [(0, .ref b), (1, .int p0), (2, .int p1), (3, .int p2), (4, .int p3), (5, .int p4), (6, .int 0)]) rfl ?_
          refine xx_aload_n dX9_pay_69 rfl ?_
          refine xx_aload_n dX9_pay_70 rfl ?_
          refine xx_get xx_c9 dX9_pay_71 wf_X9_120 (j := 4) (by decide) hb rfl ?_
          refine xx_if_ne (tgt := 81) dX9_pay_74 (by decide) (fun h => absurd rfl h) (fun j74 => ?_)
          refine xx_iconst (v := 1) dX9_pay_77 (by decide) ?_
          refine xx_goto (tgt := 91) dX9_pay_78 (by decide) ?_
          refine xx_put xx_c9 dX9_pay_91 wf_X9_84 (j := 0) (by decide) rfl rfl rfl hb (Nat.le_of_ble_eq_true rfl) (xx_gu fun A5 z5 h5 o5 => ?_)
          have h5 : A5.2 b = xx_o 9 [.int 1, u1, u2, u3, .int 0, .int 0, u6, u7, u8, u9, u10, u11, u12, u13, u14, u15, u16, u17, u18, u19, u20, u21, u22, u23, u24, u25, u26, u27, u28] := h5
          refine xx_aload_n dX9_pay_94 rfl ?_
          refine xx_get xx_c9 dX9_pay_95 wf_X9_84 (j := 0) (by decide) h5 rfl ?_
          refine xx_if_le (tgt := 102) dX9_pay_98 (by decide) (fun h => absurd h (by decide)) (fun j98 => ?_)
          exact xx_vret dX9_pay_101 rfl ⟨rfl, by rw [z5], h5, fun q hq => by rw [o5 q hq]⟩
        · refine xx_iload dX9_pay_51 rfl ?_
          refine xx_iconst (v := 1) dX9_pay_53 (by decide) ?_
          refine xx_bipush (v := 12) dX9_pay_54 (by decide) ?_
          refine xx_callS (N := mX9_in) (vs := [.int p4, .int 1, .int 12]) (rest := []) (d2 := 0) (c2 := 0) (s2 := 0) (c3 := 0) (s3 := 0) dX9_pay_56 wm_X9_116 ws_X9_in wz_X9 (by decide) nX9_in ⟨pX9_in, Nat.le_of_ble_eq_true rfl, by decide, Nat.le_of_ble_eq_true rfl, by decide, by decide⟩ c_X9_in (fun v B hC => ?_) (fun E B hC => absurd hC.1 (by simp))
          obtain ⟨hv, rfl⟩ := hC
          cases hv
          refine xx_cst (st2 := [.int (xx_inn p4 1 12)]) rfl ?_
          refine xx_if_eq (tgt := 66) dX9_pay_59 (by decide) (fun j59 => ?_) (fun j59 => ?_)
          · refine xx_iconst (v := 0) dX9_pay_66 (by decide) ?_
            refine xx_istore dX9_pay_67 (by decide) ?_
            refine xx_clv (lv2 := [(0, .ref b), (1, .int p0), (2, .int p1), (3, .int p2), (4, .int p3), (5, .int p4), (6, .int 0)]) rfl ?_
            refine xx_aload_n dX9_pay_69 rfl ?_
            refine xx_aload_n dX9_pay_70 rfl ?_
            refine xx_get xx_c9 dX9_pay_71 wf_X9_120 (j := 4) (by decide) hb rfl ?_
            refine xx_if_ne (tgt := 81) dX9_pay_74 (by decide) (fun h => absurd rfl h) (fun j74 => ?_)
            refine xx_iconst (v := 1) dX9_pay_77 (by decide) ?_
            refine xx_goto (tgt := 91) dX9_pay_78 (by decide) ?_
            refine xx_put xx_c9 dX9_pay_91 wf_X9_84 (j := 0) (by decide) rfl rfl rfl hb (Nat.le_of_ble_eq_true rfl) (xx_gu fun A6 z6 h6 o6 => ?_)
            have h6 : A6.2 b = xx_o 9 [.int 1, u1, u2, u3, .int 0, .int 0, u6, u7, u8, u9, u10, u11, u12, u13, u14, u15, u16, u17, u18, u19, u20, u21, u22, u23, u24, u25, u26, u27, u28] := h6
            refine xx_aload_n dX9_pay_94 rfl ?_
            refine xx_get xx_c9 dX9_pay_95 wf_X9_84 (j := 0) (by decide) h6 rfl ?_
            refine xx_if_le (tgt := 102) dX9_pay_98 (by decide) (fun h => absurd h (by decide)) (fun j98 => ?_)
            exact xx_vret dX9_pay_101 rfl ⟨rfl, by rw [z6], h6, fun q hq => by rw [o6 q hq]⟩
          · refine xx_iconst (v := 1) dX9_pay_62 (by decide) ?_
            refine xx_goto (tgt := 67) dX9_pay_63 (by decide) ?_
            refine xx_istore dX9_pay_67 (by decide) ?_
            refine xx_clv (lv2 := [(0, .ref b), (1, .int p0), (2, .int p1), (3, .int p2), (4, .int p3), (5, .int p4), (6, .int 1)]) rfl ?_
            refine xx_aload_n dX9_pay_69 rfl ?_
            refine xx_aload_n dX9_pay_70 rfl ?_
            refine xx_get xx_c9 dX9_pay_71 wf_X9_120 (j := 4) (by decide) hb rfl ?_
            refine xx_if_ne (tgt := 81) dX9_pay_74 (by decide) (fun h => absurd rfl h) (fun j74 => ?_)
            refine xx_iconst (v := 1) dX9_pay_77 (by decide) ?_
            refine xx_goto (tgt := 91) dX9_pay_78 (by decide) ?_
            refine xx_put xx_c9 dX9_pay_91 wf_X9_84 (j := 0) (by decide) rfl rfl rfl hb (Nat.le_of_ble_eq_true rfl) (xx_gu fun A6 z6 h6 o6 => ?_)
            have h6 : A6.2 b = xx_o 9 [.int 1, u1, u2, u3, .int 0, .int 0, u6, u7, u8, u9, u10, u11, u12, u13, u14, u15, u16, u17, u18, u19, u20, u21, u22, u23, u24, u25, u26, u27, u28] := h6
            refine xx_aload_n dX9_pay_94 rfl ?_
            refine xx_get xx_c9 dX9_pay_95 wf_X9_84 (j := 0) (by decide) h6 rfl ?_
            refine xx_if_le (tgt := 102) dX9_pay_98 (by decide) (fun h => absurd h (by decide)) (fun j98 => ?_)
            exact xx_vret dX9_pay_101 rfl ⟨rfl, by rw [z6], h6, fun q hq => by rw [o6 q hq]⟩
set_option maxRecDepth 100000 in
theorem r_X9_run {G : xx_G} {l : Launch} {A : xx_H} {b : Nat} {u0 u1 u2 u3 u6 u7 u8 u9 u10 u11 u12 u13 u14 u15 u16 u17 u18 u19 u20 u21 u22 u23 u24 u25 u26 u27 u28 : Value} {p0 : Int32} (hb : A.2 b = xx_o 9 [u0, u1, u2, u3, .int 0, .int 0, u6, u7, u8, u9, u10, u11, u12, u13, u14, u15, u16, u17, u18, u19, u20, u21, u22, u23, u24, u25, u26, u27, u28]) : xx_X G l mX9_run 1 0 0 0 (lv_args 0 [.ref b, .int p0]) [] A (xx_r1 (some (.int 0)) b [.int 1, u1, u2, u3, .int 0, .int 0, u6, u7, u8, u9, u10, u11, u12, u13, u14, u15, u16, u17, u18, u19, u20, u21, u22, u23, u24, u25, u26, u27, u28] A) := by
  refine xx_clv (lv2 := [(0, .ref b), (1, .int p0)]) rfl ?_
  refine xx_aload_n dX9_run_0 rfl ?_
  refine xx_aload_n dX9_run_1 rfl ?_
  refine xx_get xx_c9 dX9_run_2 wf_X9_120 (j := 4) (by decide) hb rfl ?_
  refine xx_if_ne (tgt := 12) dX9_run_5 (by decide) (fun h => absurd rfl h) (fun j5 => ?_)
  refine xx_iconst (v := 1) dX9_run_8 (by decide) ?_
  refine xx_goto (tgt := 36) dX9_run_9 (by decide) ?_
  refine xx_put xx_c9 dX9_run_36 wf_X9_84 (j := 0) (by decide) rfl rfl rfl hb (Nat.le_of_ble_eq_true rfl) (xx_gu fun A1 z1 h1 o1 => ?_)
  have h1 : A1.2 b = xx_o 9 [.int 1, u1, u2, u3, .int 0, .int 0, u6, u7, u8, u9, u10, u11, u12, u13, u14, u15, u16, u17, u18, u19, u20, u21, u22, u23, u24, u25, u26, u27, u28] := h1
  refine xx_aload_n dX9_run_39 rfl ?_
  refine xx_get xx_c9 dX9_run_40 wf_X9_84 (j := 0) (by decide) h1 rfl ?_
  refine xx_if_le (tgt := 48) dX9_run_43 (by decide) (fun h => absurd h (by decide)) (fun j43 => ?_)
  refine xx_iconst (v := 0) dX9_run_46 (by decide) ?_
  exact xx_iret dX9_run_47 rfl ⟨rfl, by rw [z1], h1, fun q hq => by rw [o1 q hq]⟩
set_option maxRecDepth 100000 in
theorem r_X9_weight {G : xx_G} {l : Launch} {A : xx_H} {b : Nat} {u0 u1 u2 u3 u6 u7 u8 u9 u10 u11 u12 u13 u14 u15 u16 u17 u18 u19 u20 u21 u22 u23 u24 u25 u26 u27 u28 : Value} {p0 p1 p2 p3 : Int32} (hb : A.2 b = xx_o 9 [u0, u1, u2, u3, .int 0, .int 0, u6, u7, u8, u9, u10, u11, u12, u13, u14, u15, u16, u17, u18, u19, u20, u21, u22, u23, u24, u25, u26, u27, u28]) : xx_X G l mX9_weight 1 0 0 0 (lv_args 0 [.ref b, .int p0, .int p1, .int p2, .int p3]) [] A (xx_r1 (none) b [.int 1, u1, u2, u3, .int 0, .int 0, u6, u7, u8, u9, u10, u11, u12, u13, u14, u15, u16, u17, u18, u19, u20, u21, u22, u23, u24, u25, u26, u27, u28] A) := by
  refine xx_clv (lv2 := [(0, .ref b), (1, .int p0), (2, .int p1), (3, .int p2), (4, .int p3)]) rfl ?_
  refine xx_aload_n dX9_weight_0 rfl ?_
  refine xx_aload_n dX9_weight_1 rfl ?_
  refine xx_get xx_c9 dX9_weight_2 wf_X9_120 (j := 4) (by decide) hb rfl ?_
  refine xx_if_ne (tgt := 12) dX9_weight_5 (by decide) (fun h => absurd rfl h) (fun j5 => ?_)
  refine xx_iconst (v := 1) dX9_weight_8 (by decide) ?_
  refine xx_goto (tgt := 49) dX9_weight_9 (by decide) ?_
  refine xx_put xx_c9 dX9_weight_49 wf_X9_84 (j := 0) (by decide) rfl rfl rfl hb (Nat.le_of_ble_eq_true rfl) (xx_gu fun A1 z1 h1 o1 => ?_)
  have h1 : A1.2 b = xx_o 9 [.int 1, u1, u2, u3, .int 0, .int 0, u6, u7, u8, u9, u10, u11, u12, u13, u14, u15, u16, u17, u18, u19, u20, u21, u22, u23, u24, u25, u26, u27, u28] := h1
  refine xx_aload_n dX9_weight_52 rfl ?_
  refine xx_get xx_c9 dX9_weight_53 wf_X9_84 (j := 0) (by decide) h1 rfl ?_
  refine xx_if_ne (tgt := 84) dX9_weight_56 (by decide) (fun j56 => ?_) (fun h => absurd h (by decide))
  exact xx_vret dX9_weight_84 rfl ⟨rfl, by rw [z1], h1, fun q hq => by rw [o1 q hq]⟩
set_option maxRecDepth 100000 in
theorem r_X9_list {G : xx_G} {l : Launch} {A : xx_H} {b : Nat} {u0 u1 u2 u3 u6 u7 u8 u9 u10 u11 u12 u13 u14 u15 u16 u17 u18 u19 u20 u21 u22 u23 u24 u25 u26 u27 u28 : Value} (hb : A.2 b = xx_o 9 [u0, u1, u2, u3, .int 0, .int 0, u6, u7, u8, u9, u10, u11, u12, u13, u14, u15, u16, u17, u18, u19, u20, u21, u22, u23, u24, u25, u26, u27, u28]) : xx_X G l mX9_list 1 0 0 0 (lv_args 0 [.ref b]) [] A (xx_r1 (some (.int 0)) b [.int 1, u1, u2, u3, .int 0, .int 0, u6, u7, u8, u9, u10, u11, u12, u13, u14, u15, u16, u17, u18, u19, u20, u21, u22, u23, u24, u25, u26, u27, u28] A) := by
  refine xx_clv (lv2 := [(0, .ref b)]) rfl ?_
  refine xx_aload_n dX9_list_0 rfl ?_
  refine xx_aload_n dX9_list_1 rfl ?_
  refine xx_get xx_c9 dX9_list_2 wf_X9_120 (j := 4) (by decide) hb rfl ?_
  refine xx_if_ne (tgt := 12) dX9_list_5 (by decide) (fun h => absurd rfl h) (fun j5 => ?_)
  refine xx_iconst (v := 1) dX9_list_8 (by decide) ?_
  refine xx_goto (tgt := 13) dX9_list_9 (by decide) ?_
  refine xx_put xx_c9 dX9_list_13 wf_X9_84 (j := 0) (by decide) rfl rfl rfl hb (Nat.le_of_ble_eq_true rfl) (xx_gu fun A1 z1 h1 o1 => ?_)
  have h1 : A1.2 b = xx_o 9 [.int 1, u1, u2, u3, .int 0, .int 0, u6, u7, u8, u9, u10, u11, u12, u13, u14, u15, u16, u17, u18, u19, u20, u21, u22, u23, u24, u25, u26, u27, u28] := h1
  refine xx_aload_n dX9_list_16 rfl ?_
  refine xx_get xx_c9 dX9_list_17 wf_X9_84 (j := 0) (by decide) h1 rfl ?_
  refine xx_if_le (tgt := 25) dX9_list_20 (by decide) (fun h => absurd h (by decide)) (fun j20 => ?_)
  refine xx_iconst (v := 0) dX9_list_23 (by decide) ?_
  exact xx_iret dX9_list_24 rfl ⟨rfl, by rw [z1], h1, fun q hq => by rw [o1 q hq]⟩
set_option maxRecDepth 100000 in
theorem r_X9_round {G : xx_G} {l : Launch} {A : xx_H} {b : Nat} {u0 u1 u2 u3 u6 u7 u8 u9 u10 u11 u12 u13 u14 u15 u16 u17 u18 u19 u20 u21 u22 u23 u24 u25 u26 u27 u28 : Value} (hb : A.2 b = xx_o 9 [u0, u1, u2, u3, .int 0, .int 0, u6, u7, u8, u9, u10, u11, u12, u13, u14, u15, u16, u17, u18, u19, u20, u21, u22, u23, u24, u25, u26, u27, u28]) : xx_X G l mX9_round 1 0 0 0 (lv_args 0 [.ref b]) [] A (xx_r1 (some (.int 0)) b [.int 1, u1, u2, u3, .int 0, .int 0, u6, u7, u8, u9, u10, u11, u12, u13, u14, u15, u16, u17, u18, u19, u20, u21, u22, u23, u24, u25, u26, u27, u28] A) := by
  refine xx_clv (lv2 := [(0, .ref b)]) rfl ?_
  refine xx_aload_n dX9_round_0 rfl ?_
  refine xx_aload_n dX9_round_1 rfl ?_
  refine xx_get xx_c9 dX9_round_2 wf_X9_120 (j := 4) (by decide) hb rfl ?_
  refine xx_if_ne (tgt := 12) dX9_round_5 (by decide) (fun h => absurd rfl h) (fun j5 => ?_)
  refine xx_iconst (v := 1) dX9_round_8 (by decide) ?_
  refine xx_goto (tgt := 13) dX9_round_9 (by decide) ?_
  refine xx_put xx_c9 dX9_round_13 wf_X9_84 (j := 0) (by decide) rfl rfl rfl hb (Nat.le_of_ble_eq_true rfl) (xx_gu fun A1 z1 h1 o1 => ?_)
  have h1 : A1.2 b = xx_o 9 [.int 1, u1, u2, u3, .int 0, .int 0, u6, u7, u8, u9, u10, u11, u12, u13, u14, u15, u16, u17, u18, u19, u20, u21, u22, u23, u24, u25, u26, u27, u28] := h1
  refine xx_aload_n dX9_round_16 rfl ?_
  refine xx_get xx_c9 dX9_round_17 wf_X9_84 (j := 0) (by decide) h1 rfl ?_
  refine xx_if_le (tgt := 25) dX9_round_20 (by decide) (fun h => absurd h (by decide)) (fun j20 => ?_)
  refine xx_iconst (v := 0) dX9_round_23 (by decide) ?_
  exact xx_iret dX9_round_24 rfl ⟨rfl, by rw [z1], h1, fun q hq => by rw [o1 q hq]⟩
set_option maxRecDepth 100000 in
theorem r_X9_isThere {G : xx_G} {l : Launch} {A : xx_H} {b : Nat} {u0 u1 u2 u3 u6 u7 u8 u9 u10 u11 u12 u13 u14 u15 u16 u17 u18 u19 u20 u21 u22 u23 u24 u25 u26 u27 u28 : Value} {p0 p1 : Int32} (hb : A.2 b = xx_o 9 [u0, u1, u2, u3, .int 0, .int 0, u6, u7, u8, u9, u10, u11, u12, u13, u14, u15, u16, u17, u18, u19, u20, u21, u22, u23, u24, u25, u26, u27, u28]) : xx_X G l mX9_isThere 1 0 0 0 (lv_args 0 [.ref b, .int p0, .int p1]) [] A (xx_r1 (some (.int 0)) b [.int 1, u1, u2, u3, .int 0, .int 0, u6, u7, u8, u9, u10, u11, u12, u13, u14, u15, u16, u17, u18, u19, u20, u21, u22, u23, u24, u25, u26, u27, u28] A) := by
  refine xx_clv (lv2 := [(0, .ref b), (1, .int p0), (2, .int p1)]) rfl ?_
  refine xx_aload_n dX9_isThere_0 rfl ?_
  refine xx_aload_n dX9_isThere_1 rfl ?_
  refine xx_get xx_c9 dX9_isThere_2 wf_X9_120 (j := 4) (by decide) hb rfl ?_
  refine xx_if_ne (tgt := 12) dX9_isThere_5 (by decide) (fun h => absurd rfl h) (fun j5 => ?_)
  refine xx_iconst (v := 1) dX9_isThere_8 (by decide) ?_
  refine xx_goto (tgt := 26) dX9_isThere_9 (by decide) ?_
  refine xx_put xx_c9 dX9_isThere_26 wf_X9_84 (j := 0) (by decide) rfl rfl rfl hb (Nat.le_of_ble_eq_true rfl) (xx_gu fun A1 z1 h1 o1 => ?_)
  have h1 : A1.2 b = xx_o 9 [.int 1, u1, u2, u3, .int 0, .int 0, u6, u7, u8, u9, u10, u11, u12, u13, u14, u15, u16, u17, u18, u19, u20, u21, u22, u23, u24, u25, u26, u27, u28] := h1
  refine xx_aload_n dX9_isThere_29 rfl ?_
  refine xx_get xx_c9 dX9_isThere_30 wf_X9_84 (j := 0) (by decide) h1 rfl ?_
  refine xx_if_ne (tgt := 54) dX9_isThere_33 (by decide) (fun j33 => ?_) (fun h => absurd h (by decide))
  refine xx_iconst (v := 0) dX9_isThere_54 (by decide) ?_
  exact xx_zret dX9_isThere_55 rfl rfl ⟨rfl, by rw [z1], h1, fun q hq => by rw [o1 q hq]⟩
set_option maxRecDepth 100000 in
theorem r_X9_step {G : xx_G} {l : Launch} {A : xx_H} {b : Nat} {u0 u1 u2 u3 u4 u5 u6 u7 u8 u9 u11 u12 u13 u14 u15 u16 u17 u18 u19 u20 u21 u22 u23 u24 u25 u26 u27 u28 : Value} {p0 p1 : Int32} (hb : A.2 b = xx_o 9 [u0, u1, u2, u3, u4, u5, u6, u7, u8, u9, .int (-1), u11, u12, u13, u14, u15, u16, u17, u18, u19, u20, u21, u22, u23, u24, u25, u26, u27, u28]) : xx_X G l mX9_step 1 0 0 0 (lv_args 0 [.ref b, .int p0, .int p1]) [] A (xx_r1 (some (.int 0)) b [.int 1, u1, u2, u3, u4, u5, u6, u7, u8, u9, .int (-1), u11, u12, u13, u14, u15, u16, u17, u18, u19, u20, u21, u22, u23, u24, u25, u26, u27, u28] A) := by
  refine xx_clv (lv2 := [(0, .ref b), (1, .int p0), (2, .int p1)]) rfl ?_
  refine xx_aload_n dX9_step_0 rfl ?_
  refine xx_aload_n dX9_step_1 rfl ?_
  refine xx_get xx_c9 dX9_step_2 wf_X9_32 (j := 10) (by decide) hb rfl ?_
  refine xx_if_ge (tgt := 12) dX9_step_5 (by decide) (fun h => absurd h (by decide)) (fun j5 => ?_)
  refine xx_iconst (v := 1) dX9_step_8 (by decide) ?_
  refine xx_goto (tgt := 44) dX9_step_9 (by decide) ?_
  refine xx_put xx_c9 dX9_step_44 wf_X9_84 (j := 0) (by decide) rfl rfl rfl hb (Nat.le_of_ble_eq_true rfl) (xx_gu fun A1 z1 h1 o1 => ?_)
  have h1 : A1.2 b = xx_o 9 [.int 1, u1, u2, u3, u4, u5, u6, u7, u8, u9, .int (-1), u11, u12, u13, u14, u15, u16, u17, u18, u19, u20, u21, u22, u23, u24, u25, u26, u27, u28] := h1
  refine xx_aload_n dX9_step_47 rfl ?_
  refine xx_get xx_c9 dX9_step_48 wf_X9_84 (j := 0) (by decide) h1 rfl ?_
  refine xx_if_le (tgt := 58) dX9_step_51 (by decide) (fun h => absurd h (by decide)) (fun j51 => ?_)
  refine xx_iconst (v := 0) dX9_step_54 (by decide) ?_
  refine xx_goto (tgt := 91) dX9_step_55 (by decide) ?_
  exact xx_iret dX9_step_91 rfl ⟨rfl, by rw [z1], h1, fun q hq => by rw [o1 q hq]⟩
set_option maxRecDepth 100000 in
theorem r_X9_index {G : xx_G} {l : Launch} {A : xx_H} {b : Nat} {u0 u1 u2 u3 u4 u5 u6 u7 u8 u9 u10 u11 u12 u13 u14 u16 u17 u18 u19 u20 u21 u22 u23 u24 u25 u26 u27 u28 : Value} {p0 : Int32} (hb : A.2 b = xx_o 9 [u0, u1, u2, u3, u4, u5, u6, u7, u8, u9, u10, u11, u12, u13, u14, .int 0, u16, u17, u18, u19, u20, u21, u22, u23, u24, u25, u26, u27, u28]) : xx_X G l mX9_index 1 0 0 0 (lv_args 0 [.ref b, .int p0]) [] A (xx_r1 (some (.int 0)) b [.int 1, u1, u2, u3, u4, u5, u6, u7, u8, u9, u10, u11, u12, u13, u14, .int 0, u16, u17, u18, u19, u20, u21, u22, u23, u24, u25, u26, u27, u28] A) := by
  refine xx_clv (lv2 := [(0, .ref b), (1, .int p0)]) rfl ?_
  refine xx_aload_n dX9_index_0 rfl ?_
  refine xx_aload_n dX9_index_1 rfl ?_
  refine xx_get xx_c9 dX9_index_2 wf_X9_132 (j := 15) (by decide) hb rfl ?_
  refine xx_if_eq (tgt := 22) dX9_index_5 (by decide) (fun j5 => ?_) (fun h => absurd (by decide) h)
  refine xx_iconst (v := 1) dX9_index_22 (by decide) ?_
  refine xx_goto (tgt := 27) dX9_index_23 (by decide) ?_
  refine xx_put xx_c9 dX9_index_27 wf_X9_84 (j := 0) (by decide) rfl rfl rfl hb (Nat.le_of_ble_eq_true rfl) (xx_gu fun A1 z1 h1 o1 => ?_)
  have h1 : A1.2 b = xx_o 9 [.int 1, u1, u2, u3, u4, u5, u6, u7, u8, u9, u10, u11, u12, u13, u14, .int 0, u16, u17, u18, u19, u20, u21, u22, u23, u24, u25, u26, u27, u28] := h1
  refine xx_aload_n dX9_index_30 rfl ?_
  refine xx_get xx_c9 dX9_index_31 wf_X9_84 (j := 0) (by decide) h1 rfl ?_
  refine xx_if_le (tgt := 39) dX9_index_34 (by decide) (fun h => absurd h (by decide)) (fun j34 => ?_)
  refine xx_iconst (v := 0) dX9_index_37 (by decide) ?_
  exact xx_iret dX9_index_38 rfl ⟨rfl, by rw [z1], h1, fun q hq => by rw [o1 q hq]⟩
set_option maxRecDepth 100000 in
theorem r_X9_placeOf {G : xx_G} {l : Launch} {A : xx_H} {b : Nat} {u0 u1 u2 u3 u6 u7 u8 u9 u10 u11 u12 u13 u14 u15 u16 u17 u18 u19 u20 u21 u22 u23 u24 u25 u26 u27 u28 : Value} {p0 : Int32} (hb : A.2 b = xx_o 9 [u0, u1, u2, u3, .int 0, .int 0, u6, u7, u8, u9, u10, u11, u12, u13, u14, u15, u16, u17, u18, u19, u20, u21, u22, u23, u24, u25, u26, u27, u28]) : xx_X G l mX9_placeOf 0 0 0 0 (lv_args 0 [.ref b, .int p0]) [] A (fun r B => r = .inl (some (.int (-1))) ∧ B = A) := by
  refine xx_clv (lv2 := [(0, .ref b), (1, .int p0)]) rfl ?_
  refine xx_aload_n dX9_placeOf_0 rfl ?_
  refine xx_get xx_c9 dX9_placeOf_1 wf_X9_120 (j := 4) (by decide) hb rfl ?_
  refine xx_if_eq (tgt := 13) dX9_placeOf_4 (by decide) (fun j4 => ?_) (fun h => absurd (by decide) h)
  refine xx_iconst (v := (-1)) dX9_placeOf_13 (by decide) ?_
  exact xx_iret dX9_placeOf_14 rfl ⟨rfl, rfl⟩
set_option maxRecDepth 100000 in
theorem r_X9_support {G : xx_G} {l : Launch} {A : xx_H} {b : Nat} {u0 u1 u2 u3 u6 u7 u8 u9 u10 u11 u12 u13 u14 u15 u16 u17 u18 u19 u20 u21 u22 u23 u24 u25 u26 u27 u28 : Value} {p0 p1 : Int32} (hb : A.2 b = xx_o 9 [u0, u1, u2, u3, .int 0, .int 0, u6, u7, u8, u9, u10, u11, u12, u13, u14, u15, u16, u17, u18, u19, u20, u21, u22, u23, u24, u25, u26, u27, u28]) : xx_X G l mX9_support 1 0 0 0 (lv_args 0 [.ref b, .int p0, .int p1]) [] A (xx_r1 (some (.int 0)) b [.int 1, u1, u2, u3, .int 0, .int 0, u6, u7, u8, u9, u10, u11, u12, u13, u14, u15, u16, u17, u18, u19, u20, u21, u22, u23, u24, u25, u26, u27, u28] A) := by
  refine xx_clv (lv2 := [(0, .ref b), (1, .int p0), (2, .int p1)]) rfl ?_
  refine xx_aload_n dX9_support_0 rfl ?_
  refine xx_iload_n dX9_support_1 rfl ?_
  refine xx_callV (N := mX9_placeOf) (vs := [.int p0]) (b := b) (rest := []) (d2 := 0) (c2 := 0) (s2 := 0) (c3 := 0) (s3 := 0) dX9_support_2 wm_X9_184 wi_X9_placeOf wv_X9_placeOf (k := 9) rfl (by decide) hb nX9_placeOf ⟨pX9_placeOf, Nat.le_of_ble_eq_true rfl, by decide, Nat.le_of_ble_eq_true rfl, by decide, by decide⟩ (r_X9_placeOf hb) (fun v B hC => ?_) (fun E B hC => absurd hC.1 (by simp))
  obtain ⟨hv, rfl⟩ := hC
  cases hv
  refine xx_cst (st2 := [.int (-1)]) rfl ?_
  refine xx_istore_n dX9_support_5 (by decide) ?_
  refine xx_clv (lv2 := [(0, .ref b), (1, .int p0), (2, .int p1), (3, .int (-1))]) rfl ?_
  refine xx_aload_n dX9_support_6 rfl ?_
  refine xx_iload_n dX9_support_7 rfl ?_
  refine xx_if_ge (tgt := 15) dX9_support_8 (by decide) (fun h => absurd h (by decide)) (fun j8 => ?_)
  refine xx_iconst (v := 1) dX9_support_11 (by decide) ?_
  refine xx_goto (tgt := 29) dX9_support_12 (by decide) ?_
  refine xx_put xx_c9 dX9_support_29 wf_X9_84 (j := 0) (by decide) rfl rfl rfl hb (Nat.le_of_ble_eq_true rfl) (xx_gu fun A1 z1 h1 o1 => ?_)
  have h1 : A1.2 b = xx_o 9 [.int 1, u1, u2, u3, .int 0, .int 0, u6, u7, u8, u9, u10, u11, u12, u13, u14, u15, u16, u17, u18, u19, u20, u21, u22, u23, u24, u25, u26, u27, u28] := h1
  refine xx_aload_n dX9_support_32 rfl ?_
  refine xx_get xx_c9 dX9_support_33 wf_X9_84 (j := 0) (by decide) h1 rfl ?_
  refine xx_if_le (tgt := 41) dX9_support_36 (by decide) (fun h => absurd h (by decide)) (fun j36 => ?_)
  refine xx_iconst (v := 0) dX9_support_39 (by decide) ?_
  exact xx_iret dX9_support_40 rfl ⟨rfl, by rw [z1], h1, fun q hq => by rw [o1 q hq]⟩
set_option maxRecDepth 100000 in
theorem r_X9_strategy {G : xx_G} {l : Launch} {A : xx_H} {b : Nat} {u0 u1 u2 u3 u6 u7 u8 u9 u10 u11 u12 u13 u14 u15 u16 u17 u18 u19 u20 u21 u22 u23 u24 u25 u26 u27 u28 : Value} {p0 p1 p2 : Int32} (hb : A.2 b = xx_o 9 [u0, u1, u2, u3, .int 0, .int 0, u6, u7, u8, u9, u10, u11, u12, u13, u14, u15, u16, u17, u18, u19, u20, u21, u22, u23, u24, u25, u26, u27, u28]) : xx_X G l mX9_strategy 1 0 0 0 (lv_args 0 [.ref b, .int p0, .int p1, .int p2]) [] A (xx_r1 (some (.int 0)) b [.int 1, u1, u2, u3, .int 0, .int 0, u6, u7, u8, u9, u10, u11, u12, u13, u14, u15, u16, u17, u18, u19, u20, u21, u22, u23, u24, u25, u26, u27, u28] A) := by
  refine xx_clv (lv2 := [(0, .ref b), (1, .int p0), (2, .int p1), (3, .int p2)]) rfl ?_
  refine xx_aload_n dX9_strategy_0 rfl ?_
  refine xx_iload_n dX9_strategy_1 rfl ?_
  refine xx_callV (N := mX9_placeOf) (vs := [.int p0]) (b := b) (rest := []) (d2 := 0) (c2 := 0) (s2 := 0) (c3 := 0) (s3 := 0) dX9_strategy_2 wm_X9_184 wi_X9_placeOf wv_X9_placeOf (k := 9) rfl (by decide) hb nX9_placeOf ⟨pX9_placeOf, Nat.le_of_ble_eq_true rfl, by decide, Nat.le_of_ble_eq_true rfl, by decide, by decide⟩ (r_X9_placeOf hb) (fun v B hC => ?_) (fun E B hC => absurd hC.1 (by simp))
  obtain ⟨hv, rfl⟩ := hC
  cases hv
  refine xx_cst (st2 := [.int (-1)]) rfl ?_
  refine xx_istore dX9_strategy_5 (by decide) ?_
  refine xx_clv (lv2 := [(0, .ref b), (1, .int p0), (2, .int p1), (3, .int p2), (4, .int (-1))]) rfl ?_
  refine xx_aload_n dX9_strategy_7 rfl ?_
  refine xx_iload dX9_strategy_8 rfl ?_
  refine xx_if_ge (tgt := 17) dX9_strategy_10 (by decide) (fun h => absurd h (by decide)) (fun j10 => ?_)
  refine xx_iconst (v := 1) dX9_strategy_13 (by decide) ?_
  refine xx_goto (tgt := 31) dX9_strategy_14 (by decide) ?_
  refine xx_put xx_c9 dX9_strategy_31 wf_X9_84 (j := 0) (by decide) rfl rfl rfl hb (Nat.le_of_ble_eq_true rfl) (xx_gu fun A1 z1 h1 o1 => ?_)
  have h1 : A1.2 b = xx_o 9 [.int 1, u1, u2, u3, .int 0, .int 0, u6, u7, u8, u9, u10, u11, u12, u13, u14, u15, u16, u17, u18, u19, u20, u21, u22, u23, u24, u25, u26, u27, u28] := h1
  refine xx_aload_n dX9_strategy_34 rfl ?_
  refine xx_get xx_c9 dX9_strategy_35 wf_X9_84 (j := 0) (by decide) h1 rfl ?_
  refine xx_if_le (tgt := 45) dX9_strategy_38 (by decide) (fun h => absurd h (by decide)) (fun j38 => ?_)
  refine xx_iconst (v := 0) dX9_strategy_41 (by decide) ?_
  refine xx_goto (tgt := 65) dX9_strategy_42 (by decide) ?_
  exact xx_iret dX9_strategy_65 rfl ⟨rfl, by rw [z1], h1, fun q hq => by rw [o1 q hq]⟩
set_option maxRecDepth 100000 in
theorem r_X9_gets {G : xx_G} {l : Launch} {A : xx_H} {b : Nat} {u0 u1 u2 u3 u6 u7 u8 u9 u10 u11 u12 u13 u14 u15 u16 u17 u18 u19 u20 u21 u22 u23 u24 u25 u26 u27 u28 : Value} {p0 p1 p2 : Int32} (hb : A.2 b = xx_o 9 [u0, u1, u2, u3, .int 0, .int 0, u6, u7, u8, u9, u10, u11, u12, u13, u14, u15, u16, u17, u18, u19, u20, u21, u22, u23, u24, u25, u26, u27, u28]) : xx_X G l mX9_gets 1 0 0 0 (lv_args 0 [.ref b, .int p0, .int p1, .int p2]) [] A (xx_r1 (some (.int 0)) b [.int 1, u1, u2, u3, .int 0, .int 0, u6, u7, u8, u9, u10, u11, u12, u13, u14, u15, u16, u17, u18, u19, u20, u21, u22, u23, u24, u25, u26, u27, u28] A) := by
  refine xx_clv (lv2 := [(0, .ref b), (1, .int p0), (2, .int p1), (3, .int p2)]) rfl ?_
  refine xx_aload_n dX9_gets_0 rfl ?_
  refine xx_iload_n dX9_gets_1 rfl ?_
  refine xx_callV (N := mX9_placeOf) (vs := [.int p0]) (b := b) (rest := []) (d2 := 0) (c2 := 0) (s2 := 0) (c3 := 0) (s3 := 0) dX9_gets_2 wm_X9_184 wi_X9_placeOf wv_X9_placeOf (k := 9) rfl (by decide) hb nX9_placeOf ⟨pX9_placeOf, Nat.le_of_ble_eq_true rfl, by decide, Nat.le_of_ble_eq_true rfl, by decide, by decide⟩ (r_X9_placeOf hb) (fun v B hC => ?_) (fun E B hC => absurd hC.1 (by simp))
  obtain ⟨hv, rfl⟩ := hC
  cases hv
  refine xx_cst (st2 := [.int (-1)]) rfl ?_
  refine xx_istore dX9_gets_5 (by decide) ?_
  refine xx_clv (lv2 := [(0, .ref b), (1, .int p0), (2, .int p1), (3, .int p2), (4, .int (-1))]) rfl ?_
  refine xx_aload_n dX9_gets_7 rfl ?_
  refine xx_iload dX9_gets_8 rfl ?_
  refine xx_if_ge (tgt := 17) dX9_gets_10 (by decide) (fun h => absurd h (by decide)) (fun j10 => ?_)
  refine xx_iconst (v := 1) dX9_gets_13 (by decide) ?_
  refine xx_goto (tgt := 45) dX9_gets_14 (by decide) ?_
  refine xx_put xx_c9 dX9_gets_45 wf_X9_84 (j := 0) (by decide) rfl rfl rfl hb (Nat.le_of_ble_eq_true rfl) (xx_gu fun A1 z1 h1 o1 => ?_)
  have h1 : A1.2 b = xx_o 9 [.int 1, u1, u2, u3, .int 0, .int 0, u6, u7, u8, u9, u10, u11, u12, u13, u14, u15, u16, u17, u18, u19, u20, u21, u22, u23, u24, u25, u26, u27, u28] := h1
  refine xx_aload_n dX9_gets_48 rfl ?_
  refine xx_get xx_c9 dX9_gets_49 wf_X9_84 (j := 0) (by decide) h1 rfl ?_
  refine xx_if_le (tgt := 57) dX9_gets_52 (by decide) (fun h => absurd h (by decide)) (fun j52 => ?_)
  refine xx_iconst (v := 0) dX9_gets_55 (by decide) ?_
  exact xx_iret dX9_gets_56 rfl ⟨rfl, by rw [z1], h1, fun q hq => by rw [o1 q hq]⟩
set_option maxRecDepth 100000 in
theorem r_X9_replies {G : xx_G} {l : Launch} {A : xx_H} {b : Nat} {u0 u1 u2 u3 u6 u7 u8 u9 u10 u11 u12 u13 u14 u15 u16 u17 u18 u19 u20 u21 u22 u23 u24 u25 u26 u27 u28 : Value} {p0 p1 : Int32} (hb : A.2 b = xx_o 9 [u0, u1, u2, u3, .int 0, .int 0, u6, u7, u8, u9, u10, u11, u12, u13, u14, u15, u16, u17, u18, u19, u20, u21, u22, u23, u24, u25, u26, u27, u28]) : xx_X G l mX9_replies 1 0 0 0 (lv_args 0 [.ref b, .int p0, .int p1]) [] A (xx_r1 (some (.int 0)) b [.int 1, u1, u2, u3, .int 0, .int 0, u6, u7, u8, u9, u10, u11, u12, u13, u14, u15, u16, u17, u18, u19, u20, u21, u22, u23, u24, u25, u26, u27, u28] A) := by
  refine xx_clv (lv2 := [(0, .ref b), (1, .int p0), (2, .int p1)]) rfl ?_
  refine xx_aload_n dX9_replies_0 rfl ?_
  refine xx_iload_n dX9_replies_1 rfl ?_
  refine xx_callV (N := mX9_placeOf) (vs := [.int p0]) (b := b) (rest := []) (d2 := 0) (c2 := 0) (s2 := 0) (c3 := 0) (s3 := 0) dX9_replies_2 wm_X9_184 wi_X9_placeOf wv_X9_placeOf (k := 9) rfl (by decide) hb nX9_placeOf ⟨pX9_placeOf, Nat.le_of_ble_eq_true rfl, by decide, Nat.le_of_ble_eq_true rfl, by decide, by decide⟩ (r_X9_placeOf hb) (fun v B hC => ?_) (fun E B hC => absurd hC.1 (by simp))
  obtain ⟨hv, rfl⟩ := hC
  cases hv
  refine xx_cst (st2 := [.int (-1)]) rfl ?_
  refine xx_istore_n dX9_replies_5 (by decide) ?_
  refine xx_clv (lv2 := [(0, .ref b), (1, .int p0), (2, .int p1), (3, .int (-1))]) rfl ?_
  refine xx_aload_n dX9_replies_6 rfl ?_
  refine xx_iload_n dX9_replies_7 rfl ?_
  refine xx_if_ge (tgt := 15) dX9_replies_8 (by decide) (fun h => absurd h (by decide)) (fun j8 => ?_)
  refine xx_iconst (v := 1) dX9_replies_11 (by decide) ?_
  refine xx_goto (tgt := 29) dX9_replies_12 (by decide) ?_
  refine xx_put xx_c9 dX9_replies_29 wf_X9_84 (j := 0) (by decide) rfl rfl rfl hb (Nat.le_of_ble_eq_true rfl) (xx_gu fun A1 z1 h1 o1 => ?_)
  have h1 : A1.2 b = xx_o 9 [.int 1, u1, u2, u3, .int 0, .int 0, u6, u7, u8, u9, u10, u11, u12, u13, u14, u15, u16, u17, u18, u19, u20, u21, u22, u23, u24, u25, u26, u27, u28] := h1
  refine xx_aload_n dX9_replies_32 rfl ?_
  refine xx_get xx_c9 dX9_replies_33 wf_X9_84 (j := 0) (by decide) h1 rfl ?_
  refine xx_if_le (tgt := 41) dX9_replies_36 (by decide) (fun h => absurd h (by decide)) (fun j36 => ?_)
  refine xx_iconst (v := 0) dX9_replies_39 (by decide) ?_
  exact xx_iret dX9_replies_40 rfl ⟨rfl, by rw [z1], h1, fun q hq => by rw [o1 q hq]⟩
set_option maxRecDepth 100000 in
theorem r_X9_judge {G : xx_G} {l : Launch} {A : xx_H} {b : Nat} {u0 u1 u2 u3 u6 u7 u8 u9 u10 u11 u12 u13 u14 u15 u16 u17 u18 u19 u20 u21 u22 u23 u24 u25 u26 u27 u28 : Value} {p0 : Int32} (hb : A.2 b = xx_o 9 [u0, u1, u2, u3, .int 0, .int 0, u6, u7, u8, u9, u10, u11, u12, u13, u14, u15, u16, u17, u18, u19, u20, u21, u22, u23, u24, u25, u26, u27, u28]) : xx_X G l mX9_judge 1 0 0 0 (lv_args 0 [.ref b, .int p0]) [] A (xx_r1 (some (.int 0)) b [.int 1, u1, u2, u3, .int 0, .int 0, u6, u7, u8, u9, u10, u11, u12, u13, u14, u15, u16, u17, u18, u19, u20, u21, u22, u23, u24, u25, u26, u27, u28] A) := by
  refine xx_clv (lv2 := [(0, .ref b), (1, .int p0)]) rfl ?_
  refine xx_aload_n dX9_judge_0 rfl ?_
  refine xx_iload_n dX9_judge_1 rfl ?_
  refine xx_callV (N := mX9_placeOf) (vs := [.int p0]) (b := b) (rest := []) (d2 := 0) (c2 := 0) (s2 := 0) (c3 := 0) (s3 := 0) dX9_judge_2 wm_X9_184 wi_X9_placeOf wv_X9_placeOf (k := 9) rfl (by decide) hb nX9_placeOf ⟨pX9_placeOf, Nat.le_of_ble_eq_true rfl, by decide, Nat.le_of_ble_eq_true rfl, by decide, by decide⟩ (r_X9_placeOf hb) (fun v B hC => ?_) (fun E B hC => absurd hC.1 (by simp))
  obtain ⟨hv, rfl⟩ := hC
  cases hv
  refine xx_cst (st2 := [.int (-1)]) rfl ?_
  refine xx_istore_n dX9_judge_5 (by decide) ?_
  refine xx_clv (lv2 := [(0, .ref b), (1, .int p0), (2, .int (-1))]) rfl ?_
  refine xx_aload_n dX9_judge_6 rfl ?_
  refine xx_iload_n dX9_judge_7 rfl ?_
  refine xx_if_ge (tgt := 15) dX9_judge_8 (by decide) (fun h => absurd h (by decide)) (fun j8 => ?_)
  refine xx_iconst (v := 1) dX9_judge_11 (by decide) ?_
  refine xx_goto (tgt := 16) dX9_judge_12 (by decide) ?_
  refine xx_put xx_c9 dX9_judge_16 wf_X9_84 (j := 0) (by decide) rfl rfl rfl hb (Nat.le_of_ble_eq_true rfl) (xx_gu fun A1 z1 h1 o1 => ?_)
  have h1 : A1.2 b = xx_o 9 [.int 1, u1, u2, u3, .int 0, .int 0, u6, u7, u8, u9, u10, u11, u12, u13, u14, u15, u16, u17, u18, u19, u20, u21, u22, u23, u24, u25, u26, u27, u28] := h1
  refine xx_aload_n dX9_judge_19 rfl ?_
  refine xx_get xx_c9 dX9_judge_20 wf_X9_84 (j := 0) (by decide) h1 rfl ?_
  refine xx_if_le (tgt := 28) dX9_judge_23 (by decide) (fun h => absurd h (by decide)) (fun j23 => ?_)
  refine xx_iconst (v := 0) dX9_judge_26 (by decide) ?_
  exact xx_zret dX9_judge_27 rfl rfl ⟨rfl, by rw [z1], h1, fun q hq => by rw [o1 q hq]⟩
set_option maxRecDepth 100000 in
theorem c_X9_thrown {G : xx_G} {l : Launch} {A : xx_H} {b : Nat} {u1 u2 u3 u4 u5 u6 u7 u8 u9 u10 u11 u12 u13 u14 u15 u16 u17 u18 u19 u20 u21 u22 u23 u24 u25 u26 u27 u28 : Value} {t : Int32} (hb : A.2 b = xx_o 9 [.int t, u1, u2, u3, u4, u5, u6, u7, u8, u9, u10, u11, u12, u13, u14, u15, u16, u17, u18, u19, u20, u21, u22, u23, u24, u25, u26, u27, u28]) : xx_X G l mX9_thrown 0 0 0 0 (lv_args 0 [.ref b]) [] A (fun r B => r = .inl (some (.int t)) ∧ B = A) := by
  refine xx_clv (lv2 := [(0, .ref b)]) rfl ?_
  refine xx_aload_n dX9_thrown_0 rfl ?_
  refine xx_get xx_c9 dX9_thrown_1 wf_X9_84 (j := 0) (by decide) hb rfl ?_
  exact xx_iret dX9_thrown_4 rfl ⟨rfl, rfl⟩
