/-! ===== the reference's told, sign ===== -/
set_option maxRecDepth 100000 in
theorem c_X9_tl0 {G : xx_G} {l : Launch} {A : xx_H} {b : Nat} {th tu : Value} {xh xs xl xe : Int32} {m n : Nat} {mu : Nat → Nat} {f : Nat → Int64} (hb : A.2 b = xx_o 9 (xx_mf b th (.int (nI m)) (.int (nI n)) (.int xh) (.int xs) (.int xl) (.int xe) tu)) (hf : A.2 (b + 14) = xx_l 2 f) (hf2 : ∀ p, p < 2 → f p = lN (mu p)) : xx_X G l mX9_told 1 0 0 0 (lv_args 0 [.ref b, .int 0]) [] A (fun z B => z = .inl (some (.int (nI m))) ∧ B.1 = A.1 ∧ B.2 b = xx_o 9 (xx_mf b (.int 0) (.int (nI m)) (.int (nI n)) (.int xh) (.int xs) (.int xl) (.int xe) tu) ∧ ∀ q, q ≠ b → B.2 q = A.2 q) := by
  have hin : xx_inn 0 0 6 = 1 := by decide
  refine xx_clv (lv2 := [(0, .ref b), (1, .int 0)]) rfl ?_
  refine xx_aload_n dX9_told_0 rfl ?_
  refine xx_iload_n dX9_told_1 rfl ?_
  refine xx_iconst (v := 0) dX9_told_2 (by decide) ?_
  refine xx_bipush (v := 6) dX9_told_3 (by decide) ?_
  refine xx_callS (N := mX9_in) (vs := [.int 0, .int 0, .int 6]) (rest := [.ref b]) (d2 := 0) (c2 := 0) (s2 := 0) (c3 := 0) (s3 := 0) dX9_told_5 wm_X9_116 ws_X9_in wz_X9 (by decide) nX9_in ⟨pX9_in, Nat.le_of_ble_eq_true rfl, by decide, Nat.le_of_ble_eq_true rfl, by decide, by decide⟩ c_X9_in (fun v9 B9 hC => ?_) (fun E9 B9 hC => absurd hC.1 (by simp))
  obtain ⟨hv9, e9⟩ := hC
  cases hv9
  rw [e9]
  refine xx_cst (st2 := [.int 1, .ref b]) (by rw [hin]; rfl) ?_
  refine xx_if_eq (tgt := 15) dX9_told_8 (by decide) (fun h => absurd h (by decide)) (fun j8 => ?_)
  refine xx_iconst (v := 0) dX9_told_11 (by decide) ?_
  refine xx_goto (tgt := 16) dX9_told_12 (by decide) ?_
  refine xx_put xx_c9 dX9_told_16 wf_X9_84 (j := 0) (by decide) rfl rfl rfl hb (Nat.le_of_ble_eq_true rfl) (xx_gu fun Eq1 zq1 hbq1 oq1 => ?_)
  have hbq1 : Eq1.2 b = xx_o 9 (xx_mf b (.int 0) (.int (nI m)) (.int (nI n)) (.int xh) (.int xs) (.int xl) (.int xe) tu) := hbq1
  refine xx_aload_n dX9_told_19 rfl ?_
  refine xx_get xx_c9 dX9_told_20 wf_X9_84 (j := 0) (by decide) hbq1 rfl ?_
  refine xx_if_le (tgt := 31) dX9_told_23 (by decide) (fun j23 => ?_) (fun h => absurd (by decide) h)
  refine xx_iload_n dX9_told_31 rfl ?_
  refine xx_tableIn (tgt := 76) dX9_told_32 (by decide) (by decide) rfl (by decide) ?_
  refine xx_aload_n dX9_told_76 rfl ?_
  refine xx_get xx_c9 dX9_told_77 wf_X9_120 (j := 4) (by decide) hbq1 rfl ?_
  exact xx_iret dX9_told_80 rfl ⟨rfl, zq1, hbq1, oq1⟩
set_option maxRecDepth 100000 in
theorem c_X9_tl1 {G : xx_G} {l : Launch} {A : xx_H} {b : Nat} {th tu : Value} {xh xs xl xe : Int32} {m n : Nat} {mu : Nat → Nat} {f : Nat → Int64} (hb : A.2 b = xx_o 9 (xx_mf b th (.int (nI m)) (.int (nI n)) (.int xh) (.int xs) (.int xl) (.int xe) tu)) (hf : A.2 (b + 14) = xx_l 2 f) (hf2 : ∀ p, p < 2 → f p = lN (mu p)) : xx_X G l mX9_told 1 0 0 0 (lv_args 0 [.ref b, .int 1]) [] A (fun z B => z = .inl (some (.int (nI n))) ∧ B.1 = A.1 ∧ B.2 b = xx_o 9 (xx_mf b (.int 0) (.int (nI m)) (.int (nI n)) (.int xh) (.int xs) (.int xl) (.int xe) tu) ∧ ∀ q, q ≠ b → B.2 q = A.2 q) := by
  have hin : xx_inn 1 0 6 = 1 := by decide
  refine xx_clv (lv2 := [(0, .ref b), (1, .int 1)]) rfl ?_
  refine xx_aload_n dX9_told_0 rfl ?_
  refine xx_iload_n dX9_told_1 rfl ?_
  refine xx_iconst (v := 0) dX9_told_2 (by decide) ?_
  refine xx_bipush (v := 6) dX9_told_3 (by decide) ?_
  refine xx_callS (N := mX9_in) (vs := [.int 1, .int 0, .int 6]) (rest := [.ref b]) (d2 := 0) (c2 := 0) (s2 := 0) (c3 := 0) (s3 := 0) dX9_told_5 wm_X9_116 ws_X9_in wz_X9 (by decide) nX9_in ⟨pX9_in, Nat.le_of_ble_eq_true rfl, by decide, Nat.le_of_ble_eq_true rfl, by decide, by decide⟩ c_X9_in (fun v9 B9 hC => ?_) (fun E9 B9 hC => absurd hC.1 (by simp))
  obtain ⟨hv9, e9⟩ := hC
  cases hv9
  rw [e9]
  refine xx_cst (st2 := [.int 1, .ref b]) (by rw [hin]; rfl) ?_
  refine xx_if_eq (tgt := 15) dX9_told_8 (by decide) (fun h => absurd h (by decide)) (fun j8 => ?_)
  refine xx_iconst (v := 0) dX9_told_11 (by decide) ?_
  refine xx_goto (tgt := 16) dX9_told_12 (by decide) ?_
  refine xx_put xx_c9 dX9_told_16 wf_X9_84 (j := 0) (by decide) rfl rfl rfl hb (Nat.le_of_ble_eq_true rfl) (xx_gu fun Eq1 zq1 hbq1 oq1 => ?_)
  have hbq1 : Eq1.2 b = xx_o 9 (xx_mf b (.int 0) (.int (nI m)) (.int (nI n)) (.int xh) (.int xs) (.int xl) (.int xe) tu) := hbq1
  refine xx_aload_n dX9_told_19 rfl ?_
  refine xx_get xx_c9 dX9_told_20 wf_X9_84 (j := 0) (by decide) hbq1 rfl ?_
  refine xx_if_le (tgt := 31) dX9_told_23 (by decide) (fun j23 => ?_) (fun h => absurd (by decide) h)
  refine xx_iload_n dX9_told_31 rfl ?_
  refine xx_tableIn (tgt := 81) dX9_told_32 (by decide) (by decide) rfl (by decide) ?_
  refine xx_aload_n dX9_told_81 rfl ?_
  refine xx_get xx_c9 dX9_told_82 wf_X9_123 (j := 5) (by decide) hbq1 rfl ?_
  exact xx_iret dX9_told_85 rfl ⟨rfl, zq1, hbq1, oq1⟩
set_option maxRecDepth 100000 in
theorem c_X9_tl2 {G : xx_G} {l : Launch} {A : xx_H} {b : Nat} {th tu : Value} {xh xs xl xe : Int32} {m n : Nat} {mu : Nat → Nat} {f : Nat → Int64} (hb : A.2 b = xx_o 9 (xx_mf b th (.int (nI m)) (.int (nI n)) (.int xh) (.int xs) (.int xl) (.int xe) tu)) (hf : A.2 (b + 14) = xx_l 2 f) (hf2 : ∀ p, p < 2 → f p = lN (mu p)) : xx_X G l mX9_told 1 0 0 0 (lv_args 0 [.ref b, .int 2]) [] A (fun z B => z = .inl (some (.int ((if xh < 0 then 0 else xs)))) ∧ B.1 = A.1 ∧ B.2 b = xx_o 9 (xx_mf b (.int 0) (.int (nI m)) (.int (nI n)) (.int xh) (.int xs) (.int xl) (.int xe) tu) ∧ ∀ q, q ≠ b → B.2 q = A.2 q) := by
  have hin : xx_inn 2 0 6 = 1 := by decide
  refine xx_clv (lv2 := [(0, .ref b), (1, .int 2)]) rfl ?_
  refine xx_aload_n dX9_told_0 rfl ?_
  refine xx_iload_n dX9_told_1 rfl ?_
  refine xx_iconst (v := 0) dX9_told_2 (by decide) ?_
  refine xx_bipush (v := 6) dX9_told_3 (by decide) ?_
  refine xx_callS (N := mX9_in) (vs := [.int 2, .int 0, .int 6]) (rest := [.ref b]) (d2 := 0) (c2 := 0) (s2 := 0) (c3 := 0) (s3 := 0) dX9_told_5 wm_X9_116 ws_X9_in wz_X9 (by decide) nX9_in ⟨pX9_in, Nat.le_of_ble_eq_true rfl, by decide, Nat.le_of_ble_eq_true rfl, by decide, by decide⟩ c_X9_in (fun v9 B9 hC => ?_) (fun E9 B9 hC => absurd hC.1 (by simp))
  obtain ⟨hv9, e9⟩ := hC
  cases hv9
  rw [e9]
  refine xx_cst (st2 := [.int 1, .ref b]) (by rw [hin]; rfl) ?_
  refine xx_if_eq (tgt := 15) dX9_told_8 (by decide) (fun h => absurd h (by decide)) (fun j8 => ?_)
  refine xx_iconst (v := 0) dX9_told_11 (by decide) ?_
  refine xx_goto (tgt := 16) dX9_told_12 (by decide) ?_
  refine xx_put xx_c9 dX9_told_16 wf_X9_84 (j := 0) (by decide) rfl rfl rfl hb (Nat.le_of_ble_eq_true rfl) (xx_gu fun Eq1 zq1 hbq1 oq1 => ?_)
  have hbq1 : Eq1.2 b = xx_o 9 (xx_mf b (.int 0) (.int (nI m)) (.int (nI n)) (.int xh) (.int xs) (.int xl) (.int xe) tu) := hbq1
  refine xx_aload_n dX9_told_19 rfl ?_
  refine xx_get xx_c9 dX9_told_20 wf_X9_84 (j := 0) (by decide) hbq1 rfl ?_
  refine xx_if_le (tgt := 31) dX9_told_23 (by decide) (fun j23 => ?_) (fun h => absurd (by decide) h)
  refine xx_iload_n dX9_told_31 rfl ?_
  refine xx_tableIn (tgt := 86) dX9_told_32 (by decide) (by decide) rfl (by decide) ?_
  refine xx_aload_n dX9_told_86 rfl ?_
  refine xx_get xx_c9 dX9_told_87 wf_X9_32 (j := 10) (by decide) hbq1 rfl ?_
  refine xx_if_ge (tgt := 97) dX9_told_90 (by decide) (fun j90 => ?_) (fun j90 => ?_)
  · refine xx_aload_n dX9_told_97 rfl ?_
    refine xx_get xx_c9 dX9_told_98 wf_X9_129 (j := 11) (by decide) hbq1 rfl ?_
    exact xx_iret dX9_told_101 rfl ⟨by rw [if_neg (Int32.not_lt.mpr j90)], zq1, hbq1, oq1⟩
  · refine xx_iconst (v := 0) dX9_told_93 (by decide) ?_
    refine xx_goto (tgt := 101) dX9_told_94 (by decide) ?_
    exact xx_iret dX9_told_101 rfl ⟨by rw [if_pos (Int32.not_le.mp j90)], zq1, hbq1, oq1⟩
set_option maxRecDepth 100000 in
theorem c_X9_tl3 {G : xx_G} {l : Launch} {A : xx_H} {b : Nat} {th tu : Value} {xh xs xl xe : Int32} {m n : Nat} {mu : Nat → Nat} {f : Nat → Int64} (hb : A.2 b = xx_o 9 (xx_mf b th (.int (nI m)) (.int (nI n)) (.int xh) (.int xs) (.int xl) (.int xe) tu)) (hf : A.2 (b + 14) = xx_l 2 f) (hf2 : ∀ p, p < 2 → f p = lN (mu p)) : xx_X G l mX9_told 1 0 0 0 (lv_args 0 [.ref b, .int 3]) [] A (fun z B => z = .inl (some (.int ((if xl = 0 then 0 else xe)))) ∧ B.1 = A.1 ∧ B.2 b = xx_o 9 (xx_mf b (.int 0) (.int (nI m)) (.int (nI n)) (.int xh) (.int xs) (.int xl) (.int xe) tu) ∧ ∀ q, q ≠ b → B.2 q = A.2 q) := by
  have hin : xx_inn 3 0 6 = 1 := by decide
  refine xx_clv (lv2 := [(0, .ref b), (1, .int 3)]) rfl ?_
  refine xx_aload_n dX9_told_0 rfl ?_
  refine xx_iload_n dX9_told_1 rfl ?_
  refine xx_iconst (v := 0) dX9_told_2 (by decide) ?_
  refine xx_bipush (v := 6) dX9_told_3 (by decide) ?_
  refine xx_callS (N := mX9_in) (vs := [.int 3, .int 0, .int 6]) (rest := [.ref b]) (d2 := 0) (c2 := 0) (s2 := 0) (c3 := 0) (s3 := 0) dX9_told_5 wm_X9_116 ws_X9_in wz_X9 (by decide) nX9_in ⟨pX9_in, Nat.le_of_ble_eq_true rfl, by decide, Nat.le_of_ble_eq_true rfl, by decide, by decide⟩ c_X9_in (fun v9 B9 hC => ?_) (fun E9 B9 hC => absurd hC.1 (by simp))
  obtain ⟨hv9, e9⟩ := hC
  cases hv9
  rw [e9]
  refine xx_cst (st2 := [.int 1, .ref b]) (by rw [hin]; rfl) ?_
  refine xx_if_eq (tgt := 15) dX9_told_8 (by decide) (fun h => absurd h (by decide)) (fun j8 => ?_)
  refine xx_iconst (v := 0) dX9_told_11 (by decide) ?_
  refine xx_goto (tgt := 16) dX9_told_12 (by decide) ?_
  refine xx_put xx_c9 dX9_told_16 wf_X9_84 (j := 0) (by decide) rfl rfl rfl hb (Nat.le_of_ble_eq_true rfl) (xx_gu fun Eq1 zq1 hbq1 oq1 => ?_)
  have hbq1 : Eq1.2 b = xx_o 9 (xx_mf b (.int 0) (.int (nI m)) (.int (nI n)) (.int xh) (.int xs) (.int xl) (.int xe) tu) := hbq1
  refine xx_aload_n dX9_told_19 rfl ?_
  refine xx_get xx_c9 dX9_told_20 wf_X9_84 (j := 0) (by decide) hbq1 rfl ?_
  refine xx_if_le (tgt := 31) dX9_told_23 (by decide) (fun j23 => ?_) (fun h => absurd (by decide) h)
  refine xx_iload_n dX9_told_31 rfl ?_
  refine xx_tableIn (tgt := 102) dX9_told_32 (by decide) (by decide) rfl (by decide) ?_
  refine xx_aload_n dX9_told_102 rfl ?_
  refine xx_get xx_c9 dX9_told_103 wf_X9_132 (j := 15) (by decide) hbq1 rfl ?_
  refine xx_if_eq (tgt := 116) dX9_told_106 (by decide) (fun j106 => ?_) (fun j106 => ?_)
  · refine xx_iconst (v := 0) dX9_told_116 (by decide) ?_
    exact xx_iret dX9_told_117 rfl ⟨by rw [if_pos j106], zq1, hbq1, oq1⟩
  · refine xx_aload_n dX9_told_109 rfl ?_
    refine xx_get xx_c9 dX9_told_110 wf_X9_136 (j := 16) (by decide) hbq1 rfl ?_
    refine xx_goto (tgt := 117) dX9_told_113 (by decide) ?_
    exact xx_iret dX9_told_117 rfl ⟨by rw [if_neg j106], zq1, hbq1, oq1⟩
set_option maxRecDepth 100000 in
theorem c_X9_tl4 {G : xx_G} {l : Launch} {A : xx_H} {b : Nat} {th tu : Value} {xh xs xl xe : Int32} {m n : Nat} {mu : Nat → Nat} {f : Nat → Int64} (hb : A.2 b = xx_o 9 (xx_mf b th (.int (nI m)) (.int (nI n)) (.int xh) (.int xs) (.int xl) (.int xe) tu)) (hf : A.2 (b + 14) = xx_l 2 f) (hf2 : ∀ p, p < 2 → f p = lN (mu p)) : xx_X G l mX9_told 1 0 0 0 (lv_args 0 [.ref b, .int 4]) [] A (fun z B => z = .inl (some (.int (xh))) ∧ B.1 = A.1 ∧ B.2 b = xx_o 9 (xx_mf b (.int 0) (.int (nI m)) (.int (nI n)) (.int xh) (.int xs) (.int xl) (.int xe) tu) ∧ ∀ q, q ≠ b → B.2 q = A.2 q) := by
  have hin : xx_inn 4 0 6 = 1 := by decide
  refine xx_clv (lv2 := [(0, .ref b), (1, .int 4)]) rfl ?_
  refine xx_aload_n dX9_told_0 rfl ?_
  refine xx_iload_n dX9_told_1 rfl ?_
  refine xx_iconst (v := 0) dX9_told_2 (by decide) ?_
  refine xx_bipush (v := 6) dX9_told_3 (by decide) ?_
  refine xx_callS (N := mX9_in) (vs := [.int 4, .int 0, .int 6]) (rest := [.ref b]) (d2 := 0) (c2 := 0) (s2 := 0) (c3 := 0) (s3 := 0) dX9_told_5 wm_X9_116 ws_X9_in wz_X9 (by decide) nX9_in ⟨pX9_in, Nat.le_of_ble_eq_true rfl, by decide, Nat.le_of_ble_eq_true rfl, by decide, by decide⟩ c_X9_in (fun v9 B9 hC => ?_) (fun E9 B9 hC => absurd hC.1 (by simp))
  obtain ⟨hv9, e9⟩ := hC
  cases hv9
  rw [e9]
  refine xx_cst (st2 := [.int 1, .ref b]) (by rw [hin]; rfl) ?_
  refine xx_if_eq (tgt := 15) dX9_told_8 (by decide) (fun h => absurd h (by decide)) (fun j8 => ?_)
  refine xx_iconst (v := 0) dX9_told_11 (by decide) ?_
  refine xx_goto (tgt := 16) dX9_told_12 (by decide) ?_
  refine xx_put xx_c9 dX9_told_16 wf_X9_84 (j := 0) (by decide) rfl rfl rfl hb (Nat.le_of_ble_eq_true rfl) (xx_gu fun Eq1 zq1 hbq1 oq1 => ?_)
  have hbq1 : Eq1.2 b = xx_o 9 (xx_mf b (.int 0) (.int (nI m)) (.int (nI n)) (.int xh) (.int xs) (.int xl) (.int xe) tu) := hbq1
  refine xx_aload_n dX9_told_19 rfl ?_
  refine xx_get xx_c9 dX9_told_20 wf_X9_84 (j := 0) (by decide) hbq1 rfl ?_
  refine xx_if_le (tgt := 31) dX9_told_23 (by decide) (fun j23 => ?_) (fun h => absurd (by decide) h)
  refine xx_iload_n dX9_told_31 rfl ?_
  refine xx_tableIn (tgt := 118) dX9_told_32 (by decide) (by decide) rfl (by decide) ?_
  refine xx_aload_n dX9_told_118 rfl ?_
  refine xx_get xx_c9 dX9_told_119 wf_X9_32 (j := 10) (by decide) hbq1 rfl ?_
  exact xx_iret dX9_told_122 rfl ⟨rfl, zq1, hbq1, oq1⟩
set_option maxRecDepth 100000 in
theorem c_X9_tl5 {G : xx_G} {l : Launch} {A : xx_H} {b : Nat} {th tu : Value} {xh xs xl xe : Int32} {m n : Nat} {mu : Nat → Nat} {f : Nat → Int64} (hb : A.2 b = xx_o 9 (xx_mf b th (.int (nI m)) (.int (nI n)) (.int xh) (.int xs) (.int xl) (.int xe) tu)) (hf : A.2 (b + 14) = xx_l 2 f) (hf2 : ∀ p, p < 2 → f p = lN (mu p)) : xx_X G l mX9_told 1 0 0 0 (lv_args 0 [.ref b, .int 5]) [] A (fun z B => z = .inl (some (.int (nI (mu 0)))) ∧ B.1 = A.1 ∧ B.2 b = xx_o 9 (xx_mf b (.int 0) (.int (nI m)) (.int (nI n)) (.int xh) (.int xs) (.int xl) (.int xe) tu) ∧ ∀ q, q ≠ b → B.2 q = A.2 q) := by
  have hin : xx_inn 5 0 6 = 1 := by decide
  refine xx_clv (lv2 := [(0, .ref b), (1, .int 5)]) rfl ?_
  refine xx_aload_n dX9_told_0 rfl ?_
  refine xx_iload_n dX9_told_1 rfl ?_
  refine xx_iconst (v := 0) dX9_told_2 (by decide) ?_
  refine xx_bipush (v := 6) dX9_told_3 (by decide) ?_
  refine xx_callS (N := mX9_in) (vs := [.int 5, .int 0, .int 6]) (rest := [.ref b]) (d2 := 0) (c2 := 0) (s2 := 0) (c3 := 0) (s3 := 0) dX9_told_5 wm_X9_116 ws_X9_in wz_X9 (by decide) nX9_in ⟨pX9_in, Nat.le_of_ble_eq_true rfl, by decide, Nat.le_of_ble_eq_true rfl, by decide, by decide⟩ c_X9_in (fun v9 B9 hC => ?_) (fun E9 B9 hC => absurd hC.1 (by simp))
  obtain ⟨hv9, e9⟩ := hC
  cases hv9
  rw [e9]
  refine xx_cst (st2 := [.int 1, .ref b]) (by rw [hin]; rfl) ?_
  refine xx_if_eq (tgt := 15) dX9_told_8 (by decide) (fun h => absurd h (by decide)) (fun j8 => ?_)
  refine xx_iconst (v := 0) dX9_told_11 (by decide) ?_
  refine xx_goto (tgt := 16) dX9_told_12 (by decide) ?_
  refine xx_put xx_c9 dX9_told_16 wf_X9_84 (j := 0) (by decide) rfl rfl rfl hb (Nat.le_of_ble_eq_true rfl) (xx_gu fun Eq1 zq1 hbq1 oq1 => ?_)
  have hbq1 : Eq1.2 b = xx_o 9 (xx_mf b (.int 0) (.int (nI m)) (.int (nI n)) (.int xh) (.int xs) (.int xl) (.int xe) tu) := hbq1
  refine xx_aload_n dX9_told_19 rfl ?_
  refine xx_get xx_c9 dX9_told_20 wf_X9_84 (j := 0) (by decide) hbq1 rfl ?_
  refine xx_if_le (tgt := 31) dX9_told_23 (by decide) (fun j23 => ?_) (fun h => absurd (by decide) h)
  refine xx_iload_n dX9_told_31 rfl ?_
  refine xx_tableIn (tgt := 123) dX9_told_32 (by decide) (by decide) rfl (by decide) ?_
  refine xx_aload_n dX9_told_123 rfl ?_
  refine xx_get xx_c9 dX9_told_124 wf_X9_55 (j := 20) (by decide) hbq1 rfl ?_
  refine xx_iconst (v := 0) dX9_told_127 (by decide) ?_
  refine xx_lald dX9_told_128 ((oq1 (b + 14) (by omega)).trans hf) (by unfold vp_in; decide) ?_
  refine xx_eql (y := lN (mu 0)) (hf2 0 (by decide)) ?_
  refine xx_l2i dX9_told_129 ?_
  refine xx_eqi (y := nI (mu 0)) (lN_i _) ?_
  exact xx_iret dX9_told_130 rfl ⟨rfl, zq1, hbq1, oq1⟩
set_option maxRecDepth 100000 in
theorem c_X9_tl6 {G : xx_G} {l : Launch} {A : xx_H} {b : Nat} {th tu : Value} {xh xs xl xe : Int32} {m n : Nat} {mu : Nat → Nat} {f : Nat → Int64} (hb : A.2 b = xx_o 9 (xx_mf b th (.int (nI m)) (.int (nI n)) (.int xh) (.int xs) (.int xl) (.int xe) tu)) (hf : A.2 (b + 14) = xx_l 2 f) (hf2 : ∀ p, p < 2 → f p = lN (mu p)) : xx_X G l mX9_told 1 0 0 0 (lv_args 0 [.ref b, .int 6]) [] A (fun z B => z = .inl (some (.int (nI (mu 1)))) ∧ B.1 = A.1 ∧ B.2 b = xx_o 9 (xx_mf b (.int 0) (.int (nI m)) (.int (nI n)) (.int xh) (.int xs) (.int xl) (.int xe) tu) ∧ ∀ q, q ≠ b → B.2 q = A.2 q) := by
  have hin : xx_inn 6 0 6 = 1 := by decide
  refine xx_clv (lv2 := [(0, .ref b), (1, .int 6)]) rfl ?_
  refine xx_aload_n dX9_told_0 rfl ?_
  refine xx_iload_n dX9_told_1 rfl ?_
  refine xx_iconst (v := 0) dX9_told_2 (by decide) ?_
  refine xx_bipush (v := 6) dX9_told_3 (by decide) ?_
  refine xx_callS (N := mX9_in) (vs := [.int 6, .int 0, .int 6]) (rest := [.ref b]) (d2 := 0) (c2 := 0) (s2 := 0) (c3 := 0) (s3 := 0) dX9_told_5 wm_X9_116 ws_X9_in wz_X9 (by decide) nX9_in ⟨pX9_in, Nat.le_of_ble_eq_true rfl, by decide, Nat.le_of_ble_eq_true rfl, by decide, by decide⟩ c_X9_in (fun v9 B9 hC => ?_) (fun E9 B9 hC => absurd hC.1 (by simp))
  obtain ⟨hv9, e9⟩ := hC
  cases hv9
  rw [e9]
  refine xx_cst (st2 := [.int 1, .ref b]) (by rw [hin]; rfl) ?_
  refine xx_if_eq (tgt := 15) dX9_told_8 (by decide) (fun h => absurd h (by decide)) (fun j8 => ?_)
  refine xx_iconst (v := 0) dX9_told_11 (by decide) ?_
  refine xx_goto (tgt := 16) dX9_told_12 (by decide) ?_
  refine xx_put xx_c9 dX9_told_16 wf_X9_84 (j := 0) (by decide) rfl rfl rfl hb (Nat.le_of_ble_eq_true rfl) (xx_gu fun Eq1 zq1 hbq1 oq1 => ?_)
  have hbq1 : Eq1.2 b = xx_o 9 (xx_mf b (.int 0) (.int (nI m)) (.int (nI n)) (.int xh) (.int xs) (.int xl) (.int xe) tu) := hbq1
  refine xx_aload_n dX9_told_19 rfl ?_
  refine xx_get xx_c9 dX9_told_20 wf_X9_84 (j := 0) (by decide) hbq1 rfl ?_
  refine xx_if_le (tgt := 31) dX9_told_23 (by decide) (fun j23 => ?_) (fun h => absurd (by decide) h)
  refine xx_iload_n dX9_told_31 rfl ?_
  refine xx_tableIn (tgt := 131) dX9_told_32 (by decide) (by decide) rfl (by decide) ?_
  refine xx_aload_n dX9_told_131 rfl ?_
  refine xx_get xx_c9 dX9_told_132 wf_X9_55 (j := 20) (by decide) hbq1 rfl ?_
  refine xx_iconst (v := 1) dX9_told_135 (by decide) ?_
  refine xx_lald dX9_told_136 ((oq1 (b + 14) (by omega)).trans hf) (by unfold vp_in; decide) ?_
  refine xx_eql (y := lN (mu 1)) (hf2 1 (by decide)) ?_
  refine xx_l2i dX9_told_137 ?_
  refine xx_eqi (y := nI (mu 1)) (lN_i _) ?_
  exact xx_iret dX9_told_138 rfl ⟨rfl, zq1, hbq1, oq1⟩
set_option maxRecDepth 100000 in
theorem c_X9_sgn {G : xx_G} {l : Launch} {A : xx_H} {b : Nat} {th hr st hl en tu : Value} {m n : Nat} {N : Nat → Int} (hb : A.2 b = xx_o 9 (xx_mf b th (.int (nI m)) (.int (nI n)) hr st hl en tu)) (hN : xx_rw A b N) : xx_X G l mX9_sign 0 0 0 0 (lv_args 0 [.ref b]) [] A (fun z B => z = .inl (some (.int (iz (N 16).sign))) ∧ B.1 = A.1 ∧ B.2 b = xx_o 9 (xx_mf b (.int 0) (.int (nI m)) (.int (nI n)) hr st hl en tu) ∧ ∀ q, q ≠ b → B.2 q = A.2 q) := by
  obtain ⟨h, h1, h2⟩ := hN.sg
  refine xx_clv (lv2 := [(0, .ref b)]) rfl ?_
  refine xx_aload_n dX9_sign_0 rfl ?_
  refine xx_iconst (v := 0) dX9_sign_1 (by decide) ?_
  refine xx_put xx_c9 dX9_sign_2 wf_X9_84 (j := 0) (by decide) rfl rfl rfl hb (Nat.le_of_ble_eq_true rfl) (xx_gu fun Eq1 zq1 hbq1 oq1 => ?_)
  have hbq1 : Eq1.2 b = xx_o 9 (xx_mf b (.int 0) (.int (nI m)) (.int (nI n)) hr st hl en tu) := hbq1
  refine xx_aload_n dX9_sign_5 rfl ?_
  refine xx_get xx_c9 dX9_sign_6 wf_X9_17 (j := 3) (by decide) hbq1 rfl ?_
  refine xx_bipush (v := 16) dX9_sign_9 (by decide) ?_
  refine xx_iald dX9_sign_11 ((oq1 (b + 3) (by omega)).trans h1) (by unfold vp_in; decide) ?_
  refine xx_eqi (y := iz (N 16).sign) (h2 16 (by decide)) ?_
  exact xx_iret dX9_sign_12 rfl ⟨rfl, zq1, hbq1, oq1⟩
