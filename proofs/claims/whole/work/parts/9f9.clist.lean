/-! ===== list, index, load for an entry ===== -/
set_option maxRecDepth 100000 in
theorem c_X8_list {G : xx_G} {l : Launch} {A : xx_H} {b z m n : Nat} {u6 u7 : Value} {fc : Nat → Int32} {W : Nat → Nat → Nat → Int} {le : Nat → Int} {mu : Nat → Nat} {E : Nat → Nat → Bool} {u10 : Value} (hb : A.2 b = xx_o 8 [.ref (b + 1), .ref (b + 2), .ref (b + 11), .ref (b + 18), .ref (b + 19), .ref (b + 226), u6, u7, .ref z, .ref (b + 230), u10, .int 0, .ref (b + 233), .ref (b + 266), .ref (b + 279), .ref (b + 281), .ref (b + 283), .ref (b + 288)]) (hc : A.2 (b + 1) = xx_i 2 fc) (hc2 : ∀ p, p < 2 → fc p = nI (yy_cn m n p)) (hg : yg_ok m n W le) (P : xx_pys A b m n W le mu) (hz : b + 297 ≤ z) (hE : ∀ S, S < 2 ^ m → ∀ U, U < 2 ^ n → yb_c U = yb_c S → (E S U = true ↔ yk_h (yn_a W le 0) m S U ∧ yk_h (yn_a W le 1) n U S)) (M9 : xx_mns A z b yk_H0 yk_H0) (En : xx_ent A b yn_0) : xx_X G l mX8_list 7 13 11326 0 (lv_args 0 [.ref b]) [] A (fun q9 B => q9 = .inl (some (.int (nI (yn_all E m n yn_0 (if n < m then n else m)).1))) ∧ B.1 = A.1 ∧ B.2 b = xx_o 8 [.ref (b + 1), .ref (b + 2), .ref (b + 11), .ref (b + 18), .ref (b + 19), .ref (b + 226), u6, u7, .ref z, .ref (b + 230), .int (nI ((yn_all E m n yn_0 (if n < m then n else m)).1)), .int 1, .ref (b + 233), .ref (b + 266), .ref (b + 279), .ref (b + 281), .ref (b + 283), .ref (b + 288)] ∧ xx_mns B z b (yk_H (yn_a W le 0) m n) (yk_H (yn_a W le 1) n m) ∧ xx_ent B b (yn_all E m n yn_0 (if n < m then n else m)) ∧ ∀ q, q ≠ b → q ≠ b + 231 → q ≠ b + 232 → (q < z ∨ z + 13 ≤ q) → B.2 q = A.2 q) := by
  have hm1 := hg.1
  have hm := hg.2.1
  have hn1 := hg.2.2.1
  have hn := hg.2.2.2.1
  have mw := yk_pw hm
  have nw := yk_pw hn
  have m1 : 1 ≤ 2 ^ m := Nat.two_pow_pos m
  refine xx_clv (lv2 := [(0, .ref b)]) rfl ?_
  refine xx_aload_n dX8_list_0 rfl ?_
  refine xx_callV (N := mX8_needGame) (vs := []) (b := b) (rest := []) (d2 := 6) (c2 := 0) (s2 := 0) (c3 := 13) (s3 := 11326) dX8_list_1 wm_X8_118 wi_X8_needGame wv_X8_needGame (k := 8) rfl (by decide) hb nX8_needGame ⟨pX8_needGame, Nat.le_of_ble_eq_true rfl, by decide, Nat.le_of_ble_eq_true rfl, by decide, by decide⟩ (c_X8_needGame hb hc hc2 hm1 hm) (fun v9 B9 hC => ?_) (fun E9 B9 hC => absurd hC.1 (by simp))
  obtain ⟨hv9, e9⟩ := hC
  cases hv9
  rw [e9]
  refine xx_cst (st2 := []) rfl ?_
  refine xx_aload_n dX8_list_4 rfl ?_
  refine xx_get xx_c8 dX8_list_5 wf_X8_59 (j := 11) (by decide) hb rfl ?_
  refine xx_if_ne (tgt := 15) dX8_list_8 (by decide) (fun h => absurd rfl h) (fun j8 => ?_)
  refine xx_aload_n dX8_list_11 rfl ?_
  refine xx_callV (N := mX8_makeList) (vs := []) (b := b) (rest := []) (d2 := 5) (c2 := 13) (s2 := 11326) (c3 := 0) (s3 := 0) dX8_list_12 wm_X8_161 wi_X8_makeList wv_X8_makeList (k := 8) rfl (by decide) hb nX8_makeList ⟨pX8_makeList, Nat.le_of_ble_eq_true rfl, by decide, Nat.le_of_ble_eq_true rfl, by decide, by decide⟩ (c_X8_makeList hb hc hc2 hg P hz hE M9 En) (fun v9 Eq1 hC => ?_) (fun E9 B9 hC => absurd hC.1 (by simp))
  obtain ⟨hv9, k1, k2, k3, k4, k5⟩ := hC
  cases hv9
  refine xx_cst (st2 := []) rfl ?_
  refine xx_aload_n dX8_list_15 rfl ?_
  refine xx_get xx_c8 dX8_list_16 wf_X8_56 (j := 10) (by decide) k2 rfl ?_
  exact xx_iret dX8_list_19 rfl ⟨rfl, k1, k2, k3, k4, k5⟩
set_option maxRecDepth 100000 in
theorem c_X8_listN {G : xx_G} {l : Launch} {A : xx_H} {b m n : Nat} {u6 u7 : Value} {fc : Nat → Int32} {W : Nat → Nat → Nat → Int} {le : Nat → Int} {mu : Nat → Nat} {E : Nat → Nat → Bool} {u10 : Value} (hb : A.2 b = xx_o 8 [.ref (b + 1), .ref (b + 2), .ref (b + 11), .ref (b + 18), .ref (b + 19), .ref (b + 226), u6, u7, .null, .ref (b + 230), u10, .int 0, .ref (b + 233), .ref (b + 266), .ref (b + 279), .ref (b + 281), .ref (b + 283), .ref (b + 288)]) (hc : A.2 (b + 1) = xx_i 2 fc) (hc2 : ∀ p, p < 2 → fc p = nI (yy_cn m n p)) (hg : yg_ok m n W le) (P : xx_pys A b m n W le mu) (hz : b + 297 ≤ A.1) (hE : ∀ S, S < 2 ^ m → ∀ U, U < 2 ^ n → yb_c U = yb_c S → (E S U = true ↔ yk_h (yn_a W le 0) m S U ∧ yk_h (yn_a W le 1) n U S)) (En : xx_ent A b yn_0) : xx_X G l mX8_list 7 13 11326 0 (lv_args 0 [.ref b]) [] A (fun q9 B => q9 = .inl (some (.int (nI (yn_all E m n yn_0 (if n < m then n else m)).1))) ∧ B.1 = A.1 + 13 ∧ B.2 b = xx_o 8 [.ref (b + 1), .ref (b + 2), .ref (b + 11), .ref (b + 18), .ref (b + 19), .ref (b + 226), u6, u7, .ref A.1, .ref (b + 230), .int (nI ((yn_all E m n yn_0 (if n < m then n else m)).1)), .int 1, .ref (b + 233), .ref (b + 266), .ref (b + 279), .ref (b + 281), .ref (b + 283), .ref (b + 288)] ∧ xx_mns B A.1 b (yk_H (yn_a W le 0) m n) (yk_H (yn_a W le 1) n m) ∧ xx_ent B b (yn_all E m n yn_0 (if n < m then n else m)) ∧ ∀ q, q ≠ b → q ≠ b + 231 → q ≠ b + 232 → q < A.1 → B.2 q = A.2 q) := by
  have hm1 := hg.1
  have hm := hg.2.1
  have hn1 := hg.2.2.1
  have hn := hg.2.2.2.1
  have mw := yk_pw hm
  have nw := yk_pw hn
  have m1 : 1 ≤ 2 ^ m := Nat.two_pow_pos m
  refine xx_clv (lv2 := [(0, .ref b)]) rfl ?_
  refine xx_aload_n dX8_list_0 rfl ?_
  refine xx_callV (N := mX8_needGame) (vs := []) (b := b) (rest := []) (d2 := 6) (c2 := 0) (s2 := 0) (c3 := 13) (s3 := 11326) dX8_list_1 wm_X8_118 wi_X8_needGame wv_X8_needGame (k := 8) rfl (by decide) hb nX8_needGame ⟨pX8_needGame, Nat.le_of_ble_eq_true rfl, by decide, Nat.le_of_ble_eq_true rfl, by decide, by decide⟩ (c_X8_needGame hb hc hc2 hm1 hm) (fun v9 B9 hC => ?_) (fun E9 B9 hC => absurd hC.1 (by simp))
  obtain ⟨hv9, e9⟩ := hC
  cases hv9
  rw [e9]
  refine xx_cst (st2 := []) rfl ?_
  refine xx_aload_n dX8_list_4 rfl ?_
  refine xx_get xx_c8 dX8_list_5 wf_X8_59 (j := 11) (by decide) hb rfl ?_
  refine xx_if_ne (tgt := 15) dX8_list_8 (by decide) (fun h => absurd rfl h) (fun j8 => ?_)
  refine xx_aload_n dX8_list_11 rfl ?_
  refine xx_callV (N := mX8_makeList) (vs := []) (b := b) (rest := []) (d2 := 5) (c2 := 13) (s2 := 11326) (c3 := 0) (s3 := 0) dX8_list_12 wm_X8_161 wi_X8_makeList wv_X8_makeList (k := 8) rfl (by decide) hb nX8_makeList ⟨pX8_makeList, Nat.le_of_ble_eq_true rfl, by decide, Nat.le_of_ble_eq_true rfl, by decide, by decide⟩ (c_X8_makeListN hb hc hc2 hg P hz hE En) (fun v9 Eq1 hC => ?_) (fun E9 B9 hC => absurd hC.1 (by simp))
  obtain ⟨hv9, k1, k2, k3, k4, k5⟩ := hC
  cases hv9
  refine xx_cst (st2 := []) rfl ?_
  refine xx_aload_n dX8_list_15 rfl ?_
  refine xx_get xx_c8 dX8_list_16 wf_X8_56 (j := 10) (by decide) k2 rfl ?_
  exact xx_iret dX8_list_19 rfl ⟨rfl, k1, k2, k3, k4, k5⟩
set_option maxRecDepth 100000 in
theorem c_X8_list1 {G : xx_G} {l : Launch} {A : xx_H} {b m n c9 : Nat} {u6 u7 u8 : Value} {fc : Nat → Int32} (hb : A.2 b = xx_o 8 [.ref (b + 1), .ref (b + 2), .ref (b + 11), .ref (b + 18), .ref (b + 19), .ref (b + 226), u6, u7, u8, .ref (b + 230), .int (nI c9), .int 1, .ref (b + 233), .ref (b + 266), .ref (b + 279), .ref (b + 281), .ref (b + 283), .ref (b + 288)]) (hc : A.2 (b + 1) = xx_i 2 fc) (hc2 : ∀ p, p < 2 → fc p = nI (yy_cn m n p)) (hm1 : 1 ≤ m) (hm : m ≤ 6) : xx_X G l mX8_list 7 0 0 0 (lv_args 0 [.ref b]) [] A (fun q9 B => q9 = .inl (some (.int (nI c9))) ∧ B = A) := by
  refine xx_clv (lv2 := [(0, .ref b)]) rfl ?_
  refine xx_aload_n dX8_list_0 rfl ?_
  refine xx_callV (N := mX8_needGame) (vs := []) (b := b) (rest := []) (d2 := 6) (c2 := 0) (s2 := 0) (c3 := 0) (s3 := 0) dX8_list_1 wm_X8_118 wi_X8_needGame wv_X8_needGame (k := 8) rfl (by decide) hb nX8_needGame ⟨pX8_needGame, Nat.le_of_ble_eq_true rfl, by decide, Nat.le_of_ble_eq_true rfl, by decide, by decide⟩ (c_X8_needGame hb hc hc2 hm1 hm) (fun v9 B9 hC => ?_) (fun E9 B9 hC => absurd hC.1 (by simp))
  obtain ⟨hv9, e9⟩ := hC
  cases hv9
  refine xx_cst (st2 := []) rfl ?_
  rw [e9]
  refine xx_aload_n dX8_list_4 rfl ?_
  refine xx_get xx_c8 dX8_list_5 wf_X8_59 (j := 11) (by decide) hb rfl ?_
  refine xx_if_ne (tgt := 15) dX8_list_8 (by decide) (fun j8 => ?_) (fun h => absurd h (by decide))
  refine xx_aload_n dX8_list_15 rfl ?_
  refine xx_get xx_c8 dX8_list_16 wf_X8_56 (j := 10) (by decide) hb rfl ?_
  exact xx_iret dX8_list_19 rfl ⟨rfl, rfl⟩
def yn_ix (a c : Nat → Nat → Int) (S U : Nat) : Int := if yb_c S % 2 = 0 then -((yk_m a S U).sign * (yk_m c U S).sign) else (yk_m a S U).sign * (yk_m c U S).sign
theorem yn_rem : ∀ c, c < 7 → nI c - nI c / 2 * 2 = nI (c % 2) := by decide +kernel
theorem yn_neg {x y : Int} : -(iz x.sign * iz y.sign) = iz (-(x.sign * y.sign)) := by
  rcases Int.lt_trichotomy x 0 with h | h | h <;> rcases Int.lt_trichotomy y 0 with k | k | k <;> simp [h, k, Int.sign_eq_neg_one_of_neg, Int.sign_eq_one_of_pos] <;> decide
set_option maxRecDepth 100000 in
theorem c_X8_index {G : xx_G} {l : Launch} {A : xx_H} {b z m n : Nat} {u6 u7 : Value} {W : Nat → Nat → Nat → Int} {le : Nat → Int} {E : Nat → Nat → Bool} {st : yn_S} {x : Int32} (hb : A.2 b = xx_o 8 [.ref (b + 1), .ref (b + 2), .ref (b + 11), .ref (b + 18), .ref (b + 19), .ref (b + 226), u6, u7, .ref z, .ref (b + 230), .int (nI st.1), .int 1, .ref (b + 233), .ref (b + 266), .ref (b + 279), .ref (b + 281), .ref (b + 283), .ref (b + 288)]) (hg : yg_ok m n W le) (M9 : xx_mns A z b (yk_H (yn_a W le 0) m n) (yk_H (yn_a W le 1) n m)) (En : xx_ent A b st) (hok : yn_ok m n E st) : xx_X G l mX8_index 6 1 6 0 (lv_args 0 [.ref b, .int x]) [] A (fun q9 B => (∃ e, e < st.1 ∧ x = nI e ∧ q9 = .inl (some (.int (iz (yn_ix (yn_a W le 0) (yn_a W le 1) (st.2.1 e) (st.2.2 e))))) ∧ B = A) ∨ ((∀ e, e < st.1 → x ≠ nI e) ∧ q9 = .inr R_ise ∧ A.1 ≤ B.1 ∧ B.2 = A.2)) := by
  have hm1 := hg.1
  have hm := hg.2.1
  have hn1 := hg.2.2.1
  have hn := hg.2.2.2.1
  have mw := yk_pw hm
  have nw := yk_pw hn
  have c100 := hok.1
  obtain ⟨⟨hm9, mA, mB, mC⟩, H0, H1⟩ := id M9
  obtain ⟨⟨he9, eA, eB, eC⟩, ⟨f0, eD, eF⟩, ⟨f1, eG, eH⟩⟩ := id En
  have ab0 : ∀ i, i < m → ∀ j, j < n → (yn_a W le 0 i j).natAbs ≤ 554344561 := fun i hi j hj => (yn_a_b hg (p := 0) (by decide) i hi j hj).2
  have ab1 : ∀ i, i < n → ∀ j, j < m → (yn_a W le 1 i j).natAbs ≤ 554344561 := fun i hi j hj => (yn_a_b hg (p := 1) (by decide) i hi j hj).2
  refine xx_clv (lv2 := [(0, .ref b), (1, .int x)]) rfl ?_
  refine xx_aload_n dX8_index_0 rfl ?_
  refine xx_get xx_c8 dX8_index_1 wf_X8_59 (j := 11) (by decide) hb rfl ?_
  refine xx_if_eq (tgt := 26) dX8_index_4 (by decide) (fun h => absurd h (by decide)) (fun j4 => ?_)
  refine xx_aload_n dX8_index_7 rfl ?_
  refine xx_get xx_c8 dX8_index_8 wf_X8_49 (j := 8) (by decide) hb rfl ?_
  refine xx_ifnull dX8_index_11 ?_
  refine xx_iload_n dX8_index_14 rfl ?_
  refine xx_if_lt (tgt := 26) dX8_index_15 (by decide) (fun j15 => ?_) (fun j15 => ?_)
  · exact xx_throwS xx_thw_ise (List.mem_of_getElem? (i := 11) rfl) rfl dX8_index_26 dX8_index_29 dX8_index_30 dX8_index_32 dX8_index_35 (by decide) (by decide) (fun n9 hn9 => Or.inr ⟨fun e he z => absurd j15 (by rw [z]; exact nI_pos (by omega)), rfl, hn9, rfl⟩)
  · obtain ⟨e, hxe, ee⟩ := nI_of j15
    subst ee
    refine xx_iload_n dX8_index_18 rfl ?_
    refine xx_aload_n dX8_index_19 rfl ?_
    refine xx_get xx_c8 dX8_index_20 wf_X8_56 (j := 10) (by decide) hb rfl ?_
    refine xx_icmp_lt (tgt := 36) dX8_index_23 (by decide) (fun j23 => ?_) (fun j23 => ?_)
    · have j23 : e < st.1 := (nI_ltI (a := e) (b := st.1) (by omega) (by omega)).mp j23
      obtain ⟨o1, o2, o3, o4, o5⟩ := hok.2 e j23
      have o1b : st.2.1 e < 64 := by omega
      have o2b : st.2.2 e < 64 := by omega
      have c6 := yb_c6 _ o1b
      refine xx_aload_n dX8_index_36 rfl ?_
      refine xx_get xx_c8 dX8_index_37 wf_X8_53 (j := 9) (by decide) hb rfl ?_
      refine xx_iconst (v := 0) dX8_index_40 (by decide) ?_
      refine xx_aald (kd := 5) (b := b + 231) dX8_index_41 (by decide) rfl eA (by unfold vp_in; decide) (eB) ?_
      refine xx_iload_n dX8_index_42 rfl ?_
      refine xx_iald dX8_index_43 eD (vp_in_nI (by omega) (by decide)) ?_
      refine xx_eqi (y := nI (st.2.1 e)) (by rw [nI_clamp (by omega)]; exact eF e j23) ?_
      refine xx_istore_n dX8_index_44 (by decide) ?_
      refine xx_clv (lv2 := [(0, .ref b), (1, .int (nI e)), (2, .int (nI (st.2.1 e)))]) rfl ?_
      refine xx_aload_n dX8_index_45 rfl ?_
      refine xx_get xx_c8 dX8_index_46 wf_X8_53 (j := 9) (by decide) hb rfl ?_
      refine xx_iconst (v := 1) dX8_index_49 (by decide) ?_
      refine xx_aald (kd := 5) (b := b + 232) dX8_index_50 (by decide) rfl eA (by unfold vp_in; decide) (eC) ?_
      refine xx_iload_n dX8_index_51 rfl ?_
      refine xx_iald dX8_index_52 eG (vp_in_nI (by omega) (by decide)) ?_
      refine xx_eqi (y := nI (st.2.2 e)) (by rw [nI_clamp (by omega)]; exact eH e j23) ?_
      refine xx_istore_n dX8_index_53 (by decide) ?_
      refine xx_clv (lv2 := [(0, .ref b), (1, .int (nI e)), (2, .int (nI (st.2.1 e))), (3, .int (nI (st.2.2 e)))]) rfl ?_
      refine xx_aload_n dX8_index_54 rfl ?_
      refine xx_get xx_c8 dX8_index_55 wf_X8_49 (j := 8) (by decide) hb rfl ?_
      refine xx_iconst (v := 0) dX8_index_58 (by decide) ?_
      refine xx_aald (kd := 13) (b := z + 1) dX8_index_59 (by decide) rfl mA (by unfold vp_in; decide) (mB) ?_
      refine xx_iload_n dX8_index_60 rfl ?_
      refine xx_iload_n dX8_index_61 rfl ?_
      refine xx_callV (N := mX3_signOf) (vs := [.int (nI (st.2.1 e)), .int (nI (st.2.2 e))]) (b := (z + 1)) (rest := []) (d2 := 2) (c2 := 0) (s2 := 0) (c3 := 0) (s3 := 0) dX8_index_62 wm_X8_238 wi_X3_signOf wv_X3_signOf (k := 3) rfl (by decide) H0.1 nX3_signOf ⟨pX3_signOf, Nat.le_of_ble_eq_true rfl, by decide, Nat.le_of_ble_eq_true rfl, by decide, by decide⟩ (c_X3_signOf H0 hm hn o1 o2 o3 ab0) (fun v9 B9 hC => ?_) (fun E9 B9 hC => absurd hC.1 (by simp))
      obtain ⟨hv9, e9⟩ := hC
      cases hv9
      refine xx_cst (st2 := [.int (iz (yk_m (yn_a W le 0) (st.2.1 e) (st.2.2 e)).sign)]) rfl ?_
      rw [e9]
      refine xx_aload_n dX8_index_65 rfl ?_
      refine xx_get xx_c8 dX8_index_66 wf_X8_49 (j := 8) (by decide) hb rfl ?_
      refine xx_iconst (v := 1) dX8_index_69 (by decide) ?_
      refine xx_aald (kd := 13) (b := z + 7) dX8_index_70 (by decide) rfl mA (by unfold vp_in; decide) (mC) ?_
      refine xx_iload_n dX8_index_71 rfl ?_
      refine xx_iload_n dX8_index_72 rfl ?_
      refine xx_callV (N := mX3_signOf) (vs := [.int (nI (st.2.2 e)), .int (nI (st.2.1 e))]) (b := (z + 7)) (rest := [.int (iz (yk_m (yn_a W le 0) (st.2.1 e) (st.2.2 e)).sign)]) (d2 := 2) (c2 := 0) (s2 := 0) (c3 := 0) (s3 := 0) dX8_index_73 wm_X8_238 wi_X3_signOf wv_X3_signOf (k := 3) rfl (by decide) H1.1 nX3_signOf ⟨pX3_signOf, Nat.le_of_ble_eq_true rfl, by decide, Nat.le_of_ble_eq_true rfl, by decide, by decide⟩ (c_X3_signOf H1 hn hm o2 o1 o3.symm ab1) (fun v9 B9 hC => ?_) (fun E9 B9 hC => absurd hC.1 (by simp))
      obtain ⟨hv9, e9⟩ := hC
      cases hv9
      refine xx_cst (st2 := [.int (iz (yk_m (yn_a W le 1) (st.2.2 e) (st.2.1 e)).sign), .int (iz (yk_m (yn_a W le 0) (st.2.1 e) (st.2.2 e)).sign)]) rfl ?_
      rw [e9]
      refine xx_imul dX8_index_76 ?_
      refine xx_istore dX8_index_77 (by decide) ?_
      refine xx_clv (lv2 := [(0, .ref b), (1, .int (nI e)), (2, .int (nI (st.2.1 e))), (3, .int (nI (st.2.2 e))), (4, .int (((iz (yk_m (yn_a W le 0) (st.2.1 e) (st.2.2 e)).sign)) * ((iz (yk_m (yn_a W le 1) (st.2.2 e) (st.2.1 e)).sign))))]) rfl ?_
      refine xx_iload_n dX8_index_79 rfl ?_
      refine xx_callS (N := mJ6_bitCount) (vs := [.int (nI (st.2.1 e))]) (rest := []) (d2 := 0) (c2 := 0) (s2 := 0) (c3 := 0) (s3 := 0) dX8_index_80 wm_X8_244 ws_J6_bitCount wz_J6 (by decide) nJ6_bitCount ⟨pJ6_bitCount, Nat.le_of_ble_eq_true rfl, by decide, Nat.le_of_ble_eq_true rfl, by decide, by decide⟩ (c_J6_bitCount o1b) (fun v9 B9 hC => ?_) (fun E9 B9 hC => absurd hC.1 (by simp))
      obtain ⟨hv9, e9⟩ := hC
      cases hv9
      refine xx_cst (st2 := [.int (nI (yb_c (st.2.1 e)))]) rfl ?_
      rw [e9]
      refine xx_iconst (v := 2) dX8_index_83 (by decide) ?_
      refine xx_irem dX8_index_84 (by decide) ?_
      refine xx_eqi (y := nI (yb_c (st.2.1 e) % 2)) (yn_rem _ (by omega)) ?_
      refine xx_if_ne (tgt := 94) dX8_index_85 (by decide) (fun j85 => ?_) (fun j85 => ?_)
      · have j85 : ¬ yb_c (st.2.1 e) % 2 = 0 := fun hq9 => j85 ((nI_eq (a := yb_c (st.2.1 e) % 2) (b := 0) (by omega) (by omega)).mpr hq9)
        refine xx_iload dX8_index_94 rfl ?_
        refine xx_iret dX8_index_96 rfl (Or.inl ⟨e, j23, rfl, ?_, rfl⟩)
        rw [iz_mul]
        unfold yn_ix
        rw [if_neg j85]
      · have j85 : yb_c (st.2.1 e) % 2 = 0 := (nI_eq (a := yb_c (st.2.1 e) % 2) (b := 0) (by omega) (by omega)).mp j85
        refine xx_iload dX8_index_88 rfl ?_
        refine xx_ineg dX8_index_90 ?_
        refine xx_goto (tgt := 96) dX8_index_91 (by decide) ?_
        refine xx_iret dX8_index_96 rfl (Or.inl ⟨e, j23, rfl, ?_, rfl⟩)
        rw [yn_neg]
        unfold yn_ix
        rw [if_pos (by omega)]
    · have j23 : ¬ e < st.1 := fun hq9 => j23 ((nI_ltI (a := e) (b := st.1) (by omega) (by omega)).mpr hq9)
      exact xx_throwS xx_thw_ise (List.mem_of_getElem? (i := 11) rfl) rfl dX8_index_26 dX8_index_29 dX8_index_30 dX8_index_32 dX8_index_35 (by decide) (by decide) (fun n9 hn9 => Or.inr ⟨fun e2 he z => by have := nI_inj2 (a := e) (c := e2) (by omega) (by omega) z; omega, rfl, hn9, rfl⟩)
def yn_w (a : Nat → Nat → Int) (S U k : Nat) : Int := if Nat.testBit U k = true then ((yk_n a S U (yk_x U k)).natAbs : Int) else 0
theorem yn_w_b {m n : Nat} {W : Nat → Nat → Nat → Int} {le : Nat → Int} {E : Nat → Nat → Bool} {st : yn_S} {e p : Nat} (hg : yg_ok m n W le) (hok : yn_ok m n E st) (he : e < st.1) (hp : p < 2) : ∀ k, k < 6 → (yn_w (yn_a W le (1 - p)) (if p = 0 then st.2.2 e else st.2.1 e) (if p = 0 then st.2.1 e else st.2.2 e) k).natAbs < 2 ^ 160 := by
  intro k hk
  obtain ⟨o1, o2, o3, o4, o5⟩ := hok.2 e he
  have hm := hg.2.1
  have hn := hg.2.2.2.1
  have mw := yk_pw hm
  have nw := yk_pw hn
  unfold yn_w
  by_cases z : Nat.testBit (if p = 0 then st.2.1 e else st.2.2 e) k = true
  · rw [if_pos z, Int.natAbs_natCast]
    rcases (show p = 0 ∨ p = 1 by omega) with y | y
    · subst y
      rw [if_pos rfl] at z
      rw [if_pos rfl, if_pos rfl]
      refine yk_nb (S := st.2.2 e) (T := st.2.1 e) (by omega) (by omega) o3.symm ?_ hn hm o2 o1 (fun i hi j hj => (yn_a_b hg (p := 1) (by decide) i hi j hj).2)
      exact yk_xl _ (by omega) k hk z
    · subst y
      rw [if_neg (by decide)] at z
      rw [if_neg (by decide), if_neg (by decide)]
      refine yk_nb (S := st.2.1 e) (T := st.2.2 e) (by omega) (by omega) o3 ?_ hm hn o1 o2 (fun i hi j hj => (yn_a_b hg (p := 0) (by decide) i hi j hj).2)
      exact yk_xl _ (by omega) k hk z
  · rw [if_neg z]; decide
set_option maxRecDepth 100000 in
theorem c_X8_load_l {G : xx_G} {l : Launch} {A : xx_H} {b m n : Nat} {u6 u7 u10 u11 : Value} {X : Nat → Nat → Int} {t V : Nat → Int} {o u w : Int} {W : Nat → Nat → Nat → Int} {le : Nat → Int} {E : Nat → Nat → Bool} {st : yn_S} {z e : Nat} (hb : A.2 b = xx_o 8 [.ref (b + 1), .ref (b + 2), .ref (b + 11), .ref (b + 18), .ref (b + 19), .ref (b + 226), u6, u7, .ref z, .ref (b + 230), u10, u11, .ref (b + 233), .ref (b + 266), .ref (b + 279), .ref (b + 281), .ref (b + 283), .ref (b + 288)]) (hg : yg_ok m n W le) (M9 : xx_mns A z b (yk_H (yn_a W le 0) m n) (yk_H (yn_a W le 1) n m)) (En : xx_ent A b st) (hok : yn_ok m n E st) (he : e < st.1) (hz : b + 297 ≤ z) (hk : xx_wk A b X t V o u w) : xx_X G l mX8_load 5 0 0 0 (lv_args 0 [.ref b, .int (nI e)]) [] A (fun z9 B => z9 = .inl none ∧ B.1 = A.1 ∧ xx_wk B b (fun p k => yn_w (yn_a W le (1 - p)) (if p = 0 then st.2.2 e else st.2.1 e) (if p = 0 then st.2.1 e else st.2.2 e) k) (fun p => yd_s 6 (fun k => yn_w (yn_a W le (1 - p)) (if p = 0 then st.2.2 e else st.2.1 e) (if p = 0 then st.2.1 e else st.2.2 e) k)) V o u w ∧ ∀ q, (q < b + 234 ∨ b + 266 ≤ q) → q ≠ z + 4 → q ≠ z + 10 → B.2 q = A.2 q) := by
  obtain ⟨⟨hs, k1, k2⟩, k3, _⟩ := id hk
  have hm1 := hg.1
  have hm := hg.2.1
  have hn1 := hg.2.2.1
  have hn := hg.2.2.2.1
  have mw := yk_pw hm
  have nw := yk_pw hn
  have c100 := hok.1
  obtain ⟨⟨hm9, mA, mB, mC⟩, H0, H1⟩ := id M9
  obtain ⟨⟨he9, eA, eB, eC⟩, ⟨f0, eD, eF⟩, ⟨f1, eG, eH⟩⟩ := id En
  have ab0 : ∀ i, i < m → ∀ j, j < n → (yn_a W le 0 i j).natAbs ≤ 554344561 := fun i hi j hj => (yn_a_b hg (p := 0) (by decide) i hi j hj).2
  have ab1 : ∀ i, i < n → ∀ j, j < m → (yn_a W le 1 i j).natAbs ≤ 554344561 := fun i hi j hj => (yn_a_b hg (p := 1) (by decide) i hi j hj).2
  obtain ⟨o1, o2, o3, o4, o5⟩ := hok.2 e he
  have bw : ∀ p, p < 2 → ∀ k, k < 6 → (yn_w (yn_a W le (1 - p)) (if p = 0 then st.2.2 e else st.2.1 e) (if p = 0 then st.2.1 e else st.2.2 e) k).natAbs < 2 ^ 400 := fun p hp k hk => Nat.lt_trans (yn_w_b hg hok he hp k hk) (by decide +kernel)
  refine xx_clv (lv2 := [(0, .ref b), (1, .int (nI e))]) rfl ?_
  refine xx_iconst (v := 0) dX8_load_0 (by decide) ?_
  refine xx_istore_n dX8_load_1 (by decide) ?_
  refine xx_clv (lv2 := [(0, .ref b), (1, .int (nI e)), (2, .int 0)]) rfl ?_
  refine xx_iload_n dX8_load_2 rfl ?_
  refine xx_iconst (v := 2) dX8_load_3 (by decide) ?_
  refine xx_icmp_ge (tgt := 132) dX8_load_4 (by decide) (fun h => absurd h (by decide)) (fun j4 => ?_)
  refine xx_aload_n dX8_load_7 rfl ?_
  refine xx_get xx_c8 dX8_load_8 wf_X8_66 (j := 12) (by decide) hb rfl ?_
  refine xx_iload_n dX8_load_11 rfl ?_
  refine xx_aald (kd := 17) (b := b + 234) dX8_load_12 (by decide) rfl k1 (by unfold vp_in; decide) (k2 0 (by decide)) ?_
  refine xx_astore_n dX8_load_13 (by decide) ?_
  refine xx_clv (lv2 := [(0, .ref b), (1, .int (nI e)), (2, .int 0), (3, .ref (b + 234))]) rfl ?_
  refine xx_aload_n dX8_load_14 rfl ?_
  have w1 : xx_wt A (b + 234) (X 0) (t 0) := (k3 0 (by decide))
  refine xx_callV (N := mX7_clear) (vs := []) (b := (b + 234)) (rest := []) (d2 := 2) (c2 := 0) (s2 := 0) (c3 := 0) (s3 := 0) dX8_load_15 wm_X8_292 wi_X7_clear wv_X7_clear (k := 7) rfl (by decide) w1.1 nX7_clear ⟨pX7_clear, Nat.le_of_ble_eq_true rfl, by decide, Nat.le_of_ble_eq_true rfl, by decide, by decide⟩ (c_X7_clear w1) (fun v9 E1 hC => ?_) (fun E9 B9 hC => absurd hC.1 (by simp))
  obtain ⟨hv9, z1, v1, fr1⟩ := hC
  cases hv9
  refine xx_cst (st2 := []) rfl ?_
  have hb1 := ((fr1 _ (by omega)).trans hb)
  refine xx_iload_n dX8_load_18 rfl ?_
  refine xx_bipush (v := (-2)) dX8_load_19 (by decide) ?_
  refine xx_icmp_ne (tgt := 37) dX8_load_21 (by decide) (fun j21 => ?_) (fun h => absurd h (ys_ng e (by omega)).1)
  refine xx_iload_n dX8_load_37 rfl ?_
  refine xx_iconst (v := (-1)) dX8_load_38 (by decide) ?_
  refine xx_icmp_ne (tgt := 75) dX8_load_39 (by decide) (fun j39 => ?_) (fun h => absurd h (ys_ng e (by omega)).2)
  refine xx_aload_n dX8_load_75 rfl ?_
  refine xx_get xx_c8 dX8_load_76 wf_X8_49 (j := 8) (by decide) hb1 rfl ?_
  refine xx_ifnull dX8_load_79 ?_
  refine xx_iload_n dX8_load_82 rfl ?_
  refine xx_if_lt (tgt := 122) dX8_load_83 (by decide) (fun h => absurd h (nI_pos (by omega))) (fun j83 => ?_)
  refine xx_iload_n dX8_load_86 rfl ?_
  refine xx_bipush (v := 100) dX8_load_87 (by decide) ?_
  refine xx_icmp_ge (tgt := 122) dX8_load_89 (by decide) (fun h => absurd h (nI_ge (a := e) (b := 100) (by omega) (by omega))) (fun j89 => ?_)
  refine xx_aload_n dX8_load_92 rfl ?_
  refine xx_get xx_c8 dX8_load_93 wf_X8_49 (j := 8) (by decide) hb1 rfl ?_
  refine xx_iconst (v := 1) dX8_load_96 (by decide) ?_
  refine xx_iload_n dX8_load_97 rfl ?_
  refine xx_isub dX8_load_98 ?_
  refine xx_eqi (y := 1) (by decide) ?_
  refine xx_aald (kd := 13) (b := z + 7) dX8_load_99 (by decide) rfl ((fr1 _ (by omega)).trans mA) (by unfold vp_in; decide) (mC) ?_
  refine xx_aload_n dX8_load_100 rfl ?_
  refine xx_get xx_c8 dX8_load_101 wf_X8_53 (j := 9) (by decide) hb1 rfl ?_
  refine xx_iconst (v := 1) dX8_load_104 (by decide) ?_
  refine xx_iload_n dX8_load_105 rfl ?_
  refine xx_isub dX8_load_106 ?_
  refine xx_eqi (y := 1) (by decide) ?_
  refine xx_aald (kd := 5) (b := b + 232) dX8_load_107 (by decide) rfl ((fr1 _ (by omega)).trans eA) (by unfold vp_in; decide) (eC) ?_
  refine xx_iload_n dX8_load_108 rfl ?_
  refine xx_iald dX8_load_109 ((fr1 _ (by omega)).trans eG) (vp_in_nI (by omega) (by decide)) ?_
  refine xx_eqi (y := nI (st.2.2 e)) (by rw [nI_clamp (by omega)]; exact eH e he) ?_
  refine xx_aload_n dX8_load_110 rfl ?_
  refine xx_get xx_c8 dX8_load_111 wf_X8_53 (j := 9) (by decide) hb1 rfl ?_
  refine xx_iload_n dX8_load_114 rfl ?_
  refine xx_aald (kd := 5) (b := b + 231) dX8_load_115 (by decide) rfl ((fr1 _ (by omega)).trans eA) (by unfold vp_in; decide) (eB) ?_
  refine xx_iload_n dX8_load_116 rfl ?_
  refine xx_iald dX8_load_117 ((fr1 _ (by omega)).trans eD) (vp_in_nI (by omega) (by decide)) ?_
  refine xx_eqi (y := nI (st.2.1 e)) (by rw [nI_clamp (by omega)]; exact eF e he) ?_
  refine xx_aload_n dX8_load_118 rfl ?_
  have l2 := (H1.to (fun q9 a9 b9 => fr1 q9 (by omega)))
  refine xx_callV (N := mX3_read) (vs := [.int (nI (st.2.2 e)), .int (nI (st.2.1 e)), .ref (b + 234)]) (b := (z + 7)) (rest := []) (d2 := 3) (c2 := 0) (s2 := 0) (c3 := 0) (s3 := 0) dX8_load_119 wm_X8_300 wi_X3_read wv_X3_read (k := 3) rfl (by decide) l2.1 nX3_read ⟨pX3_read, Nat.le_of_ble_eq_true rfl, by decide, Nat.le_of_ble_eq_true rfl, by decide, by decide⟩ (c_X3_read l2 hn hm o2 o1 o3.symm ab1 (by omega) v1 (fun _ _ => rfl)) (fun v9 E2 hC => ?_) (fun E9 B9 hC => absurd hC.1 (by simp))
  obtain ⟨hv9, z2, v2, _, fr2⟩ := hC
  cases hv9
  refine xx_cst (st2 := []) rfl ?_
  have hb2 := (((fr2 _ (by omega) (by omega)).trans (fr1 _ (by omega))).trans hb)
  refine xx_aload_n dX8_load_122 rfl ?_
  refine xx_callV (N := mX7_sumUp) (vs := []) (b := (b + 234)) (rest := []) (d2 := 4) (c2 := 0) (s2 := 0) (c3 := 0) (s3 := 0) dX8_load_123 wm_X8_301 wi_X7_sumUp wv_X7_sumUp (k := 7) rfl (by decide) v2.1 nX7_sumUp ⟨pX7_sumUp, Nat.le_of_ble_eq_true rfl, by decide, Nat.le_of_ble_eq_true rfl, by decide, by decide⟩ (c_X7_sumUp v2 (bw 0 (by decide))) (fun v9 E3 hC => ?_) (fun E9 B9 hC => absurd hC.1 (by simp))
  obtain ⟨hv9, z3, v3, fr3⟩ := hC
  cases hv9
  refine xx_cst (st2 := []) rfl ?_
  have hb3 := (((fr3 _ (by omega)).trans ((fr2 _ (by omega) (by omega)).trans (fr1 _ (by omega)))).trans hb)
  refine xx_iinc (v := 1) dX8_load_126 rfl (by decide) (by decide) ?_
  refine xx_clv (lv2 := [(0, .ref b), (1, .int (nI e)), (2, .int 1), (3, .ref (b + 234))]) rfl ?_
  refine xx_goto (tgt := 2) dX8_load_129 (by decide) ?_
  refine xx_iload_n dX8_load_2 rfl ?_
  refine xx_iconst (v := 2) dX8_load_3 (by decide) ?_
  refine xx_icmp_ge (tgt := 132) dX8_load_4 (by decide) (fun h => absurd h (by decide)) (fun j4 => ?_)
  refine xx_aload_n dX8_load_7 rfl ?_
  refine xx_get xx_c8 dX8_load_8 wf_X8_66 (j := 12) (by decide) hb3 rfl ?_
  refine xx_iload_n dX8_load_11 rfl ?_
  refine xx_aald (kd := 17) (b := b + 250) dX8_load_12 (by decide) rfl (((fr3 _ (by omega)).trans ((fr2 _ (by omega) (by omega)).trans (fr1 _ (by omega)))).trans k1) (by unfold vp_in; decide) (k2 1 (by decide)) ?_
  refine xx_astore_n dX8_load_13 (by decide) ?_
  refine xx_clv (lv2 := [(0, .ref b), (1, .int (nI e)), (2, .int 1), (3, .ref (b + 250))]) rfl ?_
  refine xx_aload_n dX8_load_14 rfl ?_
  have w4 : xx_wt E3 (b + 250) (X 1) (t 1) := ((k3 1 (by decide)).to (fun q9 a9 b9 => (fr3 q9 (by omega)).trans ((fr2 q9 (by omega) (by omega)).trans (fr1 q9 (by omega)))))
  refine xx_callV (N := mX7_clear) (vs := []) (b := (b + 250)) (rest := []) (d2 := 2) (c2 := 0) (s2 := 0) (c3 := 0) (s3 := 0) dX8_load_15 wm_X8_292 wi_X7_clear wv_X7_clear (k := 7) rfl (by decide) w4.1 nX7_clear ⟨pX7_clear, Nat.le_of_ble_eq_true rfl, by decide, Nat.le_of_ble_eq_true rfl, by decide, by decide⟩ (c_X7_clear w4) (fun v9 E4 hC => ?_) (fun E9 B9 hC => absurd hC.1 (by simp))
  obtain ⟨hv9, z4, v4, fr4⟩ := hC
  cases hv9
  refine xx_cst (st2 := []) rfl ?_
  have hb4 := (((fr4 _ (by omega)).trans ((fr3 _ (by omega)).trans ((fr2 _ (by omega) (by omega)).trans (fr1 _ (by omega))))).trans hb)
  refine xx_iload_n dX8_load_18 rfl ?_
  refine xx_bipush (v := (-2)) dX8_load_19 (by decide) ?_
  refine xx_icmp_ne (tgt := 37) dX8_load_21 (by decide) (fun j21 => ?_) (fun h => absurd h (ys_ng e (by omega)).1)
  refine xx_iload_n dX8_load_37 rfl ?_
  refine xx_iconst (v := (-1)) dX8_load_38 (by decide) ?_
  refine xx_icmp_ne (tgt := 75) dX8_load_39 (by decide) (fun j39 => ?_) (fun h => absurd h (ys_ng e (by omega)).2)
  refine xx_aload_n dX8_load_75 rfl ?_
  refine xx_get xx_c8 dX8_load_76 wf_X8_49 (j := 8) (by decide) hb4 rfl ?_
  refine xx_ifnull dX8_load_79 ?_
  refine xx_iload_n dX8_load_82 rfl ?_
  refine xx_if_lt (tgt := 122) dX8_load_83 (by decide) (fun h => absurd h (nI_pos (by omega))) (fun j83 => ?_)
  refine xx_iload_n dX8_load_86 rfl ?_
  refine xx_bipush (v := 100) dX8_load_87 (by decide) ?_
  refine xx_icmp_ge (tgt := 122) dX8_load_89 (by decide) (fun h => absurd h (nI_ge (a := e) (b := 100) (by omega) (by omega))) (fun j89 => ?_)
  refine xx_aload_n dX8_load_92 rfl ?_
  refine xx_get xx_c8 dX8_load_93 wf_X8_49 (j := 8) (by decide) hb4 rfl ?_
  refine xx_iconst (v := 1) dX8_load_96 (by decide) ?_
  refine xx_iload_n dX8_load_97 rfl ?_
  refine xx_isub dX8_load_98 ?_
  refine xx_eqi (y := 0) (by decide) ?_
  refine xx_aald (kd := 13) (b := z + 1) dX8_load_99 (by decide) rfl (((fr4 _ (by omega)).trans ((fr3 _ (by omega)).trans ((fr2 _ (by omega) (by omega)).trans (fr1 _ (by omega))))).trans mA) (by unfold vp_in; decide) (mB) ?_
  refine xx_aload_n dX8_load_100 rfl ?_
  refine xx_get xx_c8 dX8_load_101 wf_X8_53 (j := 9) (by decide) hb4 rfl ?_
  refine xx_iconst (v := 1) dX8_load_104 (by decide) ?_
  refine xx_iload_n dX8_load_105 rfl ?_
  refine xx_isub dX8_load_106 ?_
  refine xx_eqi (y := 0) (by decide) ?_
  refine xx_aald (kd := 5) (b := b + 231) dX8_load_107 (by decide) rfl (((fr4 _ (by omega)).trans ((fr3 _ (by omega)).trans ((fr2 _ (by omega) (by omega)).trans (fr1 _ (by omega))))).trans eA) (by unfold vp_in; decide) (eB) ?_
  refine xx_iload_n dX8_load_108 rfl ?_
  refine xx_iald dX8_load_109 (((fr4 _ (by omega)).trans ((fr3 _ (by omega)).trans ((fr2 _ (by omega) (by omega)).trans (fr1 _ (by omega))))).trans eD) (vp_in_nI (by omega) (by decide)) ?_
  refine xx_eqi (y := nI (st.2.1 e)) (by rw [nI_clamp (by omega)]; exact eF e he) ?_
  refine xx_aload_n dX8_load_110 rfl ?_
  refine xx_get xx_c8 dX8_load_111 wf_X8_53 (j := 9) (by decide) hb4 rfl ?_
  refine xx_iload_n dX8_load_114 rfl ?_
  refine xx_aald (kd := 5) (b := b + 232) dX8_load_115 (by decide) rfl (((fr4 _ (by omega)).trans ((fr3 _ (by omega)).trans ((fr2 _ (by omega) (by omega)).trans (fr1 _ (by omega))))).trans eA) (by unfold vp_in; decide) (eC) ?_
  refine xx_iload_n dX8_load_116 rfl ?_
  refine xx_iald dX8_load_117 (((fr4 _ (by omega)).trans ((fr3 _ (by omega)).trans ((fr2 _ (by omega) (by omega)).trans (fr1 _ (by omega))))).trans eG) (vp_in_nI (by omega) (by decide)) ?_
  refine xx_eqi (y := nI (st.2.2 e)) (by rw [nI_clamp (by omega)]; exact eH e he) ?_
  refine xx_aload_n dX8_load_118 rfl ?_
  have l5 := (H0.to (fun q9 a9 b9 => (fr4 q9 (by omega)).trans ((fr3 q9 (by omega)).trans ((fr2 q9 (by omega) (by omega)).trans (fr1 q9 (by omega))))))
  refine xx_callV (N := mX3_read) (vs := [.int (nI (st.2.1 e)), .int (nI (st.2.2 e)), .ref (b + 250)]) (b := (z + 1)) (rest := []) (d2 := 3) (c2 := 0) (s2 := 0) (c3 := 0) (s3 := 0) dX8_load_119 wm_X8_300 wi_X3_read wv_X3_read (k := 3) rfl (by decide) l5.1 nX3_read ⟨pX3_read, Nat.le_of_ble_eq_true rfl, by decide, Nat.le_of_ble_eq_true rfl, by decide, by decide⟩ (c_X3_read l5 hm hn o1 o2 o3 ab0 (by omega) v4 (fun _ _ => rfl)) (fun v9 E5 hC => ?_) (fun E9 B9 hC => absurd hC.1 (by simp))
  obtain ⟨hv9, z5, v5, _, fr5⟩ := hC
  cases hv9
  refine xx_cst (st2 := []) rfl ?_
  have hb5 := (((fr5 _ (by omega) (by omega)).trans ((fr4 _ (by omega)).trans ((fr3 _ (by omega)).trans ((fr2 _ (by omega) (by omega)).trans (fr1 _ (by omega)))))).trans hb)
  refine xx_aload_n dX8_load_122 rfl ?_
  refine xx_callV (N := mX7_sumUp) (vs := []) (b := (b + 250)) (rest := []) (d2 := 4) (c2 := 0) (s2 := 0) (c3 := 0) (s3 := 0) dX8_load_123 wm_X8_301 wi_X7_sumUp wv_X7_sumUp (k := 7) rfl (by decide) v5.1 nX7_sumUp ⟨pX7_sumUp, Nat.le_of_ble_eq_true rfl, by decide, Nat.le_of_ble_eq_true rfl, by decide, by decide⟩ (c_X7_sumUp v5 (bw 1 (by decide))) (fun v9 E6 hC => ?_) (fun E9 B9 hC => absurd hC.1 (by simp))
  obtain ⟨hv9, z6, v6, fr6⟩ := hC
  cases hv9
  refine xx_cst (st2 := []) rfl ?_
  have hb6 := (((fr6 _ (by omega)).trans ((fr5 _ (by omega) (by omega)).trans ((fr4 _ (by omega)).trans ((fr3 _ (by omega)).trans ((fr2 _ (by omega) (by omega)).trans (fr1 _ (by omega))))))).trans hb)
  refine xx_iinc (v := 2) dX8_load_126 rfl (by decide) (by decide) ?_
  refine xx_clv (lv2 := [(0, .ref b), (1, .int (nI e)), (2, .int 2), (3, .ref (b + 250))]) rfl ?_
  refine xx_goto (tgt := 2) dX8_load_129 (by decide) ?_
  refine xx_iload_n dX8_load_2 rfl ?_
  refine xx_iconst (v := 2) dX8_load_3 (by decide) ?_
  refine xx_icmp_ge (tgt := 132) dX8_load_4 (by decide) (fun j4 => ?_) (fun h => absurd (by decide) h)
  refine xx_vret dX8_load_132 rfl ⟨rfl, by omega, hk.str (v3.to (fun q9 a9 b9 => (fr6 q9 (by omega)).trans ((fr5 q9 (by omega) (by omega)).trans (fr4 q9 (by omega))))) v6 (fun q9 a9 b9 => (fr6 q9 (by omega)).trans ((fr5 q9 (by omega) (by omega)).trans ((fr4 q9 (by omega)).trans ((fr3 q9 (by omega)).trans ((fr2 q9 (by omega) (by omega)).trans (fr1 q9 (by omega))))))), fun q9 a9 b9 c9 => (fr6 q9 (by omega)).trans ((fr5 q9 (by omega) (by omega)).trans ((fr4 q9 (by omega)).trans ((fr3 q9 (by omega)).trans ((fr2 q9 (by omega) (by omega)).trans (fr1 q9 (by omega))))))⟩
