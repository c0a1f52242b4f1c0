/-! ===== support .. judge of the class, with what a source keeps beside ===== -/
set_option maxRecDepth 100000 in
theorem c_X8_supportK {G : xx_G} {l : Launch} {A : xx_H} {b m n : Nat} {u6 u7 u8 u10 u11 : Value} {S : Prop} {KK : xx_H → Prop} {FR : Nat → Prop} {x xp : Int32} {X : Nat → Nat → Int} {t V : Nat → Int} {o u w : Int} (hb : A.2 b = xx_o 8 [.ref (b + 1), .ref (b + 2), .ref (b + 11), .ref (b + 18), .ref (b + 19), .ref (b + 226), u6, u7, u8, .ref (b + 230), u10, u11, .ref (b + 233), .ref (b + 266), .ref (b + 279), .ref (b + 281), .ref (b + 283), .ref (b + 288)]) (hneed : xx_X G l mX8_needSource 7 1 6 0 (lv_args 0 [.ref b, .int x]) [] A (xx_oe S R_ise A)) (hload : S → xx_X G l mX8_load 8 0 0 0 (lv_args 0 [.ref b, .int x]) [] A (fun z B => z = .inl none ∧ B.1 = A.1 ∧ xx_wk B b X t V o u w ∧ KK B ∧ ∀ q, FR q → B.2 q = A.2 q)) (hKK : ∀ B C : xx_H, KK B → (∀ q, (q < b + 233 ∨ b + 297 ≤ q) → C.2 q = B.2 q) → KK C) (hFR : ∀ q, q < b + 233 → FR q) : xx_X G l mX8_support 9 2 12 0 (lv_args 0 [.ref b, .int x, .int xp]) [] A (fun z B => (S ∧ ∃ p, p < 2 ∧ xp = nI p ∧ z = .inl (some (.int (nI (yb_n (fun k => decide (0 < X p k)) 6)))) ∧ B.1 = A.1 ∧ xx_wk B b X t V o u w ∧ KK B ∧ ∀ q, FR q → B.2 q = A.2 q) ∨ (¬ S ∧ z = .inr R_ise ∧ A.1 ≤ B.1 ∧ B.2 = A.2) ∨ (S ∧ ¬ yy_in xp 2 ∧ z = .inr R_iae ∧ A.1 ≤ B.1 ∧ B.2 = A.2)) := by
  refine xx_clv (lv2 := [(0, .ref b), (1, .int x), (2, .int xp)]) rfl ?_
  refine xx_aload_n dX8_support_0 rfl ?_
  refine xx_iload_n dX8_support_1 rfl ?_
  refine xx_callV (N := mX8_needSource) (vs := [.int x]) (b := b) (rest := []) (d2 := 7) (c2 := 1) (s2 := 6) (c3 := 1) (s3 := 6) dX8_support_2 wm_X8_164 wi_X8_needSource wv_X8_needSource (k := 8) rfl (by decide) hb nX8_needSource ⟨pX8_needSource, Nat.le_of_ble_eq_true rfl, by decide, Nat.le_of_ble_eq_true rfl, by decide, by decide⟩ (hneed) (fun v9 B9 hC => ?_) (fun E9 B9 hC => ?_)
  rotate_left
  · rcases hC with ⟨_, hv9, _⟩ | ⟨q9, hv9, y9, z9⟩
    · cases hv9
    · cases hv9
      exact xx_out rfl (Or.inr (Or.inl ⟨q9, rfl, y9, z9⟩))
  rcases hC with ⟨hS, hv9, e9⟩ | ⟨_, hv9, _⟩
  rotate_left
  · cases hv9
  cases hv9
  rw [e9]
  refine xx_cst (st2 := []) rfl ?_
  refine xx_aload_n dX8_support_5 rfl ?_
  refine xx_iload_n dX8_support_6 rfl ?_
  refine xx_callV (N := mX8_needPlayer) (vs := [.int xp]) (b := b) (rest := []) (d2 := 6) (c2 := 1) (s2 := 6) (c3 := 0) (s3 := 0) dX8_support_7 wm_X8_121 wi_X8_needPlayer wv_X8_needPlayer (k := 8) rfl (by decide) hb nX8_needPlayer ⟨pX8_needPlayer, Nat.le_of_ble_eq_true rfl, by decide, Nat.le_of_ble_eq_true rfl, by decide, by decide⟩ (c_X8_needPlayer) (fun v9 B9 hC => ?_) (fun E9 B9 hC => ?_)
  rotate_left
  · rcases hC with ⟨_, hv9, _⟩ | ⟨q9, hv9, y9, z9⟩
    · cases hv9
    · cases hv9
      exact xx_out rfl (Or.inr (Or.inr ⟨hS, q9, rfl, y9, z9⟩))
  rcases hC with ⟨hP, hv9, e9⟩ | ⟨_, hv9, _⟩
  rotate_left
  · cases hv9
  cases hv9
  rw [e9]
  refine xx_cst (st2 := []) rfl ?_
  obtain ⟨p, hp, ep⟩ := hP
  subst ep
  refine xx_clv (lv2 := [(0, .ref b), (1, .int x), (2, .int (nI p))]) rfl ?_
  refine xx_aload_n dX8_support_10 rfl ?_
  refine xx_iload_n dX8_support_11 rfl ?_
  refine xx_callV (N := mX8_load) (vs := [.int x]) (b := b) (rest := []) (d2 := 8) (c2 := 0) (s2 := 0) (c3 := 0) (s3 := 0) dX8_support_12 wm_X8_167 wi_X8_load wv_X8_load (k := 8) rfl (by decide) hb nX8_load ⟨pX8_load, Nat.le_of_ble_eq_true rfl, by decide, Nat.le_of_ble_eq_true rfl, by decide, by decide⟩ (hload hS) (fun v9 Eq0 hC => ?_) (fun E9 B9 hC => absurd hC.1 (by simp))
  obtain ⟨hv9, zl, K, KL, fl⟩ := hC
  cases hv9
  refine xx_cst (st2 := []) rfl ?_
  have fl2 : ∀ q, q < b + 233 → Eq0.2 q = A.2 q := fun q hq => fl q (hFR q hq)
  have hbl := (fl2 b (by omega)).trans hb
  obtain ⟨⟨hs, k1, k2⟩, k3, ⟨hv, k4, k5⟩, k6, ⟨pv0, k7⟩, k8, k9, ⟨dc, k10⟩⟩ := id K
  obtain ⟨q1, q2, q3⟩ := id k9
  obtain ⟨g7, l7, bu, _⟩ := id q2
  obtain ⟨g8, l8, bw, _⟩ := id q3
  refine xx_aload_n dX8_support_15 rfl ?_
  refine xx_get xx_c8 dX8_support_16 wf_X8_66 (j := 12) (by decide) hbl rfl ?_
  refine xx_iload_n dX8_support_19 rfl ?_
  refine xx_aald (kd := 17) (b := b + 234 + 16 * p) dX8_support_20 (by decide) rfl k1 (vp_in_nI (by omega) (by decide)) (by rw [nI_clamp (by omega)]; exact k2 _ (by omega)) ?_
  obtain ⟨wtp, ⟨whp, wap, wrp⟩, wep, wvp⟩ := id (k3 p (by omega))
  refine xx_callV (N := mX7_bits) (vs := []) (b := (b + 234 + 16 * p)) (rest := []) (d2 := 0) (c2 := 0) (s2 := 0) (c3 := 0) (s3 := 0) dX8_support_21 wm_X8_170 wi_X7_bits wv_X7_bits (k := 7) rfl (by decide) wtp nX7_bits ⟨pX7_bits, Nat.le_of_ble_eq_true rfl, by decide, Nat.le_of_ble_eq_true rfl, by decide, by decide⟩ (c_X7_bits (k3 p hp)) (fun v9 B9 hC => ?_) (fun E9 B9 hC => absurd hC.1 (by simp))
  obtain ⟨hv9, e9⟩ := hC
  cases hv9
  refine xx_cst (st2 := [.int (nI (yb_n (fun k => decide (0 < X p k)) 6))]) rfl ?_
  rw [e9]
  exact xx_iret dX8_support_24 rfl (Or.inl ⟨hS, p, hp, rfl, rfl, zl, K, KL, fl⟩)
set_option maxRecDepth 100000 in
theorem c_X8_strategyK {G : xx_G} {l : Launch} {A : xx_H} {b m n : Nat} {u6 u7 u8 u10 u11 : Value} {fc : Nat → Int32} {xr : Int32} {S : Prop} {KK : xx_H → Prop} {FR : Nat → Prop} {x xp : Int32} {X : Nat → Nat → Int} {t V : Nat → Int} {o u w : Int} (hb : A.2 b = xx_o 8 [.ref (b + 1), .ref (b + 2), .ref (b + 11), .ref (b + 18), .ref (b + 19), .ref (b + 226), u6, u7, u8, .ref (b + 230), u10, u11, .ref (b + 233), .ref (b + 266), .ref (b + 279), .ref (b + 281), .ref (b + 283), .ref (b + 288)]) (hc : A.2 (b + 1) = xx_i 2 fc) (hc2 : ∀ p, p < 2 → fc p = nI (yy_cn m n p)) (hm1 : 1 ≤ m) (hm : m ≤ 6) (hn1 : 1 ≤ n) (hn : n ≤ 6) (hneed : xx_X G l mX8_needSource 7 1 6 0 (lv_args 0 [.ref b, .int x]) [] A (xx_oe S R_ise A)) (hload : S → xx_X G l mX8_load 8 0 0 0 (lv_args 0 [.ref b, .int x]) [] A (fun z B => z = .inl none ∧ B.1 = A.1 ∧ xx_wk B b X t V o u w ∧ KK B ∧ ∀ q, FR q → B.2 q = A.2 q)) (hKK : ∀ B C : xx_H, KK B → (∀ q, (q < b + 233 ∨ b + 297 ≤ q) → C.2 q = B.2 q) → KK C) (hFR : ∀ q, q < b + 233 → FR q) (ht : ∀ q, q < 2 → 0 ≤ t q) : xx_X G l mX8_strategy 9 3 18 0 (lv_args 0 [.ref b, .int x, .int xp, .int xr]) [] A (fun z B => (S ∧ ∃ p r, p < 2 ∧ r < yy_cn m n p ∧ xp = nI p ∧ xr = nI r ∧ z = .inl (some (.int (iz (X p r).sign))) ∧ B.1 = A.1 ∧ xx_wk B b X t V o (yf_n (X p r) (t p)) (yf_d (X p r) (t p)) ∧ KK B ∧ ∀ q, FR q → (q < b + 233 ∨ b + 297 ≤ q) → B.2 q = A.2 q) ∨ (¬ S ∧ z = .inr R_ise ∧ A.1 ≤ B.1 ∧ B.2 = A.2) ∨ (S ∧ ¬ (∃ p, p < 2 ∧ xp = nI p ∧ yy_in xr (yy_cn m n p)) ∧ z = .inr R_iae ∧ A.1 ≤ B.1 ∧ B.2 = A.2)) := by
  refine xx_clv (lv2 := [(0, .ref b), (1, .int x), (2, .int xp), (3, .int xr)]) rfl ?_
  refine xx_aload_n dX8_strategy_0 rfl ?_
  refine xx_iload_n dX8_strategy_1 rfl ?_
  refine xx_callV (N := mX8_needSource) (vs := [.int x]) (b := b) (rest := []) (d2 := 7) (c2 := 1) (s2 := 6) (c3 := 2) (s3 := 12) dX8_strategy_2 wm_X8_164 wi_X8_needSource wv_X8_needSource (k := 8) rfl (by decide) hb nX8_needSource ⟨pX8_needSource, Nat.le_of_ble_eq_true rfl, by decide, Nat.le_of_ble_eq_true rfl, by decide, by decide⟩ (hneed) (fun v9 B9 hC => ?_) (fun E9 B9 hC => ?_)
  rotate_left
  · rcases hC with ⟨_, hv9, _⟩ | ⟨q9, hv9, y9, z9⟩
    · cases hv9
    · cases hv9
      exact xx_out rfl (Or.inr (Or.inl ⟨q9, rfl, y9, z9⟩))
  rcases hC with ⟨hS, hv9, e9⟩ | ⟨_, hv9, _⟩
  rotate_left
  · cases hv9
  cases hv9
  rw [e9]
  refine xx_cst (st2 := []) rfl ?_
  refine xx_aload_n dX8_strategy_5 rfl ?_
  refine xx_iload_n dX8_strategy_6 rfl ?_
  refine xx_callV (N := mX8_needPlayer) (vs := [.int xp]) (b := b) (rest := []) (d2 := 6) (c2 := 1) (s2 := 6) (c3 := 1) (s3 := 6) dX8_strategy_7 wm_X8_121 wi_X8_needPlayer wv_X8_needPlayer (k := 8) rfl (by decide) hb nX8_needPlayer ⟨pX8_needPlayer, Nat.le_of_ble_eq_true rfl, by decide, Nat.le_of_ble_eq_true rfl, by decide, by decide⟩ (c_X8_needPlayer) (fun v9 B9 hC => ?_) (fun E9 B9 hC => ?_)
  rotate_left
  · rcases hC with ⟨_, hv9, _⟩ | ⟨q9, hv9, y9, z9⟩
    · cases hv9
    · cases hv9
      exact xx_out rfl (Or.inr (Or.inr ⟨hS, fun h => by obtain ⟨p9, a9, b9, c9⟩ := h; exact q9 ⟨p9, a9, b9⟩, rfl, y9, z9⟩))
  rcases hC with ⟨hP, hv9, e9⟩ | ⟨_, hv9, _⟩
  rotate_left
  · cases hv9
  cases hv9
  rw [e9]
  refine xx_cst (st2 := []) rfl ?_
  obtain ⟨p, hp, ep⟩ := hP
  subst ep
  refine xx_clv (lv2 := [(0, .ref b), (1, .int x), (2, .int (nI p)), (3, .int xr)]) rfl ?_
  refine xx_aload_n dX8_strategy_10 rfl ?_
  refine xx_iload_n dX8_strategy_11 rfl ?_
  refine xx_iload_n dX8_strategy_12 rfl ?_
  refine xx_callV (N := mX8_needRow) (vs := [.int (nI p), .int xr]) (b := b) (rest := []) (d2 := 6) (c2 := 1) (s2 := 6) (c3 := 0) (s3 := 0) dX8_strategy_13 wm_X8_125 wi_X8_needRow wv_X8_needRow (k := 8) rfl (by decide) hb nX8_needRow ⟨pX8_needRow, Nat.le_of_ble_eq_true rfl, by decide, Nat.le_of_ble_eq_true rfl, by decide, by decide⟩ (c_X8_needRow hb hc hc2 hm hn hp) (fun v9 B9 hC => ?_) (fun E9 B9 hC => ?_)
  rotate_left
  · rcases hC with ⟨_, hv9, _⟩ | ⟨q9, hv9, y9, z9⟩
    · cases hv9
    · cases hv9
      exact xx_out rfl (Or.inr (Or.inr ⟨hS, fun h => by obtain ⟨p9, a9, b9, c9⟩ := h; exact q9 (by rw [nI_inj2 (by omega) (by omega) b9]; exact c9), rfl, y9, z9⟩))
  rcases hC with ⟨hR, hv9, e9⟩ | ⟨_, hv9, _⟩
  rotate_left
  · cases hv9
  cases hv9
  rw [e9]
  refine xx_cst (st2 := []) rfl ?_
  obtain ⟨r, hr, er⟩ := hR
  subst er
  refine xx_clv (lv2 := [(0, .ref b), (1, .int x), (2, .int (nI p)), (3, .int (nI r))]) rfl ?_
  have c6 := yy_cn6 (p := p) hm hn
  refine xx_aload_n dX8_strategy_16 rfl ?_
  refine xx_iload_n dX8_strategy_17 rfl ?_
  refine xx_callV (N := mX8_load) (vs := [.int x]) (b := b) (rest := []) (d2 := 8) (c2 := 0) (s2 := 0) (c3 := 0) (s3 := 0) dX8_strategy_18 wm_X8_167 wi_X8_load wv_X8_load (k := 8) rfl (by decide) hb nX8_load ⟨pX8_load, Nat.le_of_ble_eq_true rfl, by decide, Nat.le_of_ble_eq_true rfl, by decide, by decide⟩ (hload hS) (fun v9 Eq0 hC => ?_) (fun E9 B9 hC => absurd hC.1 (by simp))
  obtain ⟨hv9, zl, K, KL, fl⟩ := hC
  cases hv9
  refine xx_cst (st2 := []) rfl ?_
  have fl2 : ∀ q, q < b + 233 → Eq0.2 q = A.2 q := fun q hq => fl q (hFR q hq)
  have hbl := (fl2 b (by omega)).trans hb
  obtain ⟨⟨hs, k1, k2⟩, k3, ⟨hv, k4, k5⟩, k6, ⟨pv0, k7⟩, k8, k9, ⟨dc, k10⟩⟩ := id K
  obtain ⟨q1, q2, q3⟩ := id k9
  obtain ⟨g7, l7, bu, _⟩ := id q2
  obtain ⟨g8, l8, bw, _⟩ := id q3
  refine xx_aload_n dX8_strategy_21 rfl ?_
  refine xx_get xx_c8 dX8_strategy_22 wf_X8_91 (j := 16) (by decide) hbl rfl ?_
  refine xx_get xx_c2 dX8_strategy_25 wf_X8_174 (j := 0) (by decide) q1 rfl ?_
  refine xx_aload_n dX8_strategy_28 rfl ?_
  refine xx_get xx_c8 dX8_strategy_29 wf_X8_66 (j := 12) (by decide) hbl rfl ?_
  refine xx_iload_n dX8_strategy_32 rfl ?_
  refine xx_aald (kd := 17) (b := b + 234 + 16 * p) dX8_strategy_33 (by decide) rfl k1 (vp_in_nI (by omega) (by decide)) (by rw [nI_clamp (by omega)]; exact k2 _ (by omega)) ?_
  obtain ⟨wtp33, ⟨whp33, wap33, wrp33⟩, wep33, wvp33⟩ := id (k3 p (by omega))
  refine xx_get xx_c7 dX8_strategy_34 wf_X8_177 (j := 0) (by decide) wtp33 rfl ?_
  refine xx_iload_n dX8_strategy_37 rfl ?_
  refine xx_aald (kd := 10) (b := b + 234 + 16 * p + 2 + 2 * r) dX8_strategy_38 (by decide) rfl wap33 (vp_in_nI (by omega) (by decide)) (by rw [nI_clamp (by omega)]; exact wrp33 _ (by omega)) ?_
  refine xx_callV (N := mX0_copy) (vs := [.ref (b + 234 + 16 * p + 2 + 2 * r)]) (b := (b + 283 + 1)) (rest := []) (d2 := 1) (c2 := 0) (s2 := 0) (c3 := 0) (s3 := 0) dX8_strategy_39 wm_X8_180 wi_X0_copy wv_X0_copy (k := 0) rfl (by decide) bu nX0_copy ⟨pX0_copy, Nat.le_of_ble_eq_true rfl, by decide, Nat.le_of_ble_eq_true rfl, by decide, by decide⟩ (c_X0_copy q2 (wep33 r (by omega)) (by omega) (by omega) (by omega)) (fun v9 Eq1 hC => ?_) (fun E9 B9 hC => absurd hC.1 (by simp))
  obtain ⟨hv9, z1, v1, f1⟩ := hC
  cases hv9
  refine xx_cst (st2 := []) rfl ?_
  have hbx1 := ((f1 _ (by omega) (by omega)).trans hbl)
  have hqx1 := ((f1 _ (by omega) (by omega)).trans q1)
  refine xx_aload_n dX8_strategy_42 rfl ?_
  refine xx_get xx_c8 dX8_strategy_43 wf_X8_91 (j := 16) (by decide) hbx1 rfl ?_
  refine xx_get xx_c2 dX8_strategy_46 wf_X8_184 (j := 1) (by decide) hqx1 rfl ?_
  refine xx_aload_n dX8_strategy_49 rfl ?_
  refine xx_get xx_c8 dX8_strategy_50 wf_X8_66 (j := 12) (by decide) hbx1 rfl ?_
  refine xx_iload_n dX8_strategy_53 rfl ?_
  refine xx_aald (kd := 17) (b := b + 234 + 16 * p) dX8_strategy_54 (by decide) rfl ((f1 _ (by omega) (by omega)).trans k1) (vp_in_nI (by omega) (by decide)) (by rw [nI_clamp (by omega)]; exact k2 _ (by omega)) ?_
  obtain ⟨wtp54, ⟨whp54, wap54, wrp54⟩, wep54, wvp54⟩ := id (k3 p (by omega))
  refine xx_get xx_c7 dX8_strategy_55 wf_X8_187 (j := 1) (by decide) ((f1 _ (by omega) (by omega)).trans wtp54) rfl ?_
  refine xx_callV (N := mX0_copy) (vs := [.ref (b + 234 + 16 * p + 14)]) (b := (b + 283 + 3)) (rest := []) (d2 := 1) (c2 := 0) (s2 := 0) (c3 := 0) (s3 := 0) dX8_strategy_58 wm_X8_180 wi_X0_copy wv_X0_copy (k := 0) rfl (by decide) ((f1 _ (by omega) (by omega)).trans bw) nX0_copy ⟨pX0_copy, Nat.le_of_ble_eq_true rfl, by decide, Nat.le_of_ble_eq_true rfl, by decide, by decide⟩ (c_X0_copy (q3.to (f1 _ (by omega) (by omega)) (f1 _ (by omega) (by omega))) (wvp54.to (f1 _ (by omega) (by omega)) (f1 _ (by omega) (by omega))) (by omega) (by omega) (by omega)) (fun v9 Eq2 hC => ?_) (fun E9 B9 hC => absurd hC.1 (by simp))
  obtain ⟨hv9, z2, v2, f2⟩ := hC
  cases hv9
  refine xx_cst (st2 := []) rfl ?_
  have hbx2 := (((f2 _ (by omega) (by omega)).trans (f1 _ (by omega) (by omega))).trans hbl)
  have hqx2 := (((f2 _ (by omega) (by omega)).trans (f1 _ (by omega) (by omega))).trans q1)
  refine xx_aload_n dX8_strategy_61 rfl ?_
  refine xx_get xx_c8 dX8_strategy_62 wf_X8_91 (j := 16) (by decide) hbx2 rfl ?_
  refine xx_aload_n dX8_strategy_65 rfl ?_
  refine xx_get xx_c8 dX8_strategy_66 wf_X8_98 (j := 17) (by decide) hbx2 rfl ?_
  have fq2 : xx_fq Eq2 (b + 283) (X p r) (t p) := ⟨(((f2 _ (by omega) (by omega)).trans (f1 _ (by omega) (by omega))).trans q1), (v1.to (f2 _ (by omega) (by omega)) (f2 _ (by omega) (by omega))), v2⟩
  refine xx_callV (N := mX2_reduce) (vs := [.ref (b + 288)]) (b := (b + 283)) (rest := []) (d2 := 5) (c2 := 0) (s2 := 0) (c3 := 0) (s3 := 0) dX8_strategy_69 wm_X8_190 wi_X2_reduce wv_X2_reduce (k := 2) rfl (by decide) fq2.1 nX2_reduce ⟨pX2_reduce, Nat.le_of_ble_eq_true rfl, by decide, Nat.le_of_ble_eq_true rfl, by decide, by decide⟩ (c_X2_reduce fq2 (k10.to (fun q9 a9 b9 => (f2 q9 (by omega) (by omega)).trans (f1 q9 (by omega) (by omega)))) (by omega) (ht p hp)) (fun v9 Eq3 hC => ?_) (fun E9 B9 hC => absurd hC.1 (by simp))
  obtain ⟨hv9, pp, z3, v3, w3, f3⟩ := hC
  cases hv9
  refine xx_cst (st2 := []) rfl ?_
  have hbx3 := (((f3 _ (by omega) (by omega)).trans ((f2 _ (by omega) (by omega)).trans (f1 _ (by omega) (by omega)))).trans hbl)
  have q1z := w3.1
  obtain ⟨g6, l6, bz, _⟩ := id w3.2.1
  refine xx_aload_n dX8_strategy_72 rfl ?_
  refine xx_get xx_c8 dX8_strategy_73 wf_X8_91 (j := 16) (by decide) hbx3 rfl ?_
  refine xx_get xx_c2 dX8_strategy_76 wf_X8_174 (j := 0) (by decide) q1z rfl ?_
  refine xx_get xx_c0 dX8_strategy_79 wf_X8_194 (j := 0) (by decide) bz rfl ?_
  refine xx_cst (st2 := [.int (iz (yf_n (X p r) (t p)).sign)]) rfl ?_
  rw [yf_sg]
  exact xx_iret dX8_strategy_82 rfl (Or.inl ⟨hS, p, r, hp, hr, rfl, rfl, rfl, by omega, K.han w3 (k7.to ((f3 _ (by omega) (by omega)).trans ((f2 _ (by omega) (by omega)).trans (f1 _ (by omega) (by omega)))) ((f3 _ (by omega) (by omega)).trans ((f2 _ (by omega) (by omega)).trans (f1 _ (by omega) (by omega))))) v3 (fun q9 a9 => (f3 q9 (by omega) (by omega)).trans ((f2 q9 (by omega) (by omega)).trans (f1 q9 (by omega) (by omega)))), hKK _ _ KL (fun q9 b9 => (f3 q9 (by omega) (by omega)).trans ((f2 q9 (by omega) (by omega)).trans (f1 q9 (by omega) (by omega)))), fun q9 a9 b9 => ((f3 q9 (by omega) (by omega)).trans ((f2 q9 (by omega) (by omega)).trans (f1 q9 (by omega) (by omega)))).trans (fl q9 a9)⟩)
set_option maxRecDepth 100000 in
theorem c_X8_getsK {G : xx_G} {l : Launch} {A : xx_H} {b m n : Nat} {u6 u7 u8 u10 u11 : Value} {fc : Nat → Int32} {xr : Int32} {S : Prop} {KK : xx_H → Prop} {FR : Nat → Prop} {x xp : Int32} {X : Nat → Nat → Int} {t V : Nat → Int} {o u w : Int} {W : Nat → Nat → Nat → Int} {le : Nat → Int} {mu : Nat → Nat} (hb : A.2 b = xx_o 8 [.ref (b + 1), .ref (b + 2), .ref (b + 11), .ref (b + 18), .ref (b + 19), .ref (b + 226), u6, u7, u8, .ref (b + 230), u10, u11, .ref (b + 233), .ref (b + 266), .ref (b + 279), .ref (b + 281), .ref (b + 283), .ref (b + 288)]) (hc : A.2 (b + 1) = xx_i 2 fc) (hc2 : ∀ p, p < 2 → fc p = nI (yy_cn m n p)) (hm1 : 1 ≤ m) (hm : m ≤ 6) (hn1 : 1 ≤ n) (hn : n ≤ 6) (hneed : xx_X G l mX8_needSource 7 1 6 0 (lv_args 0 [.ref b, .int x]) [] A (xx_oe S R_ise A)) (hload : S → xx_X G l mX8_load 8 0 0 0 (lv_args 0 [.ref b, .int x]) [] A (fun z B => z = .inl none ∧ B.1 = A.1 ∧ xx_wk B b X t V o u w ∧ KK B ∧ ∀ q, FR q → B.2 q = A.2 q)) (hKK : ∀ B C : xx_H, KK B → (∀ q, (q < b + 233 ∨ b + 297 ≤ q) → C.2 q = B.2 q) → KK C) (hFR : ∀ q, q < b + 233 → FR q) (P : xx_pys A b m n W le mu) (hmu : ∀ p, p < 2 → mu p ≤ 27720) (hX : ∀ q, q < 2 → ∀ k, k < 6 → (X q k).natAbs < 2 ^ 192) (ht : ∀ q, q < 2 → 0 ≤ t q ∧ (t q).natAbs < 2 ^ 195) : xx_X G l mX8_gets 9 3 18 0 (lv_args 0 [.ref b, .int x, .int xp, .int xr]) [] A (fun z B => (S ∧ ∃ p y d V2 o2, p < 2 ∧ xp = nI p ∧ ((xr = -1 ∧ y = ye_o m n W X p (yy_cn m n p) ∧ d = (mu p : Int) * t 0 * t 1) ∨ ∃ r, r < yy_cn m n p ∧ xr = nI r ∧ y = ye_v m n W X p r ∧ d = (mu p : Int) * t (1 - p)) ∧ z = .inl (some (.int (iz y.sign))) ∧ B.1 = A.1 ∧ xx_wk B b X t V2 o2 (yf_n y d) (yf_d y d) ∧ KK B ∧ ∀ q, FR q → (q < b + 233 ∨ b + 297 ≤ q) → B.2 q = A.2 q) ∨ (¬ S ∧ z = .inr R_ise ∧ A.1 ≤ B.1 ∧ B.2 = A.2) ∨ (S ∧ ¬ (∃ p, p < 2 ∧ xp = nI p ∧ (xr = -1 ∨ yy_in xr (yy_cn m n p))) ∧ z = .inr R_iae ∧ A.1 ≤ B.1 ∧ B.2 = A.2)) := by
  refine xx_clv (lv2 := [(0, .ref b), (1, .int x), (2, .int xp), (3, .int xr)]) rfl ?_
  refine xx_aload_n dX8_gets_0 rfl ?_
  refine xx_iload_n dX8_gets_1 rfl ?_
  refine xx_callV (N := mX8_needSource) (vs := [.int x]) (b := b) (rest := []) (d2 := 7) (c2 := 1) (s2 := 6) (c3 := 2) (s3 := 12) dX8_gets_2 wm_X8_164 wi_X8_needSource wv_X8_needSource (k := 8) rfl (by decide) hb nX8_needSource ⟨pX8_needSource, Nat.le_of_ble_eq_true rfl, by decide, Nat.le_of_ble_eq_true rfl, by decide, by decide⟩ (hneed) (fun v9 B9 hC => ?_) (fun E9 B9 hC => ?_)
  rotate_left
  · rcases hC with ⟨_, hv9, _⟩ | ⟨q9, hv9, y9, z9⟩
    · cases hv9
    · cases hv9
      exact xx_out rfl (Or.inr (Or.inl ⟨q9, rfl, y9, z9⟩))
  rcases hC with ⟨hS, hv9, e9⟩ | ⟨_, hv9, _⟩
  rotate_left
  · cases hv9
  cases hv9
  rw [e9]
  refine xx_cst (st2 := []) rfl ?_
  refine xx_aload_n dX8_gets_5 rfl ?_
  refine xx_iload_n dX8_gets_6 rfl ?_
  refine xx_callV (N := mX8_needPlayer) (vs := [.int xp]) (b := b) (rest := []) (d2 := 6) (c2 := 1) (s2 := 6) (c3 := 1) (s3 := 6) dX8_gets_7 wm_X8_121 wi_X8_needPlayer wv_X8_needPlayer (k := 8) rfl (by decide) hb nX8_needPlayer ⟨pX8_needPlayer, Nat.le_of_ble_eq_true rfl, by decide, Nat.le_of_ble_eq_true rfl, by decide, by decide⟩ (c_X8_needPlayer) (fun v9 B9 hC => ?_) (fun E9 B9 hC => ?_)
  rotate_left
  · rcases hC with ⟨_, hv9, _⟩ | ⟨q9, hv9, y9, z9⟩
    · cases hv9
    · cases hv9
      exact xx_out rfl (Or.inr (Or.inr ⟨hS, fun h => by obtain ⟨p9, a9, b9, c9⟩ := h; exact q9 ⟨p9, a9, b9⟩, rfl, y9, z9⟩))
  rcases hC with ⟨hP, hv9, e9⟩ | ⟨_, hv9, _⟩
  rotate_left
  · cases hv9
  cases hv9
  rw [e9]
  refine xx_cst (st2 := []) rfl ?_
  obtain ⟨p, hp, ep⟩ := hP
  subst ep
  refine xx_clv (lv2 := [(0, .ref b), (1, .int x), (2, .int (nI p)), (3, .int xr)]) rfl ?_
  refine xx_iload_n dX8_gets_10 rfl ?_
  refine xx_iconst (v := (-1)) dX8_gets_11 (by decide) ?_
  refine xx_icmp_eq (tgt := 21) dX8_gets_12 (by decide) (fun j12 => ?_) (fun j12 => ?_)
  · refine xx_aload_n dX8_gets_21 rfl ?_
    refine xx_iload_n dX8_gets_22 rfl ?_
    refine xx_callV (N := mX8_load) (vs := [.int x]) (b := b) (rest := []) (d2 := 8) (c2 := 0) (s2 := 0) (c3 := 0) (s3 := 0) dX8_gets_23 wm_X8_167 wi_X8_load wv_X8_load (k := 8) rfl (by decide) hb nX8_load ⟨pX8_load, Nat.le_of_ble_eq_true rfl, by decide, Nat.le_of_ble_eq_true rfl, by decide, by decide⟩ (hload hS) (fun v9 Eq0 hC => ?_) (fun E9 B9 hC => absurd hC.1 (by simp))
    obtain ⟨hv9, zl, K, KL, fl⟩ := hC
    cases hv9
    refine xx_cst (st2 := []) rfl ?_
    have fl2 : ∀ q, q < b + 233 → Eq0.2 q = A.2 q := fun q hq => fl q (hFR q hq)
    have hbl := (fl2 b (by omega)).trans hb
    obtain ⟨⟨hs, k1, k2⟩, k3, ⟨hv, k4, k5⟩, k6, ⟨pv0, k7⟩, k8, k9, ⟨dc, k10⟩⟩ := id K
    obtain ⟨q1, q2, q3⟩ := id k9
    obtain ⟨g7, l7, bu, _⟩ := id q2
    obtain ⟨g8, l8, bw, _⟩ := id q3
    have P2 : xx_pys Eq0 b m n W le mu := P.to (fun q _ _ => fl2 q (by omega))
    have hc_2 := (fl2 (b + 1) (by omega)).trans hc
    obtain ⟨⟨hpa, pa1, pa2⟩, po⟩ := id P2
    refine xx_iload_n dX8_gets_26 rfl ?_
    refine xx_iconst (v := (-1)) dX8_gets_27 (by decide) ?_
    refine xx_icmp_ne (tgt := 48) dX8_gets_28 (by decide) (fun h => absurd j12 h) (fun j28 => ?_)
    refine xx_aload_n dX8_gets_31 rfl ?_
    refine xx_iload_n dX8_gets_32 rfl ?_
    refine xx_callV (N := mX8_weighValues) (vs := [.int (nI p)]) (b := b) (rest := []) (d2 := 5) (c2 := 0) (s2 := 0) (c3 := 0) (s3 := 0) dX8_gets_33 wm_X8_197 wi_X8_weighValues wv_X8_weighValues (k := 8) rfl (by decide) hbl nX8_weighValues ⟨pX8_weighValues, Nat.le_of_ble_eq_true rfl, by decide, Nat.le_of_ble_eq_true rfl, by decide, by decide⟩ (c_X8_weighValues hbl hc_2 hc2 P2 hm hn hp hX K) (fun v9 Eq1 hC => ?_) (fun E9 B9 hC => absurd hC.1 (by simp))
    obtain ⟨hv9, z1, ⟨V2, K2, v1⟩, f1⟩ := hC
    cases hv9
    refine xx_cst (st2 := []) rfl ?_
    have hbx1 := ((f1 _ (by omega)).trans hbl)
    refine xx_aload_n dX8_gets_36 rfl ?_
    refine xx_iload_n dX8_gets_37 rfl ?_
    refine xx_aload_n dX8_gets_38 rfl ?_
    refine xx_get xx_c8 dX8_gets_39 wf_X8_85 (j := 15) (by decide) hbx1 rfl ?_
    refine xx_callV (N := mX8_holdOfBoth) (vs := [.int (nI p), .ref (b + 281)]) (b := b) (rest := []) (d2 := 6) (c2 := 0) (s2 := 0) (c3 := 0) (s3 := 0) dX8_gets_42 wm_X8_200 wi_X8_holdOfBoth wv_X8_holdOfBoth (k := 8) rfl (by decide) hbx1 nX8_holdOfBoth ⟨pX8_holdOfBoth, Nat.le_of_ble_eq_true rfl, by decide, Nat.le_of_ble_eq_true rfl, by decide, by decide⟩ (c_X8_holdOfBoth hbx1 (P2.to (fun q9 a9 b9 => f1 q9 (by omega))) K2 hp (hmu p hp) ht) (fun v9 Eq2 hC => ?_) (fun E9 B9 hC => absurd hC.1 (by simp))
    obtain ⟨hv9, z2, K3, f2⟩ := hC
    cases hv9
    refine xx_cst (st2 := []) rfl ?_
    have hbx2 := (((f2 _ (by omega)).trans (f1 _ (by omega))).trans hbl)
    obtain ⟨_, _, _, _, _, _, w3, _⟩ := id K3
    obtain ⟨g6, l6, bz, _⟩ := id w3.2.1
    have q1z := w3.1
    refine xx_goto (tgt := 140) dX8_gets_45 (by decide) ?_
    refine xx_aload_n dX8_gets_140 rfl ?_
    refine xx_get xx_c8 dX8_gets_141 wf_X8_91 (j := 16) (by decide) hbx2 rfl ?_
    refine xx_get xx_c2 dX8_gets_144 wf_X8_174 (j := 0) (by decide) q1z rfl ?_
    refine xx_get xx_c0 dX8_gets_147 wf_X8_194 (j := 0) (by decide) bz rfl ?_
    refine xx_cst (st2 := [.int (iz (yf_n (ye_o m n W X p (yy_cn m n p)) ((mu p : Int) * t 0 * t 1)).sign)]) rfl ?_
    rw [yf_sg]
    exact xx_iret dX8_gets_150 rfl (Or.inl ⟨hS, p, _, _, V2, _, hp, rfl, Or.inl ⟨j28, rfl, rfl⟩, rfl, by omega, K3, hKK _ _ KL (fun q9 b9 => (f2 q9 (by omega)).trans (f1 q9 (by omega))), fun q9 a9 b9 => ((f2 q9 (by omega)).trans (f1 q9 (by omega))).trans (fl q9 a9)⟩)
  · refine xx_aload_n dX8_gets_15 rfl ?_
    refine xx_iload_n dX8_gets_16 rfl ?_
    refine xx_iload_n dX8_gets_17 rfl ?_
    refine xx_callV (N := mX8_needRow) (vs := [.int (nI p), .int xr]) (b := b) (rest := []) (d2 := 6) (c2 := 1) (s2 := 6) (c3 := 0) (s3 := 0) dX8_gets_18 wm_X8_125 wi_X8_needRow wv_X8_needRow (k := 8) rfl (by decide) hb nX8_needRow ⟨pX8_needRow, Nat.le_of_ble_eq_true rfl, by decide, Nat.le_of_ble_eq_true rfl, by decide, by decide⟩ (c_X8_needRow hb hc hc2 hm hn hp) (fun v9 B9 hC => ?_) (fun E9 B9 hC => ?_)
    rotate_left
    · rcases hC with ⟨_, hv9, _⟩ | ⟨q9, hv9, y9, z9⟩
      · cases hv9
      · cases hv9
        exact xx_out rfl (Or.inr (Or.inr ⟨hS, fun h => by obtain ⟨p9, a9, b9, c9⟩ := h; rcases c9 with c9 | c9; exact j12 c9; exact q9 (by rw [nI_inj2 (by omega) (by omega) b9]; exact c9), rfl, y9, z9⟩))
    rcases hC with ⟨hR, hv9, e9⟩ | ⟨_, hv9, _⟩
    rotate_left
    · cases hv9
    cases hv9
    rw [e9]
    refine xx_cst (st2 := []) rfl ?_
    obtain ⟨r, hr, er⟩ := hR
    subst er
    refine xx_clv (lv2 := [(0, .ref b), (1, .int x), (2, .int (nI p)), (3, .int (nI r))]) rfl ?_
    have c6 := yy_cn6 (p := p) hm hn
    refine xx_aload_n dX8_gets_21 rfl ?_
    refine xx_iload_n dX8_gets_22 rfl ?_
    refine xx_callV (N := mX8_load) (vs := [.int x]) (b := b) (rest := []) (d2 := 8) (c2 := 0) (s2 := 0) (c3 := 0) (s3 := 0) dX8_gets_23 wm_X8_167 wi_X8_load wv_X8_load (k := 8) rfl (by decide) hb nX8_load ⟨pX8_load, Nat.le_of_ble_eq_true rfl, by decide, Nat.le_of_ble_eq_true rfl, by decide, by decide⟩ (hload hS) (fun v9 Eq0 hC => ?_) (fun E9 B9 hC => absurd hC.1 (by simp))
    obtain ⟨hv9, zl, K, KL, fl⟩ := hC
    cases hv9
    refine xx_cst (st2 := []) rfl ?_
    have fl2 : ∀ q, q < b + 233 → Eq0.2 q = A.2 q := fun q hq => fl q (hFR q hq)
    have hbl := (fl2 b (by omega)).trans hb
    obtain ⟨⟨hs, k1, k2⟩, k3, ⟨hv, k4, k5⟩, k6, ⟨pv0, k7⟩, k8, k9, ⟨dc, k10⟩⟩ := id K
    obtain ⟨q1, q2, q3⟩ := id k9
    obtain ⟨g7, l7, bu, _⟩ := id q2
    obtain ⟨g8, l8, bw, _⟩ := id q3
    have P2 : xx_pys Eq0 b m n W le mu := P.to (fun q _ _ => fl2 q (by omega))
    have hc_2 := (fl2 (b + 1) (by omega)).trans hc
    obtain ⟨⟨hpa, pa1, pa2⟩, po⟩ := id P2
    refine xx_iload_n dX8_gets_26 rfl ?_
    refine xx_iconst (v := (-1)) dX8_gets_27 (by decide) ?_
    refine xx_icmp_ne (tgt := 48) dX8_gets_28 (by decide) (fun j28 => ?_) (fun h => absurd h (ys_ng r (by omega)).2)
    refine xx_aload_n dX8_gets_48 rfl ?_
    refine xx_get xx_c8 dX8_gets_49 wf_X8_91 (j := 16) (by decide) hbl rfl ?_
    refine xx_get xx_c2 dX8_gets_52 wf_X8_174 (j := 0) (by decide) q1 rfl ?_
    refine xx_callV (N := mX0_clear) (vs := []) (b := (b + 283 + 1)) (rest := []) (d2 := 0) (c2 := 0) (s2 := 0) (c3 := 0) (s3 := 0) dX8_gets_55 wm_X8_204 wi_X0_clear wv_X0_clear (k := 0) rfl (by decide) bu nX0_clear ⟨pX0_clear, Nat.le_of_ble_eq_true rfl, by decide, Nat.le_of_ble_eq_true rfl, by decide, by decide⟩ (c_X0_clear q2) (fun v9 Eq1 hC => ?_) (fun E9 B9 hC => absurd hC.1 (by simp))
    obtain ⟨hv9, z1, v1, f1⟩ := hC
    cases hv9
    refine xx_cst (st2 := []) rfl ?_
    have hbx1 := ((f1 _ (by omega)).trans hbl)
    have hqx1 := ((f1 _ (by omega)).trans q1)
    refine xx_aload_n dX8_gets_58 rfl ?_
    refine xx_get xx_c8 dX8_gets_59 wf_X8_16 (j := 1) (by decide) hbx1 rfl ?_
    refine xx_iload_n dX8_gets_62 rfl ?_
    refine xx_aald (kd := 14) (b := b + 3 + 4 * p) dX8_gets_63 (by decide) rfl ((f1 _ (by omega)).trans pa1) (vp_in_nI (by omega) (by decide)) (by rw [nI_clamp (by omega)]; exact pa2 _ hp) ?_
    refine xx_iload_n dX8_gets_64 rfl ?_
    refine xx_aload_n dX8_gets_65 rfl ?_
    refine xx_get xx_c8 dX8_gets_66 wf_X8_66 (j := 12) (by decide) hbx1 rfl ?_
    refine xx_iconst (v := 1) dX8_gets_69 (by decide) ?_
    refine xx_iload_n dX8_gets_70 rfl ?_
    refine xx_isub dX8_gets_71 ?_
    refine xx_eqi (y := nI (1 - p)) (pk_sub (a := 1) (b := p) (by omega)) ?_
    refine xx_aald (kd := 17) (b := b + 234 + 16 * (1 - p)) dX8_gets_72 (by decide) rfl ((f1 _ (by omega)).trans k1) (vp_in_nI (by omega) (by decide)) (by rw [nI_clamp (by omega)]; exact k2 _ (by omega)) ?_
    obtain ⟨wtp72, ⟨whp72, wap72, wrp72⟩, wep72, wvp72⟩ := id (k3 (1 - p) (by omega))
    refine xx_aload_n dX8_gets_73 rfl ?_
    refine xx_get xx_c8 dX8_gets_74 wf_X8_91 (j := 16) (by decide) hbx1 rfl ?_
    refine xx_get xx_c2 dX8_gets_77 wf_X8_174 (j := 0) (by decide) hqx1 rfl ?_
    refine xx_aload_n dX8_gets_80 rfl ?_
    refine xx_get xx_c8 dX8_gets_81 wf_X8_81 (j := 14) (by decide) hbx1 rfl ?_
    have po2 : xx_po Eq1 (b + 3 + 4 * p) _ _ (mu p) (le p) (yo_w W p) := (po p hp).to (f1 _ (by omega)) (f1 _ (by omega))
    refine xx_callV (N := mX4_value) (vs := [.int (nI r), .ref (b + 234 + 16 * (1 - p)), .ref (b + 283 + 1), .ref (b + 279)]) (b := (b + 3 + 4 * p)) (rest := []) (d2 := 4) (c2 := 0) (s2 := 0) (c3 := 0) (s3 := 0) dX8_gets_84 wm_X8_207 wi_X4_value wv_X4_value (k := 4) rfl (by decide) po2.1 nX4_value ⟨pX4_value, Nat.le_of_ble_eq_true rfl, by decide, Nat.le_of_ble_eq_true rfl, by decide, by decide⟩ (c_X4_value (mu := mu p) (le := le p) (w := yo_w W p) po2 hr ((k3 (1 - p) (by omega)).to (fun q9 a9 b9 => f1 q9 (by omega))) (hX (1 - p) (by omega)) (by omega) (by omega) (by omega) (by omega) (by omega) v1 (k7.to (f1 _ (by omega)) (f1 _ (by omega)))) (fun v9 Eq2 hC => ?_) (fun E9 B9 hC => absurd hC.1 (by simp))
    obtain ⟨hv9, z2, v2, ⟨pv, v2b⟩, f2⟩ := hC
    cases hv9
    refine xx_cst (st2 := []) rfl ?_
    have hbx2 := (((f2 _ (by omega) (by omega) (by omega) (by omega)).trans (f1 _ (by omega))).trans hbl)
    have hqx2 := (((f2 _ (by omega) (by omega) (by omega) (by omega)).trans (f1 _ (by omega))).trans q1)
    have v2 : xx_bg Eq2 (b + 283 + 1) (ye_v m n W X p r) := v2
    refine xx_aload_n dX8_gets_87 rfl ?_
    refine xx_get xx_c8 dX8_gets_88 wf_X8_91 (j := 16) (by decide) hbx2 rfl ?_
    refine xx_get xx_c2 dX8_gets_91 wf_X8_184 (j := 1) (by decide) hqx2 rfl ?_
    refine xx_aload_n dX8_gets_94 rfl ?_
    refine xx_get xx_c8 dX8_gets_95 wf_X8_16 (j := 1) (by decide) hbx2 rfl ?_
    refine xx_iload_n dX8_gets_98 rfl ?_
    refine xx_aald (kd := 14) (b := b + 3 + 4 * p) dX8_gets_99 (by decide) rfl (((f2 _ (by omega) (by omega) (by omega) (by omega)).trans (f1 _ (by omega))).trans pa1) (vp_in_nI (by omega) (by decide)) (by rw [nI_clamp (by omega)]; exact pa2 _ hp) ?_
    have po3 := (((f2 _ (by omega) (by omega) (by omega) (by omega)).trans (f1 _ (by omega))).trans (po p hp).1)
    refine xx_get xx_c4 dX8_gets_100 wf_X8_211 (j := 2) (by decide) po3 rfl ?_
    have hmu9 := hmu p hp
    refine xx_i2l dX8_gets_103 ?_
    refine xx_eql (y := lN (mu p)) (nI_l (by omega)) ?_
    refine xx_eql (y := lz (mu p : Int)) rfl ?_
    refine xx_callV (N := mX0_setTo) (vs := [.long (lz (mu p : Int))]) (b := (b + 283 + 3)) (rest := []) (d2 := 1) (c2 := 0) (s2 := 0) (c3 := 0) (s3 := 0) dX8_gets_104 wm_X8_214 wi_X0_setTo wv_X0_setTo (k := 0) rfl (by decide) (((f2 _ (by omega) (by omega) (by omega) (by omega)).trans (f1 _ (by omega))).trans bw) nX0_setTo ⟨pX0_setTo, Nat.le_of_ble_eq_true rfl, by decide, Nat.le_of_ble_eq_true rfl, by decide, by decide⟩ (c_setTo (v := (mu p : Int)) (q3.to ((f2 _ (by omega) (by omega) (by omega) (by omega)).trans (f1 _ (by omega))) ((f2 _ (by omega) (by omega) (by omega) (by omega)).trans (f1 _ (by omega)))) (by omega) (by omega)) (fun v9 Eq3 hC => ?_) (fun E9 B9 hC => absurd hC.1 (by simp))
    obtain ⟨hv9, z3, v3, f3⟩ := hC
    cases hv9
    refine xx_cst (st2 := []) rfl ?_
    have hbx3 := (((f3 _ (by omega) (by omega)).trans ((f2 _ (by omega) (by omega) (by omega) (by omega)).trans (f1 _ (by omega)))).trans hbl)
    have hqx3 := (((f3 _ (by omega) (by omega)).trans ((f2 _ (by omega) (by omega) (by omega) (by omega)).trans (f1 _ (by omega)))).trans q1)
    refine xx_aload_n dX8_gets_107 rfl ?_
    refine xx_get xx_c8 dX8_gets_108 wf_X8_91 (j := 16) (by decide) hbx3 rfl ?_
    refine xx_aload_n dX8_gets_111 rfl ?_
    refine xx_get xx_c8 dX8_gets_112 wf_X8_66 (j := 12) (by decide) hbx3 rfl ?_
    refine xx_iconst (v := 1) dX8_gets_115 (by decide) ?_
    refine xx_iload_n dX8_gets_116 rfl ?_
    refine xx_isub dX8_gets_117 ?_
    refine xx_eqi (y := nI (1 - p)) (pk_sub (a := 1) (b := p) (by omega)) ?_
    refine xx_aald (kd := 17) (b := b + 234 + 16 * (1 - p)) dX8_gets_118 (by decide) rfl (((f3 _ (by omega) (by omega)).trans ((f2 _ (by omega) (by omega) (by omega) (by omega)).trans (f1 _ (by omega)))).trans k1) (vp_in_nI (by omega) (by decide)) (by rw [nI_clamp (by omega)]; exact k2 _ (by omega)) ?_
    obtain ⟨wtp118, ⟨whp118, wap118, wrp118⟩, wep118, wvp118⟩ := id (k3 (1 - p) (by omega))
    refine xx_get xx_c7 dX8_gets_119 wf_X8_187 (j := 1) (by decide) (((f3 _ (by omega) (by omega)).trans ((f2 _ (by omega) (by omega) (by omega) (by omega)).trans (f1 _ (by omega)))).trans wtp118) rfl ?_
    refine xx_aload_n dX8_gets_122 rfl ?_
    refine xx_get xx_c8 dX8_gets_123 wf_X8_81 (j := 14) (by decide) hbx3 rfl ?_
    have fq3 : xx_fq Eq3 (b + 283) (ye_v m n W X p r) (mu p : Int) := ⟨(((f3 _ (by omega) (by omega)).trans ((f2 _ (by omega) (by omega) (by omega) (by omega)).trans (f1 _ (by omega)))).trans q1), (v2.to (f3 _ (by omega) (by omega)) (f3 _ (by omega) (by omega))), v3⟩
    refine xx_callV (N := mX2_multiplyBelow) (vs := [.ref (b + 234 + 16 * (1 - p) + 14), .ref (b + 279)]) (b := (b + 283)) (rest := []) (d2 := 3) (c2 := 0) (s2 := 0) (c3 := 0) (s3 := 0) dX8_gets_126 wm_X8_218 wi_X2_multiplyBelow wv_X2_multiplyBelow (k := 2) rfl (by decide) fq3.1 nX2_multiplyBelow ⟨pX2_multiplyBelow, Nat.le_of_ble_eq_true rfl, by decide, Nat.le_of_ble_eq_true rfl, by decide, by decide⟩ (c_X2_multiplyBelow fq3 (wvp118.to ((f3 _ (by omega) (by omega)).trans ((f2 _ (by omega) (by omega) (by omega) (by omega)).trans (f1 _ (by omega)))) ((f3 _ (by omega) (by omega)).trans ((f2 _ (by omega) (by omega) (by omega) (by omega)).trans (f1 _ (by omega))))) (v2b.to (f3 _ (by omega) (by omega)) (f3 _ (by omega) (by omega))) (by omega) (by omega) (by omega) (yb_t0 hmu9 (ht (1 - p) (by omega)).2)) (fun v9 Eq4 hC => ?_) (fun E9 B9 hC => absurd hC.1 (by simp))
    obtain ⟨hv9, z4, v4, w4, f4⟩ := hC
    cases hv9
    refine xx_cst (st2 := []) rfl ?_
    have hbx4 := (((f4 _ (by omega) (by omega) (by omega) (by omega)).trans ((f3 _ (by omega) (by omega)).trans ((f2 _ (by omega) (by omega) (by omega) (by omega)).trans (f1 _ (by omega))))).trans hbl)
    have hqx4 := (((f4 _ (by omega) (by omega) (by omega) (by omega)).trans ((f3 _ (by omega) (by omega)).trans ((f2 _ (by omega) (by omega) (by omega) (by omega)).trans (f1 _ (by omega))))).trans q1)
    refine xx_aload_n dX8_gets_129 rfl ?_
    refine xx_get xx_c8 dX8_gets_130 wf_X8_91 (j := 16) (by decide) hbx4 rfl ?_
    refine xx_aload_n dX8_gets_133 rfl ?_
    refine xx_get xx_c8 dX8_gets_134 wf_X8_98 (j := 17) (by decide) hbx4 rfl ?_
    refine xx_callV (N := mX2_reduce) (vs := [.ref (b + 288)]) (b := (b + 283)) (rest := []) (d2 := 5) (c2 := 0) (s2 := 0) (c3 := 0) (s3 := 0) dX8_gets_137 wm_X8_190 wi_X2_reduce wv_X2_reduce (k := 2) rfl (by decide) v4.1 nX2_reduce ⟨pX2_reduce, Nat.le_of_ble_eq_true rfl, by decide, Nat.le_of_ble_eq_true rfl, by decide, by decide⟩ (c_X2_reduce v4 (k10.to (fun q9 a9 b9 => (f4 q9 (by omega) (by omega) (by omega) (by omega)).trans ((f3 q9 (by omega) (by omega)).trans ((f2 q9 (by omega) (by omega) (by omega) (by omega)).trans (f1 q9 (by omega)))))) (by omega) (Int.mul_nonneg (by omega) (ht (1 - p) (by omega)).1)) (fun v9 Eq5 hC => ?_) (fun E9 B9 hC => absurd hC.1 (by simp))
    obtain ⟨hv9, pp, z5, v5, w5, f5⟩ := hC
    cases hv9
    refine xx_cst (st2 := []) rfl ?_
    have hbx5 := (((f5 _ (by omega) (by omega)).trans ((f4 _ (by omega) (by omega) (by omega) (by omega)).trans ((f3 _ (by omega) (by omega)).trans ((f2 _ (by omega) (by omega) (by omega) (by omega)).trans (f1 _ (by omega)))))).trans hbl)
    have q1z := w5.1
    obtain ⟨g6, l6, bz, _⟩ := id w5.2.1
    refine xx_aload_n dX8_gets_140 rfl ?_
    refine xx_get xx_c8 dX8_gets_141 wf_X8_91 (j := 16) (by decide) hbx5 rfl ?_
    refine xx_get xx_c2 dX8_gets_144 wf_X8_174 (j := 0) (by decide) q1z rfl ?_
    refine xx_get xx_c0 dX8_gets_147 wf_X8_194 (j := 0) (by decide) bz rfl ?_
    refine xx_cst (st2 := [.int (iz (yf_n (ye_v m n W X p r) ((mu p : Int) * t (1 - p))).sign)]) rfl ?_
    rw [yf_sg]
    exact xx_iret dX8_gets_150 rfl (Or.inl ⟨hS, p, _, _, V, o, hp, rfl, Or.inr ⟨r, hr, rfl, rfl, rfl⟩, rfl, by omega, K.han w5 (w4.to (f5 _ (by omega) (by omega)) (f5 _ (by omega) (by omega))) v5 (fun q9 a9 => (f5 q9 (by omega) (by omega)).trans ((f4 q9 (by omega) (by omega) (by omega) (by omega)).trans ((f3 q9 (by omega) (by omega)).trans ((f2 q9 (by omega) (by omega) (by omega) (by omega)).trans (f1 q9 (by omega)))))), hKK _ _ KL (fun q9 b9 => (f5 q9 (by omega) (by omega)).trans ((f4 q9 (by omega) (by omega) (by omega) (by omega)).trans ((f3 q9 (by omega) (by omega)).trans ((f2 q9 (by omega) (by omega) (by omega) (by omega)).trans (f1 q9 (by omega)))))), fun q9 a9 b9 => ((f5 q9 (by omega) (by omega)).trans ((f4 q9 (by omega) (by omega) (by omega) (by omega)).trans ((f3 q9 (by omega) (by omega)).trans ((f2 q9 (by omega) (by omega) (by omega) (by omega)).trans (f1 q9 (by omega)))))).trans (fl q9 a9)⟩)
set_option maxRecDepth 100000 in
theorem c_X8_repliesK {G : xx_G} {l : Launch} {A : xx_H} {b m n : Nat} {u6 u7 u8 u10 u11 : Value} {fc : Nat → Int32} {S : Prop} {KK : xx_H → Prop} {FR : Nat → Prop} {x xp : Int32} {X : Nat → Nat → Int} {t V : Nat → Int} {o u w : Int} {W : Nat → Nat → Nat → Int} {le : Nat → Int} {mu : Nat → Nat} (hb : A.2 b = xx_o 8 [.ref (b + 1), .ref (b + 2), .ref (b + 11), .ref (b + 18), .ref (b + 19), .ref (b + 226), u6, u7, u8, .ref (b + 230), u10, u11, .ref (b + 233), .ref (b + 266), .ref (b + 279), .ref (b + 281), .ref (b + 283), .ref (b + 288)]) (hc : A.2 (b + 1) = xx_i 2 fc) (hc2 : ∀ p, p < 2 → fc p = nI (yy_cn m n p)) (hm1 : 1 ≤ m) (hm : m ≤ 6) (hn1 : 1 ≤ n) (hn : n ≤ 6) (hneed : xx_X G l mX8_needSource 7 1 6 0 (lv_args 0 [.ref b, .int x]) [] A (xx_oe S R_ise A)) (hload : S → xx_X G l mX8_load 8 0 0 0 (lv_args 0 [.ref b, .int x]) [] A (fun z B => z = .inl none ∧ B.1 = A.1 ∧ xx_wk B b X t V o u w ∧ KK B ∧ ∀ q, FR q → B.2 q = A.2 q)) (hKK : ∀ B C : xx_H, KK B → (∀ q, (q < b + 233 ∨ b + 297 ≤ q) → C.2 q = B.2 q) → KK C) (hFR : ∀ q, q < b + 233 → FR q) (P : xx_pys A b m n W le mu) (hmu : ∀ p, p < 2 → mu p ≤ 27720) (hX : ∀ q, q < 2 → ∀ k, k < 6 → (X q k).natAbs < 2 ^ 192) (ht : ∀ q, q < 2 → 0 ≤ t q ∧ (t q).natAbs < 2 ^ 195) : xx_X G l mX8_replies 9 2 12 0 (lv_args 0 [.ref b, .int x, .int xp]) [] A (fun z B => (S ∧ ∃ p V2 o2, p < 2 ∧ xp = nI p ∧ z = .inl (some (.int (nI (ye_b (ye_v m n W X p) (yy_cn m n p - 1))))) ∧ B.1 = A.1 ∧ xx_wk B b X t V2 o2 (yf_n (ye_m (ye_v m n W X p) (yy_cn m n p - 1) * t p - ye_o m n W X p (yy_cn m n p)) ((mu p : Int) * t 0 * t 1)) (yf_d (ye_m (ye_v m n W X p) (yy_cn m n p - 1) * t p - ye_o m n W X p (yy_cn m n p)) ((mu p : Int) * t 0 * t 1)) ∧ KK B ∧ ∀ q, FR q → (q < b + 233 ∨ b + 297 ≤ q) → B.2 q = A.2 q) ∨ (¬ S ∧ z = .inr R_ise ∧ A.1 ≤ B.1 ∧ B.2 = A.2) ∨ (S ∧ ¬ yy_in xp 2 ∧ z = .inr R_iae ∧ A.1 ≤ B.1 ∧ B.2 = A.2)) := by
  refine xx_clv (lv2 := [(0, .ref b), (1, .int x), (2, .int xp)]) rfl ?_
  refine xx_aload_n dX8_replies_0 rfl ?_
  refine xx_iload_n dX8_replies_1 rfl ?_
  refine xx_callV (N := mX8_needSource) (vs := [.int x]) (b := b) (rest := []) (d2 := 7) (c2 := 1) (s2 := 6) (c3 := 1) (s3 := 6) dX8_replies_2 wm_X8_164 wi_X8_needSource wv_X8_needSource (k := 8) rfl (by decide) hb nX8_needSource ⟨pX8_needSource, Nat.le_of_ble_eq_true rfl, by decide, Nat.le_of_ble_eq_true rfl, by decide, by decide⟩ (hneed) (fun v9 B9 hC => ?_) (fun E9 B9 hC => ?_)
  rotate_left
  · rcases hC with ⟨_, hv9, _⟩ | ⟨q9, hv9, y9, z9⟩
    · cases hv9
    · cases hv9
      exact xx_out rfl (Or.inr (Or.inl ⟨q9, rfl, y9, z9⟩))
  rcases hC with ⟨hS, hv9, e9⟩ | ⟨_, hv9, _⟩
  rotate_left
  · cases hv9
  cases hv9
  rw [e9]
  refine xx_cst (st2 := []) rfl ?_
  refine xx_aload_n dX8_replies_5 rfl ?_
  refine xx_iload_n dX8_replies_6 rfl ?_
  refine xx_callV (N := mX8_needPlayer) (vs := [.int xp]) (b := b) (rest := []) (d2 := 6) (c2 := 1) (s2 := 6) (c3 := 0) (s3 := 0) dX8_replies_7 wm_X8_121 wi_X8_needPlayer wv_X8_needPlayer (k := 8) rfl (by decide) hb nX8_needPlayer ⟨pX8_needPlayer, Nat.le_of_ble_eq_true rfl, by decide, Nat.le_of_ble_eq_true rfl, by decide, by decide⟩ (c_X8_needPlayer) (fun v9 B9 hC => ?_) (fun E9 B9 hC => ?_)
  rotate_left
  · rcases hC with ⟨_, hv9, _⟩ | ⟨q9, hv9, y9, z9⟩
    · cases hv9
    · cases hv9
      exact xx_out rfl (Or.inr (Or.inr ⟨hS, q9, rfl, y9, z9⟩))
  rcases hC with ⟨hP, hv9, e9⟩ | ⟨_, hv9, _⟩
  rotate_left
  · cases hv9
  cases hv9
  rw [e9]
  refine xx_cst (st2 := []) rfl ?_
  obtain ⟨p, hp, ep⟩ := hP
  subst ep
  refine xx_clv (lv2 := [(0, .ref b), (1, .int x), (2, .int (nI p))]) rfl ?_
  refine xx_aload_n dX8_replies_10 rfl ?_
  refine xx_iload_n dX8_replies_11 rfl ?_
  refine xx_callV (N := mX8_load) (vs := [.int x]) (b := b) (rest := []) (d2 := 8) (c2 := 0) (s2 := 0) (c3 := 0) (s3 := 0) dX8_replies_12 wm_X8_167 wi_X8_load wv_X8_load (k := 8) rfl (by decide) hb nX8_load ⟨pX8_load, Nat.le_of_ble_eq_true rfl, by decide, Nat.le_of_ble_eq_true rfl, by decide, by decide⟩ (hload hS) (fun v9 Eq0 hC => ?_) (fun E9 B9 hC => absurd hC.1 (by simp))
  obtain ⟨hv9, zl, K, KL, fl⟩ := hC
  cases hv9
  refine xx_cst (st2 := []) rfl ?_
  have fl2 : ∀ q, q < b + 233 → Eq0.2 q = A.2 q := fun q hq => fl q (hFR q hq)
  have hbl := (fl2 b (by omega)).trans hb
  obtain ⟨⟨hs, k1, k2⟩, k3, ⟨hv, k4, k5⟩, k6, ⟨pv0, k7⟩, k8, k9, ⟨dc, k10⟩⟩ := id K
  obtain ⟨q1, q2, q3⟩ := id k9
  obtain ⟨g7, l7, bu, _⟩ := id q2
  obtain ⟨g8, l8, bw, _⟩ := id q3
  have P2 : xx_pys Eq0 b m n W le mu := P.to (fun q _ _ => fl2 q (by omega))
  have hc_2 := (fl2 (b + 1) (by omega)).trans hc
  have c6 := yy_cn6 (p := p) hm hn
  have c1 : 1 ≤ yy_cn m n p := by unfold yy_cn; split <;> assumption
  refine xx_aload_n dX8_replies_15 rfl ?_
  refine xx_iload_n dX8_replies_16 rfl ?_
  refine xx_callV (N := mX8_weighValues) (vs := [.int (nI p)]) (b := b) (rest := []) (d2 := 5) (c2 := 0) (s2 := 0) (c3 := 0) (s3 := 0) dX8_replies_17 wm_X8_197 wi_X8_weighValues wv_X8_weighValues (k := 8) rfl (by decide) hbl nX8_weighValues ⟨pX8_weighValues, Nat.le_of_ble_eq_true rfl, by decide, Nat.le_of_ble_eq_true rfl, by decide, by decide⟩ (c_X8_weighValues hbl hc_2 hc2 P2 hm hn hp hX K) (fun v9 Eq1 hC => ?_) (fun E9 B9 hC => absurd hC.1 (by simp))
  obtain ⟨hv9, z1, ⟨V2, K2, v1⟩, f1⟩ := hC
  cases hv9
  refine xx_cst (st2 := []) rfl ?_
  have hbx1 := ((f1 _ (by omega)).trans hbl)
  refine xx_aload_n dX8_replies_20 rfl ?_
  refine xx_iload_n dX8_replies_21 rfl ?_
  refine xx_callV (N := mX8_bestBits) (vs := [.int (nI p)]) (b := b) (rest := []) (d2 := 2) (c2 := 0) (s2 := 0) (c3 := 0) (s3 := 0) dX8_replies_22 wm_X8_222 wi_X8_bestBits wv_X8_bestBits (k := 8) rfl (by decide) hbx1 nX8_bestBits ⟨pX8_bestBits, Nat.le_of_ble_eq_true rfl, by decide, Nat.le_of_ble_eq_true rfl, by decide, by decide⟩ (c_X8_bestBits hbx1 ((f1 _ (by omega)).trans hc_2) hc2 K2 hm hn hp c1) (fun v9 B9 hC => ?_) (fun E9 B9 hC => absurd hC.1 (by simp))
  obtain ⟨hv9, e9⟩ := hC
  cases hv9
  refine xx_cst (st2 := [.int (nI (ye_b V2 (yy_cn m n p - 1)))]) rfl ?_
  rw [e9]
  obtain ⟨b64, b0, bz, bm⟩ := ye_b_z (V := V2) (i := yy_cn m n p - 1) (by omega)
  have z6 := yb_z6 (ye_b V2 (yy_cn m n p - 1))
  obtain ⟨bits, hbits⟩ : ∃ a, a = ye_b V2 (yy_cn m n p - 1) := ⟨_, rfl⟩
  rw [← hbits] at b64 b0 bz bm z6 ⊢
  obtain ⟨fi, hfi⟩ : ∃ a, a = yb_z bits := ⟨_, rfl⟩
  rw [← hfi] at bz bm z6
  refine xx_istore_n dX8_replies_25 (by decide) ?_
  refine xx_clv (lv2 := [(0, .ref b), (1, .int x), (2, .int (nI p)), (3, .int (nI bits))]) rfl ?_
  refine xx_iload_n dX8_replies_26 rfl ?_
  refine xx_callS (N := mJ6_ntz) (vs := [.int (nI bits)]) (rest := []) (d2 := 0) (c2 := 0) (s2 := 0) (c3 := 0) (s3 := 0) dX8_replies_27 wm_X8_225 ws_J6_ntz wz_J6 (by decide) nJ6_ntz ⟨pJ6_ntz, Nat.le_of_ble_eq_true rfl, by decide, Nat.le_of_ble_eq_true rfl, by decide, by decide⟩ (c_J6_ntz b64 b0) (fun v9 B9 hC => ?_) (fun E9 B9 hC => absurd hC.1 (by simp))
  obtain ⟨hv9, e9⟩ := hC
  cases hv9
  refine xx_cst (st2 := [.int (nI fi)]) (by rw [hfi]; rfl) ?_
  rw [e9]
  refine xx_istore dX8_replies_30 (by decide) ?_
  refine xx_clv (lv2 := [(0, .ref b), (1, .int x), (2, .int (nI p)), (3, .int (nI bits)), (4, .int (nI fi))]) rfl ?_
  refine xx_iload dX8_replies_32 rfl ?_
  refine xx_bipush (v := 6) dX8_replies_34 (by decide) ?_
  refine xx_icmp_ge (tgt := 84) dX8_replies_36 (by decide) (fun h => absurd h (nI_ge (a := fi) (b := 6) (by omega) (by omega))) (fun j36 => ?_)
  refine xx_aload_n dX8_replies_39 rfl ?_
  refine xx_get xx_c8 dX8_replies_40 wf_X8_81 (j := 14) (by decide) hbx1 rfl ?_
  refine xx_aload_n dX8_replies_43 rfl ?_
  refine xx_get xx_c8 dX8_replies_44 wf_X8_74 (j := 13) (by decide) hbx1 rfl ?_
  refine xx_iload dX8_replies_47 rfl ?_
  obtain ⟨⟨hs2, n1, n2⟩, n3, ⟨hv2, n4, n5⟩, n6, ⟨pv2, n7⟩, n8, n9, ⟨dc2, n10⟩⟩ := id K2
  obtain ⟨g5, l5, bp, _⟩ := id n7
  refine xx_aald (kd := 10) (b := b + 267 + 2 * fi) dX8_replies_49 (by decide) rfl n4 (vp_in_nI (by omega) (by decide)) (by rw [nI_clamp (by omega)]; exact n5 _ (by omega)) ?_
  refine xx_aload_n dX8_replies_50 rfl ?_
  refine xx_get xx_c8 dX8_replies_51 wf_X8_66 (j := 12) (by decide) hbx1 rfl ?_
  refine xx_iload_n dX8_replies_54 rfl ?_
  refine xx_aald (kd := 17) (b := b + 234 + 16 * p) dX8_replies_55 (by decide) rfl n1 (vp_in_nI (by omega) (by decide)) (by rw [nI_clamp (by omega)]; exact n2 _ hp) ?_
  obtain ⟨wt, _, _, wv⟩ := id (n3 p hp)
  refine xx_get xx_c7 dX8_replies_56 wf_X8_187 (j := 1) (by decide) wt rfl ?_
  have vfi : V2 fi = ye_v m n W X p fi := v1 fi (by omega)
  have vbd : (V2 fi).natAbs < 2 ^ 224 := by rw [vfi]; exact ye_v_b hm hn hp (by omega) (yo_w_b P2 hp) hX
  have obd : (ye_o m n W X p (yy_cn m n p)).natAbs < 2 ^ 419 := ye_s_b c6 (fun k hk => ye_p_b (ye_v_b hm hn hp hk (yo_w_b P2 hp) hX) (hX p hp k (by omega)))
  refine xx_callV (N := mX0_setProduct) (vs := [.ref (b + 267 + 2 * fi), .ref (b + 234 + 16 * p + 14)]) (b := (b + 279)) (rest := []) (d2 := 2) (c2 := 0) (s2 := 0) (c3 := 0) (s3 := 0) dX8_replies_59 wm_X8_230 wi_X0_setProduct wv_X0_setProduct (k := 0) rfl (by decide) bp nX0_setProduct ⟨pX0_setProduct, Nat.le_of_ble_eq_true rfl, by decide, Nat.le_of_ble_eq_true rfl, by decide, by decide⟩ (c_X0_setProduct n7 (n6 fi (by omega)) wv (by omega) (by omega) (by omega) (by omega) (by omega) (by omega) (by rw [← Int.natAbs_mul]; exact Nat.lt_of_le_of_lt (ye_w_b vbd (ht p hp).2) yb_419)) (fun v9 Eq2 hC => ?_) (fun E9 B9 hC => absurd hC.1 (by simp))
  obtain ⟨hv9, z2, v2, f2⟩ := hC
  cases hv9
  refine xx_cst (st2 := []) rfl ?_
  have hbx2 := (((f2 _ (by omega) (by omega)).trans (f1 _ (by omega))).trans hbl)
  obtain ⟨g4, l4, bp2, _⟩ := id v2
  refine xx_aload_n dX8_replies_62 rfl ?_
  refine xx_get xx_c8 dX8_replies_63 wf_X8_81 (j := 14) (by decide) hbx2 rfl ?_
  refine xx_aload_n dX8_replies_66 rfl ?_
  refine xx_get xx_c8 dX8_replies_67 wf_X8_85 (j := 15) (by decide) hbx2 rfl ?_
  refine xx_callV (N := mX0_subtract) (vs := [.ref (b + 281)]) (b := (b + 279)) (rest := []) (d2 := 3) (c2 := 0) (s2 := 0) (c3 := 0) (s3 := 0) dX8_replies_70 wm_X8_233 wi_X0_subtract wv_X0_subtract (k := 0) rfl (by decide) bp2 nX0_subtract ⟨pX0_subtract, Nat.le_of_ble_eq_true rfl, by decide, Nat.le_of_ble_eq_true rfl, by decide, by decide⟩ (c_X0_subtract v2 (n8.to (f2 _ (by omega) (by omega)) (f2 _ (by omega) (by omega))) (by omega) (by omega) (by omega) (Nat.lt_of_le_of_lt (Nat.add_le_add (ye_w_b vbd (ht p hp).2) (Nat.le_of_lt obd)) yb_420)) (fun v9 Eq3 hC => ?_) (fun E9 B9 hC => absurd hC.1 (by simp))
  obtain ⟨hv9, z3, v3, f3⟩ := hC
  cases hv9
  refine xx_cst (st2 := []) rfl ?_
  have hbx3 := (((f3 _ (by omega) (by omega)).trans ((f2 _ (by omega) (by omega)).trans (f1 _ (by omega)))).trans hbl)
  have n8b := n8.to ((f3 _ (by omega) (by omega)).trans (f2 _ (by omega) (by omega))) ((f3 _ (by omega) (by omega)).trans (f2 _ (by omega) (by omega)))
  obtain ⟨g3, l3, bo3, _⟩ := id n8b
  refine xx_aload_n dX8_replies_73 rfl ?_
  refine xx_get xx_c8 dX8_replies_74 wf_X8_85 (j := 15) (by decide) hbx3 rfl ?_
  refine xx_aload_n dX8_replies_77 rfl ?_
  refine xx_get xx_c8 dX8_replies_78 wf_X8_81 (j := 14) (by decide) hbx3 rfl ?_
  refine xx_callV (N := mX0_copy) (vs := [.ref (b + 279)]) (b := (b + 281)) (rest := []) (d2 := 1) (c2 := 0) (s2 := 0) (c3 := 0) (s3 := 0) dX8_replies_81 wm_X8_180 wi_X0_copy wv_X0_copy (k := 0) rfl (by decide) bo3 nX0_copy ⟨pX0_copy, Nat.le_of_ble_eq_true rfl, by decide, Nat.le_of_ble_eq_true rfl, by decide, by decide⟩ (c_X0_copy n8b v3 (by omega) (by omega) (by omega)) (fun v9 Eq4 hC => ?_) (fun E9 B9 hC => absurd hC.1 (by simp))
  obtain ⟨hv9, z4, v4, f4⟩ := hC
  cases hv9
  refine xx_cst (st2 := []) rfl ?_
  have hbx4 := (((f4 _ (by omega) (by omega)).trans ((f3 _ (by omega) (by omega)).trans ((f2 _ (by omega) (by omega)).trans (f1 _ (by omega))))).trans hbl)
  have K4 := K2.own (v3.to (f4 _ (by omega) (by omega)) (f4 _ (by omega) (by omega))) v4 (fun q9 a1 a2 a3 a4 => (f4 q9 (by omega) (by omega)).trans ((f3 q9 (by omega) (by omega)).trans (f2 q9 (by omega) (by omega))))
  refine xx_aload_n dX8_replies_84 rfl ?_
  refine xx_iload_n dX8_replies_85 rfl ?_
  refine xx_aload_n dX8_replies_86 rfl ?_
  refine xx_get xx_c8 dX8_replies_87 wf_X8_85 (j := 15) (by decide) hbx4 rfl ?_
  refine xx_callV (N := mX8_holdOfBoth) (vs := [.int (nI p), .ref (b + 281)]) (b := b) (rest := []) (d2 := 6) (c2 := 0) (s2 := 0) (c3 := 0) (s3 := 0) dX8_replies_90 wm_X8_200 wi_X8_holdOfBoth wv_X8_holdOfBoth (k := 8) rfl (by decide) hbx4 nX8_holdOfBoth ⟨pX8_holdOfBoth, Nat.le_of_ble_eq_true rfl, by decide, Nat.le_of_ble_eq_true rfl, by decide, by decide⟩ (c_X8_holdOfBoth hbx4 (P2.to (fun q9 a9 b9 => (f4 q9 (by omega) (by omega)).trans ((f3 q9 (by omega) (by omega)).trans ((f2 q9 (by omega) (by omega)).trans (f1 q9 (by omega)))))) K4 hp (hmu p hp) ht) (fun v9 Eq5 hC => ?_) (fun E9 B9 hC => absurd hC.1 (by simp))
  obtain ⟨hv9, z5, K5, f5⟩ := hC
  cases hv9
  refine xx_cst (st2 := []) rfl ?_
  refine xx_iload_n dX8_replies_93 rfl ?_
  have eb : bits = ye_b (ye_v m n W X p) (yy_cn m n p - 1) := by rw [hbits]; exact ye_b_cg (fun k hk => v1 k (by omega))
  have em : V2 fi = ye_m (ye_v m n W X p) (yy_cn m n p - 1) := by rw [bm]; exact ye_m_cg (fun k hk => v1 k (by omega))
  rw [em] at K5
  rw [eb]
  exact xx_iret dX8_replies_94 rfl (Or.inl ⟨hS, p, V2, _, hp, rfl, rfl, by omega, K5, hKK _ _ KL (fun q9 b9 => (f5 q9 (by omega)).trans ((f4 q9 (by omega) (by omega)).trans ((f3 q9 (by omega) (by omega)).trans ((f2 q9 (by omega) (by omega)).trans (f1 q9 (by omega)))))), fun q9 a9 b9 => ((f5 q9 (by omega)).trans ((f4 q9 (by omega) (by omega)).trans ((f3 q9 (by omega) (by omega)).trans ((f2 q9 (by omega) (by omega)).trans (f1 q9 (by omega)))))).trans (fl q9 a9)⟩)
set_option maxRecDepth 100000 in
theorem c_X8_judgeK {G : xx_G} {l : Launch} {A : xx_H} {b m n : Nat} {u6 u7 u8 u10 u11 : Value} {fc : Nat → Int32} {S : Prop} {KK : xx_H → Prop} {FR : Nat → Prop} {x xp : Int32} {X : Nat → Nat → Int} {t V : Nat → Int} {o u w : Int} {W : Nat → Nat → Nat → Int} {le : Nat → Int} {mu : Nat → Nat} (hb : A.2 b = xx_o 8 [.ref (b + 1), .ref (b + 2), .ref (b + 11), .ref (b + 18), .ref (b + 19), .ref (b + 226), u6, u7, u8, .ref (b + 230), u10, u11, .ref (b + 233), .ref (b + 266), .ref (b + 279), .ref (b + 281), .ref (b + 283), .ref (b + 288)]) (hc : A.2 (b + 1) = xx_i 2 fc) (hc2 : ∀ p, p < 2 → fc p = nI (yy_cn m n p)) (hm1 : 1 ≤ m) (hm : m ≤ 6) (hn1 : 1 ≤ n) (hn : n ≤ 6) (hneed : xx_X G l mX8_needSource 7 1 6 0 (lv_args 0 [.ref b, .int x]) [] A (xx_oe S R_ise A)) (hload : S → xx_X G l mX8_load 8 0 0 0 (lv_args 0 [.ref b, .int x]) [] A (fun z B => z = .inl none ∧ B.1 = A.1 ∧ xx_wk B b X t V o u w ∧ KK B ∧ ∀ q, FR q → B.2 q = A.2 q)) (hKK : ∀ B C : xx_H, KK B → (∀ q, (q < b + 233 ∨ b + 297 ≤ q) → C.2 q = B.2 q) → KK C) (hFR : ∀ q, q < b + 233 → FR q) (P : xx_pys A b m n W le mu) (hmu : ∀ p, p < 2 → mu p ≤ 27720) (hX : ∀ q, q < 2 → ∀ k, k < 6 → (X q k).natAbs < 2 ^ 192) (ht : ∀ q, q < 2 → 0 ≤ t q ∧ (t q).natAbs < 2 ^ 195) : xx_X G l mX8_judge 9 1 6 0 (lv_args 0 [.ref b, .int x]) [] A (fun z B => (S ∧ ∃ V2 o2, B.1 = A.1 ∧ xx_wk B b X t V2 o2 u w ∧ KK B ∧ (∀ q, FR q → (q < b + 233 ∨ b + 297 ≤ q) → B.2 q = A.2 q) ∧ (((∀ p, p < 2 → ∀ k, k < 6 → 0 < X p k → Nat.testBit (ye_b (ye_v m n W X p) (yy_cn m n p - 1)) k = true) ∧ z = .inl (some (.int 1))) ∨ (¬ (∀ p, p < 2 → ∀ k, k < 6 → 0 < X p k → Nat.testBit (ye_b (ye_v m n W X p) (yy_cn m n p - 1)) k = true) ∧ z = .inl (some (.int 0))))) ∨ (¬ S ∧ z = .inr R_ise ∧ A.1 ≤ B.1 ∧ B.2 = A.2)) := by
  refine xx_clv (lv2 := [(0, .ref b), (1, .int x)]) rfl ?_
  refine xx_aload_n dX8_judge_0 rfl ?_
  refine xx_iload_n dX8_judge_1 rfl ?_
  refine xx_callV (N := mX8_needSource) (vs := [.int x]) (b := b) (rest := []) (d2 := 7) (c2 := 1) (s2 := 6) (c3 := 0) (s3 := 0) dX8_judge_2 wm_X8_164 wi_X8_needSource wv_X8_needSource (k := 8) rfl (by decide) hb nX8_needSource ⟨pX8_needSource, Nat.le_of_ble_eq_true rfl, by decide, Nat.le_of_ble_eq_true rfl, by decide, by decide⟩ (hneed) (fun v9 B9 hC => ?_) (fun E9 B9 hC => ?_)
  rotate_left
  · rcases hC with ⟨_, hv9, _⟩ | ⟨q9, hv9, y9, z9⟩
    · cases hv9
    · cases hv9
      exact xx_out rfl (Or.inr ⟨q9, rfl, y9, z9⟩)
  rcases hC with ⟨hS, hv9, e9⟩ | ⟨_, hv9, _⟩
  rotate_left
  · cases hv9
  cases hv9
  rw [e9]
  refine xx_cst (st2 := []) rfl ?_
  refine xx_aload_n dX8_judge_5 rfl ?_
  refine xx_iload_n dX8_judge_6 rfl ?_
  refine xx_callV (N := mX8_load) (vs := [.int x]) (b := b) (rest := []) (d2 := 8) (c2 := 0) (s2 := 0) (c3 := 0) (s3 := 0) dX8_judge_7 wm_X8_167 wi_X8_load wv_X8_load (k := 8) rfl (by decide) hb nX8_load ⟨pX8_load, Nat.le_of_ble_eq_true rfl, by decide, Nat.le_of_ble_eq_true rfl, by decide, by decide⟩ (hload hS) (fun v9 Eq0 hC => ?_) (fun E9 B9 hC => absurd hC.1 (by simp))
  obtain ⟨hv9, zl, K, KL, fl⟩ := hC
  cases hv9
  refine xx_cst (st2 := []) rfl ?_
  have fl2 : ∀ q, q < b + 233 → Eq0.2 q = A.2 q := fun q hq => fl q (hFR q hq)
  have hbl := (fl2 b (by omega)).trans hb
  obtain ⟨⟨hs, k1, k2⟩, k3, ⟨hv, k4, k5⟩, k6, ⟨pv0, k7⟩, k8, k9, ⟨dc, k10⟩⟩ := id K
  obtain ⟨q1, q2, q3⟩ := id k9
  obtain ⟨g7, l7, bu, _⟩ := id q2
  obtain ⟨g8, l8, bw, _⟩ := id q3
  have P2 : xx_pys Eq0 b m n W le mu := P.to (fun q _ _ => fl2 q (by omega))
  have hc_2 := (fl2 (b + 1) (by omega)).trans hc
  have c1 : ∀ p, 1 ≤ yy_cn m n p := fun p => by unfold yy_cn; split <;> assumption
  have c6 : ∀ p, yy_cn m n p ≤ 6 := fun p => yy_cn6 hm hn
  refine xx_iconst (v := 0) dX8_judge_10 (by decide) ?_
  refine xx_istore_n dX8_judge_11 (by decide) ?_
  refine xx_clv (lv2 := [(0, .ref b), (1, .int x), (2, .int 0)]) rfl ?_
  refine xx_iload_n dX8_judge_12 rfl ?_
  refine xx_iconst (v := 2) dX8_judge_13 (by decide) ?_
  refine xx_icmp_ge (tgt := 50) dX8_judge_14 (by decide) (fun h => absurd h (by decide)) (fun j14 => ?_)
  refine xx_aload_n dX8_judge_17 rfl ?_
  refine xx_iload_n dX8_judge_18 rfl ?_
  refine xx_callV (N := mX8_weighValues) (vs := [.int 0]) (b := b) (rest := []) (d2 := 5) (c2 := 0) (s2 := 0) (c3 := 0) (s3 := 0) dX8_judge_19 wm_X8_197 wi_X8_weighValues wv_X8_weighValues (k := 8) rfl (by decide) hbl nX8_weighValues ⟨pX8_weighValues, Nat.le_of_ble_eq_true rfl, by decide, Nat.le_of_ble_eq_true rfl, by decide, by decide⟩ (c_X8_weighValues (p := 0) hbl hc_2 hc2 P2 hm hn (by decide) hX K) (fun v9 Eq10 hC => ?_) (fun E9 B9 hC => absurd hC.1 (by simp))
  obtain ⟨hv9, z10, ⟨V0a, K0a, v0a⟩, f0a⟩ := hC
  cases hv9
  refine xx_cst (st2 := []) rfl ?_
  have hbx0 := ((f0a _ (by omega)).trans hbl)
  obtain ⟨⟨hs0, s10, s20⟩, s30, _⟩ := id K0a
  refine xx_aload_n dX8_judge_22 rfl ?_
  refine xx_get xx_c8 dX8_judge_23 wf_X8_66 (j := 12) (by decide) hbx0 rfl ?_
  refine xx_iload_n dX8_judge_26 rfl ?_
  refine xx_aald (kd := 17) (b := b + 234) dX8_judge_27 (by decide) rfl s10 (by unfold vp_in; decide) (s20 0 (by decide)) ?_
  have wt0 := (s30 0 (by decide)).1
  refine xx_callV (N := mX7_bits) (vs := []) (b := (b + 234)) (rest := []) (d2 := 0) (c2 := 0) (s2 := 0) (c3 := 0) (s3 := 0) dX8_judge_28 wm_X8_170 wi_X7_bits wv_X7_bits (k := 7) rfl (by decide) wt0 nX7_bits ⟨pX7_bits, Nat.le_of_ble_eq_true rfl, by decide, Nat.le_of_ble_eq_true rfl, by decide, by decide⟩ (c_X7_bits (s30 0 (by decide))) (fun v9 B9 hC => ?_) (fun E9 B9 hC => absurd hC.1 (by simp))
  obtain ⟨hv9, e9⟩ := hC
  cases hv9
  refine xx_cst (st2 := [.int (nI (yb_n (fun k => decide (0 < X 0 k)) 6))]) rfl ?_
  rw [e9]
  refine xx_aload_n dX8_judge_31 rfl ?_
  refine xx_iload_n dX8_judge_32 rfl ?_
  refine xx_callV (N := mX8_bestBits) (vs := [.int 0]) (b := b) (rest := [.int (nI (yb_n (fun k => decide (0 < X 0 k)) 6))]) (d2 := 2) (c2 := 0) (s2 := 0) (c3 := 0) (s3 := 0) dX8_judge_33 wm_X8_222 wi_X8_bestBits wv_X8_bestBits (k := 8) rfl (by decide) hbx0 nX8_bestBits ⟨pX8_bestBits, Nat.le_of_ble_eq_true rfl, by decide, Nat.le_of_ble_eq_true rfl, by decide, by decide⟩ (c_X8_bestBits (p := 0) hbx0 ((f0a _ (by omega)).trans hc_2) hc2 K0a hm hn (by decide) (c1 0)) (fun v9 B9 hC => ?_) (fun E9 B9 hC => absurd hC.1 (by simp))
  obtain ⟨hv9, e9⟩ := hC
  cases hv9
  refine xx_cst (st2 := [.int (nI (ye_b V0a (yy_cn m n 0 - 1))), .int (nI (yb_n (fun k => decide (0 < X 0 k)) 6))]) rfl ?_
  rw [e9]
  have c60 := c6 0
  rw [ye_b_cg (V := V0a) (U := ye_v m n W X 0) (i := yy_cn m n 0 - 1) (fun k hk => v0a k (by have := c1 0; omega))]
  have tst0 := yb_sub6 (yb_n (fun k => decide (0 < X 0 k)) 6) (yb_lt _ 6) (ye_b (ye_v m n W X 0) (yy_cn m n 0 - 1)) (ye_b_z (by omega)).1
  refine xx_iconst (v := (-1)) dX8_judge_36 (by decide) ?_
  refine xx_ixor dX8_judge_37 ?_
  refine xx_iand dX8_judge_38 ?_
  refine xx_if_eq (tgt := 44) dX8_judge_39 (by decide) (fun j39 => ?_) (fun j39 => ?_)
  · have j39_0 := j39
    refine xx_iinc (v := 1) dX8_judge_44 rfl (by decide) (by decide) ?_
    refine xx_clv (lv2 := [(0, .ref b), (1, .int x), (2, .int 1)]) rfl ?_
    refine xx_goto (tgt := 12) dX8_judge_47 (by decide) ?_
    refine xx_iload_n dX8_judge_12 rfl ?_
    refine xx_iconst (v := 2) dX8_judge_13 (by decide) ?_
    refine xx_icmp_ge (tgt := 50) dX8_judge_14 (by decide) (fun h => absurd h (by decide)) (fun j14 => ?_)
    refine xx_aload_n dX8_judge_17 rfl ?_
    refine xx_iload_n dX8_judge_18 rfl ?_
    refine xx_callV (N := mX8_weighValues) (vs := [.int 1]) (b := b) (rest := []) (d2 := 5) (c2 := 0) (s2 := 0) (c3 := 0) (s3 := 0) dX8_judge_19 wm_X8_197 wi_X8_weighValues wv_X8_weighValues (k := 8) rfl (by decide) ((f0a _ (by omega)).trans hbl) nX8_weighValues ⟨pX8_weighValues, Nat.le_of_ble_eq_true rfl, by decide, Nat.le_of_ble_eq_true rfl, by decide, by decide⟩ (c_X8_weighValues (p := 1) ((f0a _ (by omega)).trans hbl) ((f0a _ (by omega)).trans hc_2) hc2 (P2.to (fun q9 a9 b9 => f0a q9 (by omega))) hm hn (by decide) hX K0a) (fun v9 Eq11 hC => ?_) (fun E9 B9 hC => absurd hC.1 (by simp))
    obtain ⟨hv9, z11, ⟨V1a, K1a, v1a⟩, f1a⟩ := hC
    cases hv9
    refine xx_cst (st2 := []) rfl ?_
    have hbx1 := (((f1a _ (by omega)).trans (f0a _ (by omega))).trans hbl)
    obtain ⟨⟨hs1, s11, s21⟩, s31, _⟩ := id K1a
    refine xx_aload_n dX8_judge_22 rfl ?_
    refine xx_get xx_c8 dX8_judge_23 wf_X8_66 (j := 12) (by decide) hbx1 rfl ?_
    refine xx_iload_n dX8_judge_26 rfl ?_
    refine xx_aald (kd := 17) (b := b + 250) dX8_judge_27 (by decide) rfl s11 (by unfold vp_in; decide) (s21 1 (by decide)) ?_
    have wt1 := (s31 1 (by decide)).1
    refine xx_callV (N := mX7_bits) (vs := []) (b := (b + 250)) (rest := []) (d2 := 0) (c2 := 0) (s2 := 0) (c3 := 0) (s3 := 0) dX8_judge_28 wm_X8_170 wi_X7_bits wv_X7_bits (k := 7) rfl (by decide) wt1 nX7_bits ⟨pX7_bits, Nat.le_of_ble_eq_true rfl, by decide, Nat.le_of_ble_eq_true rfl, by decide, by decide⟩ (c_X7_bits (s31 1 (by decide))) (fun v9 B9 hC => ?_) (fun E9 B9 hC => absurd hC.1 (by simp))
    obtain ⟨hv9, e9⟩ := hC
    cases hv9
    refine xx_cst (st2 := [.int (nI (yb_n (fun k => decide (0 < X 1 k)) 6))]) rfl ?_
    rw [e9]
    refine xx_aload_n dX8_judge_31 rfl ?_
    refine xx_iload_n dX8_judge_32 rfl ?_
    refine xx_callV (N := mX8_bestBits) (vs := [.int 1]) (b := b) (rest := [.int (nI (yb_n (fun k => decide (0 < X 1 k)) 6))]) (d2 := 2) (c2 := 0) (s2 := 0) (c3 := 0) (s3 := 0) dX8_judge_33 wm_X8_222 wi_X8_bestBits wv_X8_bestBits (k := 8) rfl (by decide) hbx1 nX8_bestBits ⟨pX8_bestBits, Nat.le_of_ble_eq_true rfl, by decide, Nat.le_of_ble_eq_true rfl, by decide, by decide⟩ (c_X8_bestBits (p := 1) hbx1 (((f1a _ (by omega)).trans (f0a _ (by omega))).trans hc_2) hc2 K1a hm hn (by decide) (c1 1)) (fun v9 B9 hC => ?_) (fun E9 B9 hC => absurd hC.1 (by simp))
    obtain ⟨hv9, e9⟩ := hC
    cases hv9
    refine xx_cst (st2 := [.int (nI (ye_b V1a (yy_cn m n 1 - 1))), .int (nI (yb_n (fun k => decide (0 < X 1 k)) 6))]) rfl ?_
    rw [e9]
    have c61 := c6 1
    rw [ye_b_cg (V := V1a) (U := ye_v m n W X 1) (i := yy_cn m n 1 - 1) (fun k hk => v1a k (by have := c1 1; omega))]
    have tst1 := yb_sub6 (yb_n (fun k => decide (0 < X 1 k)) 6) (yb_lt _ 6) (ye_b (ye_v m n W X 1) (yy_cn m n 1 - 1)) (ye_b_z (by omega)).1
    refine xx_iconst (v := (-1)) dX8_judge_36 (by decide) ?_
    refine xx_ixor dX8_judge_37 ?_
    refine xx_iand dX8_judge_38 ?_
    refine xx_if_eq (tgt := 44) dX8_judge_39 (by decide) (fun j39 => ?_) (fun j39 => ?_)
    · have j39_1 := j39
      refine xx_iinc (v := 2) dX8_judge_44 rfl (by decide) (by decide) ?_
      refine xx_clv (lv2 := [(0, .ref b), (1, .int x), (2, .int 2)]) rfl ?_
      refine xx_goto (tgt := 12) dX8_judge_47 (by decide) ?_
      refine xx_iload_n dX8_judge_12 rfl ?_
      refine xx_iconst (v := 2) dX8_judge_13 (by decide) ?_
      refine xx_icmp_ge (tgt := 50) dX8_judge_14 (by decide) (fun j14 => ?_) (fun h => absurd (by decide) h)
      refine xx_iconst (v := 1) dX8_judge_50 (by decide) ?_
      refine xx_zret dX8_judge_51 rfl rfl (Or.inl ⟨hS, V1a, _, by omega, K1a, hKK _ _ KL (fun q9 b9 => (f1a q9 (by omega)).trans (f0a q9 (by omega))), fun q9 a9 b9 => ((f1a q9 (by omega)).trans (f0a q9 (by omega))).trans (fl q9 a9), Or.inl ⟨fun p hp k hk h0 => ?_, rfl⟩⟩)
      rcases (show p = 0 ∨ p = 1 by omega) with z | z
      · rw [z] at h0 ⊢; exact tst0.mp j39_0 k hk (by rw [yb_ts _ hk]; exact decide_eq_true h0)
      · rw [z] at h0 ⊢; exact tst1.mp j39_1 k hk (by rw [yb_ts _ hk]; exact decide_eq_true h0)
    · refine xx_iconst (v := 0) dX8_judge_42 (by decide) ?_
      refine xx_zret dX8_judge_43 rfl rfl (Or.inl ⟨hS, V1a, _, by omega, K1a, hKK _ _ KL (fun q9 b9 => (f1a q9 (by omega)).trans (f0a q9 (by omega))), fun q9 a9 b9 => ((f1a q9 (by omega)).trans (f0a q9 (by omega))).trans (fl q9 a9), Or.inr ⟨fun h => ?_, rfl⟩⟩)
      exact j39 (tst1.mpr (fun k hk hb9 => h 1 (by decide) k hk (by rw [yb_ts _ hk] at hb9; exact of_decide_eq_true hb9)))
  · refine xx_iconst (v := 0) dX8_judge_42 (by decide) ?_
    refine xx_zret dX8_judge_43 rfl rfl (Or.inl ⟨hS, V0a, _, by omega, K0a, hKK _ _ KL (fun q9 b9 => f0a q9 (by omega)), fun q9 a9 b9 => (f0a q9 (by omega)).trans (fl q9 a9), Or.inr ⟨fun h => ?_, rfl⟩⟩)
    exact j39 (tst0.mpr (fun k hk hb9 => h 0 (by decide) k hk (by rw [yb_ts _ hk] at hb9; exact of_decide_eq_true hb9)))
