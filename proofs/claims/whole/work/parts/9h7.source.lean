/-! ===== any source, of both ===== -/
theorem xx_mno.u3 {B C : xx_H} {p py : Nat} {H9 : (Nat → Int32) → Prop} (h : xx_mno B p py H9) (h3 : ∃ f, C.2 (p + 3) = xx_i 36 f) (hq : ∀ q, p ≤ q → q < p + 5 → q ≠ p + 3 → C.2 q = B.2 q) : xx_mno C p py H9 := by
  obtain ⟨a1, ⟨f, a2, a3⟩, ⟨g, a4, a5⟩, _, ⟨k, a7⟩⟩ := h
  exact ⟨(hq _ (by omega) (by omega) (by omega)).trans a1, ⟨f, (hq _ (by omega) (by omega) (by omega)).trans a2, a3⟩, ⟨g, (hq _ (by omega) (by omega) (by omega)).trans a4, a5⟩, h3, k, (hq _ (by omega) (by omega) (by omega)).trans a7⟩
set_option maxRecDepth 100000 in
theorem c_X8_load_lK {G : xx_G} {l : Launch} {A : xx_H} {b m n : Nat} {u6 u7 u10 u11 : Value} {X : Nat → Nat → Int} {t V : Nat → Int} {o u w : Int} {W : Nat → Nat → Nat → Int} {le : Nat → Int} {E : Nat → Nat → Bool} {st : yn_S} {z e : Nat} (hb : A.2 b = xx_o 8 [.ref (b + 1), .ref (b + 2), .ref (b + 11), .ref (b + 18), .ref (b + 19), .ref (b + 226), u6, u7, .ref z, .ref (b + 230), u10, u11, .ref (b + 233), .ref (b + 266), .ref (b + 279), .ref (b + 281), .ref (b + 283), .ref (b + 288)]) (hg : yg_ok m n W le) (M9 : xx_mns A z b (yk_H (yn_a W le 0) m n) (yk_H (yn_a W le 1) n m)) (En : xx_ent A b st) (hok : yn_ok m n E st) (he : e < st.1) (hz : b + 297 ≤ z) (hk : xx_wk A b X t V o u w) : xx_X G l mX8_load 5 0 0 0 (lv_args 0 [.ref b, .int (nI e)]) [] A (fun z9 B => z9 = .inl none ∧ B.1 = A.1 ∧ xx_wk B b (fun p k => yn_w (yn_a W le (1 - p)) (if p = 0 then st.2.2 e else st.2.1 e) (if p = 0 then st.2.1 e else st.2.2 e) k) (fun p => yd_s 6 (fun k => yn_w (yn_a W le (1 - p)) (if p = 0 then st.2.2 e else st.2.1 e) (if p = 0 then st.2.1 e else st.2.2 e) k)) V o u w ∧ xx_mns B z b (yk_H (yn_a W le 0) m n) (yk_H (yn_a W le 1) n m) ∧ ∀ q, (q < b + 234 ∨ b + 266 ≤ q) → q ≠ z + 4 → q ≠ z + 10 → B.2 q = A.2 q) := by
  obtain ⟨⟨hs, k1, k2⟩, k3, _⟩ := id hk
  have hm1 := hg.1
  have hm := hg.2.1
  have hn1 := hg.2.2.1
  have hn := hg.2.2.2.1
  have mw := yk_pw hm
  have nw := yk_pw hn
  have c100 := hok.1
  obtain ⟨⟨hm9, mA, mB, mC⟩, H0, H1⟩ := id M9
  obtain ⟨⟨he9, eA, eB, eC⟩, ⟨f0, eD, eF⟩, ⟨f1, eG, eH⟩⟩ := id En
  have ab0 : ∀ i, i < m → ∀ j, j < n → (yn_a W le 0 i j).natAbs ≤ 554344561 := fun i hi j hj => (yn_a_b hg (p := 0) (by decide) i hi j hj).2
  have ab1 : ∀ i, i < n → ∀ j, j < m → (yn_a W le 1 i j).natAbs ≤ 554344561 := fun i hi j hj => (yn_a_b hg (p := 1) (by decide) i hi j hj).2
  obtain ⟨o1, o2, o3, o4, o5⟩ := hok.2 e he
  have bw : ∀ p, p < 2 → ∀ k, k < 6 → (yn_w (yn_a W le (1 - p)) (if p = 0 then st.2.2 e else st.2.1 e) (if p = 0 then st.2.1 e else st.2.2 e) k).natAbs < 2 ^ 400 := fun p hp k hk => Nat.lt_trans (yn_w_b hg hok he hp k hk) (by decide +kernel)
  refine xx_clv (lv2 := [(0, .ref b), (1, .int (nI e))]) rfl ?_
  refine xx_iconst (v := 0) dX8_load_0 (by decide) ?_
  refine xx_istore_n dX8_load_1 (by decide) ?_
  refine xx_clv (lv2 := [(0, .ref b), (1, .int (nI e)), (2, .int 0)]) rfl ?_
  refine xx_iload_n dX8_load_2 rfl ?_
  refine xx_iconst (v := 2) dX8_load_3 (by decide) ?_
  refine xx_icmp_ge (tgt := 132) dX8_load_4 (by decide) (fun h => absurd h (by decide)) (fun j4 => ?_)
  refine xx_aload_n dX8_load_7 rfl ?_
  refine xx_get xx_c8 dX8_load_8 wf_X8_66 (j := 12) (by decide) hb rfl ?_
  refine xx_iload_n dX8_load_11 rfl ?_
  refine xx_aald (kd := 17) (b := b + 234) dX8_load_12 (by decide) rfl k1 (by unfold vp_in; decide) (k2 0 (by decide)) ?_
  refine xx_astore_n dX8_load_13 (by decide) ?_
  refine xx_clv (lv2 := [(0, .ref b), (1, .int (nI e)), (2, .int 0), (3, .ref (b + 234))]) rfl ?_
  refine xx_aload_n dX8_load_14 rfl ?_
  have w1 : xx_wt A (b + 234) (X 0) (t 0) := (k3 0 (by decide))
  refine xx_callV (N := mX7_clear) (vs := []) (b := (b + 234)) (rest := []) (d2 := 2) (c2 := 0) (s2 := 0) (c3 := 0) (s3 := 0) dX8_load_15 wm_X8_292 wi_X7_clear wv_X7_clear (k := 7) rfl (by decide) w1.1 nX7_clear ⟨pX7_clear, Nat.le_of_ble_eq_true rfl, by decide, Nat.le_of_ble_eq_true rfl, by decide, by decide⟩ (c_X7_clear w1) (fun v9 E1 hC => ?_) (fun E9 B9 hC => absurd hC.1 (by simp))
  obtain ⟨hv9, z1, v1, fr1⟩ := hC
  cases hv9
  refine xx_cst (st2 := []) rfl ?_
  have hb1 := ((fr1 _ (by omega)).trans hb)
  refine xx_iload_n dX8_load_18 rfl ?_
  refine xx_bipush (v := (-2)) dX8_load_19 (by decide) ?_
  refine xx_icmp_ne (tgt := 37) dX8_load_21 (by decide) (fun j21 => ?_) (fun h => absurd h (ys_ng e (by omega)).1)
  refine xx_iload_n dX8_load_37 rfl ?_
  refine xx_iconst (v := (-1)) dX8_load_38 (by decide) ?_
  refine xx_icmp_ne (tgt := 75) dX8_load_39 (by decide) (fun j39 => ?_) (fun h => absurd h (ys_ng e (by omega)).2)
  refine xx_aload_n dX8_load_75 rfl ?_
  refine xx_get xx_c8 dX8_load_76 wf_X8_49 (j := 8) (by decide) hb1 rfl ?_
  refine xx_ifnull dX8_load_79 ?_
  refine xx_iload_n dX8_load_82 rfl ?_
  refine xx_if_lt (tgt := 122) dX8_load_83 (by decide) (fun h => absurd h (nI_pos (by omega))) (fun j83 => ?_)
  refine xx_iload_n dX8_load_86 rfl ?_
  refine xx_bipush (v := 100) dX8_load_87 (by decide) ?_
  refine xx_icmp_ge (tgt := 122) dX8_load_89 (by decide) (fun h => absurd h (nI_ge (a := e) (b := 100) (by omega) (by omega))) (fun j89 => ?_)
  refine xx_aload_n dX8_load_92 rfl ?_
  refine xx_get xx_c8 dX8_load_93 wf_X8_49 (j := 8) (by decide) hb1 rfl ?_
  refine xx_iconst (v := 1) dX8_load_96 (by decide) ?_
  refine xx_iload_n dX8_load_97 rfl ?_
  refine xx_isub dX8_load_98 ?_
  refine xx_eqi (y := 1) (by decide) ?_
  refine xx_aald (kd := 13) (b := z + 7) dX8_load_99 (by decide) rfl ((fr1 _ (by omega)).trans mA) (by unfold vp_in; decide) (mC) ?_
  refine xx_aload_n dX8_load_100 rfl ?_
  refine xx_get xx_c8 dX8_load_101 wf_X8_53 (j := 9) (by decide) hb1 rfl ?_
  refine xx_iconst (v := 1) dX8_load_104 (by decide) ?_
  refine xx_iload_n dX8_load_105 rfl ?_
  refine xx_isub dX8_load_106 ?_
  refine xx_eqi (y := 1) (by decide) ?_
  refine xx_aald (kd := 5) (b := b + 232) dX8_load_107 (by decide) rfl ((fr1 _ (by omega)).trans eA) (by unfold vp_in; decide) (eC) ?_
  refine xx_iload_n dX8_load_108 rfl ?_
  refine xx_iald dX8_load_109 ((fr1 _ (by omega)).trans eG) (vp_in_nI (by omega) (by decide)) ?_
  refine xx_eqi (y := nI (st.2.2 e)) (by rw [nI_clamp (by omega)]; exact eH e he) ?_
  refine xx_aload_n dX8_load_110 rfl ?_
  refine xx_get xx_c8 dX8_load_111 wf_X8_53 (j := 9) (by decide) hb1 rfl ?_
  refine xx_iload_n dX8_load_114 rfl ?_
  refine xx_aald (kd := 5) (b := b + 231) dX8_load_115 (by decide) rfl ((fr1 _ (by omega)).trans eA) (by unfold vp_in; decide) (eB) ?_
  refine xx_iload_n dX8_load_116 rfl ?_
  refine xx_iald dX8_load_117 ((fr1 _ (by omega)).trans eD) (vp_in_nI (by omega) (by decide)) ?_
  refine xx_eqi (y := nI (st.2.1 e)) (by rw [nI_clamp (by omega)]; exact eF e he) ?_
  refine xx_aload_n dX8_load_118 rfl ?_
  have l2 := (H1.to (fun q9 a9 b9 => fr1 q9 (by omega)))
  refine xx_callV (N := mX3_read) (vs := [.int (nI (st.2.2 e)), .int (nI (st.2.1 e)), .ref (b + 234)]) (b := (z + 7)) (rest := []) (d2 := 3) (c2 := 0) (s2 := 0) (c3 := 0) (s3 := 0) dX8_load_119 wm_X8_300 wi_X3_read wv_X3_read (k := 3) rfl (by decide) l2.1 nX3_read ⟨pX3_read, Nat.le_of_ble_eq_true rfl, by decide, Nat.le_of_ble_eq_true rfl, by decide, by decide⟩ (c_X3_read l2 hn hm o2 o1 o3.symm ab1 (by omega) v1 (fun _ _ => rfl)) (fun v9 E2 hC => ?_) (fun E9 B9 hC => absurd hC.1 (by simp))
  obtain ⟨hv9, z2, v2, ⟨r2, r2e⟩, fr2⟩ := hC
  cases hv9
  refine xx_cst (st2 := []) rfl ?_
  have hb2 := (((fr2 _ (by omega) (by omega)).trans (fr1 _ (by omega))).trans hb)
  refine xx_aload_n dX8_load_122 rfl ?_
  refine xx_callV (N := mX7_sumUp) (vs := []) (b := (b + 234)) (rest := []) (d2 := 4) (c2 := 0) (s2 := 0) (c3 := 0) (s3 := 0) dX8_load_123 wm_X8_301 wi_X7_sumUp wv_X7_sumUp (k := 7) rfl (by decide) v2.1 nX7_sumUp ⟨pX7_sumUp, Nat.le_of_ble_eq_true rfl, by decide, Nat.le_of_ble_eq_true rfl, by decide, by decide⟩ (c_X7_sumUp v2 (bw 0 (by decide))) (fun v9 E3 hC => ?_) (fun E9 B9 hC => absurd hC.1 (by simp))
  obtain ⟨hv9, z3, v3, fr3⟩ := hC
  cases hv9
  refine xx_cst (st2 := []) rfl ?_
  have hb3 := (((fr3 _ (by omega)).trans ((fr2 _ (by omega) (by omega)).trans (fr1 _ (by omega)))).trans hb)
  refine xx_iinc (v := 1) dX8_load_126 rfl (by decide) (by decide) ?_
  refine xx_clv (lv2 := [(0, .ref b), (1, .int (nI e)), (2, .int 1), (3, .ref (b + 234))]) rfl ?_
  refine xx_goto (tgt := 2) dX8_load_129 (by decide) ?_
  refine xx_iload_n dX8_load_2 rfl ?_
  refine xx_iconst (v := 2) dX8_load_3 (by decide) ?_
  refine xx_icmp_ge (tgt := 132) dX8_load_4 (by decide) (fun h => absurd h (by decide)) (fun j4 => ?_)
  refine xx_aload_n dX8_load_7 rfl ?_
  refine xx_get xx_c8 dX8_load_8 wf_X8_66 (j := 12) (by decide) hb3 rfl ?_
  refine xx_iload_n dX8_load_11 rfl ?_
  refine xx_aald (kd := 17) (b := b + 250) dX8_load_12 (by decide) rfl (((fr3 _ (by omega)).trans ((fr2 _ (by omega) (by omega)).trans (fr1 _ (by omega)))).trans k1) (by unfold vp_in; decide) (k2 1 (by decide)) ?_
  refine xx_astore_n dX8_load_13 (by decide) ?_
  refine xx_clv (lv2 := [(0, .ref b), (1, .int (nI e)), (2, .int 1), (3, .ref (b + 250))]) rfl ?_
  refine xx_aload_n dX8_load_14 rfl ?_
  have w4 : xx_wt E3 (b + 250) (X 1) (t 1) := ((k3 1 (by decide)).to (fun q9 a9 b9 => (fr3 q9 (by omega)).trans ((fr2 q9 (by omega) (by omega)).trans (fr1 q9 (by omega)))))
  refine xx_callV (N := mX7_clear) (vs := []) (b := (b + 250)) (rest := []) (d2 := 2) (c2 := 0) (s2 := 0) (c3 := 0) (s3 := 0) dX8_load_15 wm_X8_292 wi_X7_clear wv_X7_clear (k := 7) rfl (by decide) w4.1 nX7_clear ⟨pX7_clear, Nat.le_of_ble_eq_true rfl, by decide, Nat.le_of_ble_eq_true rfl, by decide, by decide⟩ (c_X7_clear w4) (fun v9 E4 hC => ?_) (fun E9 B9 hC => absurd hC.1 (by simp))
  obtain ⟨hv9, z4, v4, fr4⟩ := hC
  cases hv9
  refine xx_cst (st2 := []) rfl ?_
  have hb4 := (((fr4 _ (by omega)).trans ((fr3 _ (by omega)).trans ((fr2 _ (by omega) (by omega)).trans (fr1 _ (by omega))))).trans hb)
  refine xx_iload_n dX8_load_18 rfl ?_
  refine xx_bipush (v := (-2)) dX8_load_19 (by decide) ?_
  refine xx_icmp_ne (tgt := 37) dX8_load_21 (by decide) (fun j21 => ?_) (fun h => absurd h (ys_ng e (by omega)).1)
  refine xx_iload_n dX8_load_37 rfl ?_
  refine xx_iconst (v := (-1)) dX8_load_38 (by decide) ?_
  refine xx_icmp_ne (tgt := 75) dX8_load_39 (by decide) (fun j39 => ?_) (fun h => absurd h (ys_ng e (by omega)).2)
  refine xx_aload_n dX8_load_75 rfl ?_
  refine xx_get xx_c8 dX8_load_76 wf_X8_49 (j := 8) (by decide) hb4 rfl ?_
  refine xx_ifnull dX8_load_79 ?_
  refine xx_iload_n dX8_load_82 rfl ?_
  refine xx_if_lt (tgt := 122) dX8_load_83 (by decide) (fun h => absurd h (nI_pos (by omega))) (fun j83 => ?_)
  refine xx_iload_n dX8_load_86 rfl ?_
  refine xx_bipush (v := 100) dX8_load_87 (by decide) ?_
  refine xx_icmp_ge (tgt := 122) dX8_load_89 (by decide) (fun h => absurd h (nI_ge (a := e) (b := 100) (by omega) (by omega))) (fun j89 => ?_)
  refine xx_aload_n dX8_load_92 rfl ?_
  refine xx_get xx_c8 dX8_load_93 wf_X8_49 (j := 8) (by decide) hb4 rfl ?_
  refine xx_iconst (v := 1) dX8_load_96 (by decide) ?_
  refine xx_iload_n dX8_load_97 rfl ?_
  refine xx_isub dX8_load_98 ?_
  refine xx_eqi (y := 0) (by decide) ?_
  refine xx_aald (kd := 13) (b := z + 1) dX8_load_99 (by decide) rfl (((fr4 _ (by omega)).trans ((fr3 _ (by omega)).trans ((fr2 _ (by omega) (by omega)).trans (fr1 _ (by omega))))).trans mA) (by unfold vp_in; decide) (mB) ?_
  refine xx_aload_n dX8_load_100 rfl ?_
  refine xx_get xx_c8 dX8_load_101 wf_X8_53 (j := 9) (by decide) hb4 rfl ?_
  refine xx_iconst (v := 1) dX8_load_104 (by decide) ?_
  refine xx_iload_n dX8_load_105 rfl ?_
  refine xx_isub dX8_load_106 ?_
  refine xx_eqi (y := 0) (by decide) ?_
  refine xx_aald (kd := 5) (b := b + 231) dX8_load_107 (by decide) rfl (((fr4 _ (by omega)).trans ((fr3 _ (by omega)).trans ((fr2 _ (by omega) (by omega)).trans (fr1 _ (by omega))))).trans eA) (by unfold vp_in; decide) (eB) ?_
  refine xx_iload_n dX8_load_108 rfl ?_
  refine xx_iald dX8_load_109 (((fr4 _ (by omega)).trans ((fr3 _ (by omega)).trans ((fr2 _ (by omega) (by omega)).trans (fr1 _ (by omega))))).trans eD) (vp_in_nI (by omega) (by decide)) ?_
  refine xx_eqi (y := nI (st.2.1 e)) (by rw [nI_clamp (by omega)]; exact eF e he) ?_
  refine xx_aload_n dX8_load_110 rfl ?_
  refine xx_get xx_c8 dX8_load_111 wf_X8_53 (j := 9) (by decide) hb4 rfl ?_
  refine xx_iload_n dX8_load_114 rfl ?_
  refine xx_aald (kd := 5) (b := b + 232) dX8_load_115 (by decide) rfl (((fr4 _ (by omega)).trans ((fr3 _ (by omega)).trans ((fr2 _ (by omega) (by omega)).trans (fr1 _ (by omega))))).trans eA) (by unfold vp_in; decide) (eC) ?_
  refine xx_iload_n dX8_load_116 rfl ?_
  refine xx_iald dX8_load_117 (((fr4 _ (by omega)).trans ((fr3 _ (by omega)).trans ((fr2 _ (by omega) (by omega)).trans (fr1 _ (by omega))))).trans eG) (vp_in_nI (by omega) (by decide)) ?_
  refine xx_eqi (y := nI (st.2.2 e)) (by rw [nI_clamp (by omega)]; exact eH e he) ?_
  refine xx_aload_n dX8_load_118 rfl ?_
  have l5 := (H0.to (fun q9 a9 b9 => (fr4 q9 (by omega)).trans ((fr3 q9 (by omega)).trans ((fr2 q9 (by omega) (by omega)).trans (fr1 q9 (by omega))))))
  refine xx_callV (N := mX3_read) (vs := [.int (nI (st.2.1 e)), .int (nI (st.2.2 e)), .ref (b + 250)]) (b := (z + 1)) (rest := []) (d2 := 3) (c2 := 0) (s2 := 0) (c3 := 0) (s3 := 0) dX8_load_119 wm_X8_300 wi_X3_read wv_X3_read (k := 3) rfl (by decide) l5.1 nX3_read ⟨pX3_read, Nat.le_of_ble_eq_true rfl, by decide, Nat.le_of_ble_eq_true rfl, by decide, by decide⟩ (c_X3_read l5 hm hn o1 o2 o3 ab0 (by omega) v4 (fun _ _ => rfl)) (fun v9 E5 hC => ?_) (fun E9 B9 hC => absurd hC.1 (by simp))
  obtain ⟨hv9, z5, v5, ⟨r5, r5e⟩, fr5⟩ := hC
  cases hv9
  refine xx_cst (st2 := []) rfl ?_
  have hb5 := (((fr5 _ (by omega) (by omega)).trans ((fr4 _ (by omega)).trans ((fr3 _ (by omega)).trans ((fr2 _ (by omega) (by omega)).trans (fr1 _ (by omega)))))).trans hb)
  refine xx_aload_n dX8_load_122 rfl ?_
  refine xx_callV (N := mX7_sumUp) (vs := []) (b := (b + 250)) (rest := []) (d2 := 4) (c2 := 0) (s2 := 0) (c3 := 0) (s3 := 0) dX8_load_123 wm_X8_301 wi_X7_sumUp wv_X7_sumUp (k := 7) rfl (by decide) v5.1 nX7_sumUp ⟨pX7_sumUp, Nat.le_of_ble_eq_true rfl, by decide, Nat.le_of_ble_eq_true rfl, by decide, by decide⟩ (c_X7_sumUp v5 (bw 1 (by decide))) (fun v9 E6 hC => ?_) (fun E9 B9 hC => absurd hC.1 (by simp))
  obtain ⟨hv9, z6, v6, fr6⟩ := hC
  cases hv9
  refine xx_cst (st2 := []) rfl ?_
  have hb6 := (((fr6 _ (by omega)).trans ((fr5 _ (by omega) (by omega)).trans ((fr4 _ (by omega)).trans ((fr3 _ (by omega)).trans ((fr2 _ (by omega) (by omega)).trans (fr1 _ (by omega))))))).trans hb)
  refine xx_iinc (v := 2) dX8_load_126 rfl (by decide) (by decide) ?_
  refine xx_clv (lv2 := [(0, .ref b), (1, .int (nI e)), (2, .int 2), (3, .ref (b + 250))]) rfl ?_
  refine xx_goto (tgt := 2) dX8_load_129 (by decide) ?_
  refine xx_iload_n dX8_load_2 rfl ?_
  refine xx_iconst (v := 2) dX8_load_3 (by decide) ?_
  refine xx_icmp_ge (tgt := 132) dX8_load_4 (by decide) (fun j4 => ?_) (fun h => absurd (by decide) h)
  have cz : E6.2 z = xx_r 13 2 hm9 := ((fr6 _ (by omega)).trans ((fr5 _ (by omega) (by omega)).trans ((fr4 _ (by omega)).trans ((fr3 _ (by omega)).trans ((fr2 _ (by omega) (by omega)).trans (fr1 _ (by omega))))))).trans mA
  refine xx_vret dX8_load_132 rfl ⟨rfl, by omega, hk.str (v3.to (fun q9 a9 b9 => (fr6 q9 (by omega)).trans ((fr5 q9 (by omega) (by omega)).trans (fr4 q9 (by omega))))) v6 (fun q9 a9 b9 => (fr6 q9 (by omega)).trans ((fr5 q9 (by omega) (by omega)).trans ((fr4 q9 (by omega)).trans ((fr3 q9 (by omega)).trans ((fr2 q9 (by omega) (by omega)).trans (fr1 q9 (by omega))))))), ⟨⟨hm9, cz, mB, mC⟩, H0.u3 ⟨r5, (fr6 _ (by omega)).trans r5e⟩ (fun q9 a9 b9 c9 => (fr6 q9 (by omega)).trans ((fr5 q9 (by omega) (by omega)).trans ((fr4 q9 (by omega)).trans ((fr3 q9 (by omega)).trans ((fr2 q9 (by omega) (by omega)).trans (fr1 q9 (by omega))))))), H1.u3 ⟨r2, (fr6 _ (by omega)).trans ((fr5 _ (by omega) (by omega)).trans ((fr4 _ (by omega)).trans ((fr3 _ (by omega)).trans r2e)))⟩ (fun q9 a9 b9 c9 => (fr6 q9 (by omega)).trans ((fr5 q9 (by omega) (by omega)).trans ((fr4 q9 (by omega)).trans ((fr3 q9 (by omega)).trans ((fr2 q9 (by omega) (by omega)).trans (fr1 q9 (by omega)))))))⟩, fun q9 a9 b9 c9 => (fr6 q9 (by omega)).trans ((fr5 q9 (by omega) (by omega)).trans ((fr4 q9 (by omega)).trans ((fr3 q9 (by omega)).trans ((fr2 q9 (by omega) (by omega)).trans (fr1 q9 (by omega))))))⟩
theorem yn_w_0 {a : Nat → Nat → Int} {S U k : Nat} : 0 ≤ yn_w a S U k := by
  unfold yn_w
  split
  · exact Int.natCast_nonneg _
  · exact Int.le_refl _
theorem yn_tt_p {m n : Nat} {W : Nat → Nat → Nat → Int} {le : Nat → Int} {S U : Nat} (hg : yg_ok m n W le) (hS : S < 2 ^ m) (hU : U < 2 ^ n) (hc : yb_c U = yb_c S) (hc0 : 0 < yb_c S) (h : yn_h m n W le S U) : ∀ p, p < 2 → 0 < yn_tt W le S U p := by
  intro p hp
  have mw := yk_pw hg.2.1
  have nw := yk_pw hg.2.2.2.1
  unfold yn_tt yn_X
  rcases (show p = 0 ∨ p = 1 by omega) with y | y
  · subst y
    rw [if_pos rfl, if_pos rfl]
    have g := (yi_h (p := 1) (S := U) (U := S) (X := fun _ _ => 0) hg (by decide) hU hS hc.symm (by omega)).1 h.2
    show 0 < yd_s 6 (fun k => yn_w (yn_a W le 1) U S k)
    rw [← yi_tot (by omega) hc.symm g]
    have := g.1
    omega
  · subst y
    rw [if_neg (by decide), if_neg (by decide)]
    have g := (yi_h (p := 0) (S := S) (U := U) (X := fun _ _ => 0) hg (by decide) hS hU hc hc0).1 h.1
    show 0 < yd_s 6 (fun k => yn_w (yn_a W le 0) S U k)
    rw [← yi_tot (by omega) hc g]
    have := g.1
    omega
theorem yx_195 {f : Nat → Int} (h : ∀ k, k < 6 → (f k).natAbs < 2 ^ 192) : (yd_s 6 f).natAbs < 2 ^ 195 := Nat.lt_of_le_of_lt (yd_s_abs (K := 2 ^ 192) (fun i hi => Nat.le_of_lt (h i hi))) (by decide +kernel)
theorem yx_ns (N : Nat → Int) : xx_ns N N := ⟨rfl, rfl, fun _ _ => rfl⟩
/-- a source: what the class loads, where the reference has it -/
theorem yx_source {G : xx_G} {l : Launch} {A : xx_H} {b : Nat} {m n : Nat} {ra : Nat → Nat → Int} {rd : Nat → Nat → Nat} {W : Nat → Nat → Nat → Int} {le : Nat → Int} {mu : Nat → Nat} {ta tb : Nat → Nat → Nat} {th9 : Nat → Nat} {st lb : Nat} {li : Bool} {s9 : yn_S} {u w9 : Int} {u8 : Value} {X0 : Nat → Nat → Int} {t0 V0 : Nat → Int} {o0 : Int} (HC : yx_c A b m n ra rd W le mu ta tb th9 st lb li s9 u w9 u8) (P : yx_p m n ra rd W le mu ta tb th9 st lb li s9) (K0 : xx_wk A b X0 t0 V0 o0 u w9) (x : Int32) : ∃ (X : Nat → Nat → Int) (t : Nat → Int) (w : Nat), 300 ≤ w ∧ w + 14 ≤ 1740 ∧ (∀ q, q < 2 → 0 < t q ∧ (t q).natAbs < 2 ^ 195) ∧ (∀ q, q < 2 → ∀ k, k < 6 → (X q k).natAbs < 2 ^ 192) ∧ (∀ q, q < 2 → ∀ k, k < 6 → 0 ≤ X q k) ∧ (ys_ok ta tb st s9.1 li x → xx_X G l mX8_load 8 0 0 0 (lv_args 0 [.ref b, .int x]) [] A (fun z B => z = .inl none ∧ B.1 = A.1 ∧ xx_wk B b X t V0 o0 u w9 ∧ yx_mn B b u8 li m n W le ∧ ∀ q, (q < b + 234 ∨ (b + 266 ≤ q ∧ q < b + 320)) → B.2 q = A.2 q)) ∧ (∀ (B : xx_H) (th tu : Value) (N : Nat → Int) (S9 : Nat → Bool), yx_m B (b + 297) m n ra rd W le mu ta tb th9 st lb li s9 u w9 th tu N S9 → xx_X G l mX9_placeOf 5 0 0 0 (lv_args 0 [.ref (b + 297), .int x]) [] B (fun z C => C.1 = B.1 ∧ (∃ N2, xx_rw C (b + 297) N2 ∧ xx_ns N2 N ∧ (((ys_ok ta tb st s9.1 li x) ∧ z = .inl (some (.int (nI w))) ∧ xx_pl N2 w X t) ∨ (¬ (ys_ok ta tb st s9.1 li x) ∧ z = .inl (some (.int (-1)))))) ∧ ∀ q, q ≠ b + 297 + 1 → q ≠ b + 297 + 2 → q ≠ b + 297 + 3 → q ≠ b + 297 + 17 → q ≠ b + 297 + 18 → C.2 q = B.2 q)) := by
  have HC2 := HC
  obtain ⟨c1, ⟨fc, c2, c3⟩, c4, c5, c6, c7, c8, ⟨ft, c9, c10⟩, ⟨ht, c11, c12⟩, c13, ⟨hp, c14, c15⟩, c16, c17, c18, c19, ⟨X0, t0, V0, o0, c20⟩⟩ := HC2
  obtain ⟨p1, p2, p3, p4, p5, p6, p7, p8, ⟨E, p9, p10, p11⟩⟩ := id P
  have hm1 := p1.1
  have hm := p1.2.1
  have hn1 := p1.2.2.1
  have hn := p1.2.2.2.1
  have h100 := p10.1
  by_cases hS : ys_ok ta tb st s9.1 li x
  · rcases id hS with ⟨rfl, hS2⟩ | ⟨rfl, hS2⟩ | ⟨hli, e, he, rfl⟩
    · -- told
      have tk : ∀ p, p < 2 → ∀ k, k < 6 → ta p k ≤ 999 ∧ 1 ≤ tb p k ∧ tb p k ≤ 999 := fun p hp k hk => ⟨(p4 p hp k hk).1, (p4 p hp k hk).2.1, (p4 p hp k hk).2.2.1⟩
      have et : ∀ p, p < 2 → yd_s 6 (fun k => ((yp_s (ta p) (tb p) k : Nat) : Int)) = ((yp_d (tb p) 6 : Nat) : Int) := fun p hp => by rw [yp_t_s, hS2 p hp]
      have hX : ∀ q, q < 2 → ∀ k, k < 6 → (((yp_s (ta q) (tb q) k : Nat) : Int)).natAbs < 2 ^ 192 := fun q hq k hk => by
        rw [Int.natAbs_natCast]
        exact Nat.lt_trans (yp_s_b hk (tk q hq)) (by decide +kernel)
      refine ⟨fun p k => ((yp_s (ta p) (tb p) k : Nat) : Int), fun p => yd_s 6 (fun k => ((yp_s (ta p) (tb p) k : Nat) : Int)), 314, by decide, by decide, fun q hq => ⟨?_, yx_195 (fun k hk => hX q hq k hk)⟩, hX, fun q hq k hk => Int.natCast_nonneg _, fun _ => ?_, fun B th tu N S9 hmB => ?_⟩
      · show 0 < yd_s 6 (fun k => ((yp_s (ta q) (tb q) k : Nat) : Int))
        rw [et q hq]
        have := yp_d_p (tb := tb q) (n := 6) (fun k hk => (tk q hq k hk).2.1)
        omega
      · refine xx_room (d2 := 5) (c2 := 0) (s2 := 0) (by decide) (by decide) (by decide) (xx_mono (fun z B hr => ?_) (c_X8_load_t (m := m) (n := n) c1 c8 K0))
        obtain ⟨h1, h2, h3, h4⟩ := hr
        exact ⟨h1, h2, h3, c19.to (fun q a => h4 q (by omega)), fun q a => h4 q (by omega)⟩
      · obtain ⟨m1, m2, m3, m4, m5, m6, m7, m8, m9, m10, ⟨f12, m11⟩, m12, ⟨g19, m13⟩, ⟨g20, m14⟩, m15, ⟨g21, m16⟩⟩ := id hmB
        refine xx_mono (fun z C hr => ?_) (c_X9_place_t m1 m9 p4 hm hn hm1 m2)
        obtain ⟨h1, ⟨N2, h2, h3, h4⟩, h5⟩ := hr
        refine ⟨h1, ⟨N2, h2, h3, ?_⟩, h5⟩
        rcases h4 with ⟨a1, a2, a3⟩ | ⟨a1, a2⟩
        · exact Or.inl ⟨hS, a2, a3.1, fun q hq => (a3.2 q hq).trans (et q hq).symm⟩
        · exact absurd hS2 a1
    · -- run
      have sn : ¬ st = 0 := by omega
      obtain ⟨lbm, q9, eq9, hq9⟩ := p7.resolve_left sn
      subst eq9
      have yg := yw_good p1 lbm hq9
      obtain ⟨ok0, k00⟩ := yg_start p1 lbm
      have g9 := yg_g p1
      have okq := (yq_all g9 ok0 k00 (N := q9) hq9.2.2 q9 (Nat.le_refl _)).1
      have lf : ∀ t, t < 2 → yq_lf m n (yg_a m n W le) t ((yg_p m n W le lb (q9 + 1)).1 t) := yq_lf_put g9 okq
      refine ⟨yw_w m n (yg_a m n W le) (yg_p m n W le lb (q9 + 1)), fun p => yd_s 6 (yw_w m n (yg_a m n W le) (yg_p m n W le lb (q9 + 1)) p), 300, by decide, by decide, fun q hq => ⟨?_, yx_195 (fun k hk => ((yg q hq).1 k hk).2)⟩, fun q hq k hk => ((yg q hq).1 k hk).2, fun q hq k hk => ((yg q hq).1 k hk).1, fun _ => ?_, fun B th tu N S9 hmB => ?_⟩
      · show 0 < yd_s 6 (fun k => yw_w m n (yg_a m n W le) (yg_p m n W le lb (q9 + 1)) q k)
        rw [← (yg q hq).2.1]
        exact (yg q hq).2.2.1
      · refine xx_room (d2 := 5) (c2 := 0) (s2 := 0) (by decide) (by decide) (by decide) (xx_mono (fun z B hr => ?_) (c_X8_load_r (W := W) (le := le) c1 c2 c3 hm hn c11 c12 (c17 hS2) lf (fun p hp k hk => Nat.lt_trans ((yg p hp).1 k hk).2 (by decide +kernel)) K0))
        obtain ⟨h1, h2, h3, h4⟩ := hr
        exact ⟨h1, h2, h3, c19.to (fun q a => h4 q (by omega)), fun q a => h4 q (by omega)⟩
      · obtain ⟨m1, m2, m3, m4, m5, m6, m7, m8, m9, m10, ⟨f12, m11⟩, m12, ⟨g19, m13⟩, ⟨g20, m14⟩, m15, ⟨g21, m16⟩⟩ := id hmB
        rw [if_neg sn] at m1
        refine xx_mono (fun z C hr => ?_) (c_X9_place_r1 m1 hm1 hm (by omega))
        obtain ⟨h1, rfl⟩ := hr
        refine ⟨rfl, ⟨N, m2, yx_ns N, Or.inl ⟨hS, h1, fun q hq k hk => (m5 hS2 q hq).1 k hk, fun q hq => ?_⟩⟩, fun _ _ _ _ _ _ => rfl⟩
        rw [show 300 + 12 + q = 312 + q by omega]
        exact (m5 hS2 q hq).2.trans (yg q hq).2.1
    · -- an entry
      subst hli
      obtain ⟨o1, o2, o3, o4, o5⟩ := p10.2 e he
      have hh := (p9 _ _).mp o5
      have hX := yn_X_b p1 o1 o2 o3
      have ng := ys_ng e (by omega)
      refine ⟨yn_X W le (s9.2.1 e) (s9.2.2 e), yn_tt W le (s9.2.1 e) (s9.2.2 e), 330 + 14 * e, by omega, by omega, fun q hq => ⟨yn_tt_p p1 o1 o2 o3 o4 hh q hq, yx_195 (hX q hq)⟩, hX, fun q hq k hk => yn_w_0, fun _ => ?_, fun B th tu N S9 hmB => ?_⟩
      · rcases c19 with ⟨_, w⟩ | ⟨zm, e1, e2, e3, e4⟩
        · exact absurd w (by decide)
        · subst e1
          refine xx_room (d2 := 5) (c2 := 0) (s2 := 0) (by decide) (by decide) (by decide) (xx_mono (fun z B hr => ?_) (c_X8_load_lK c1 p1 (e4 rfl) c18 p10 he (by omega) K0))
          obtain ⟨h1, h2, h3, h4, h5⟩ := hr
          exact ⟨h1, h2, h3, Or.inr ⟨zm, rfl, e2, h4.mo, fun _ => h4⟩, fun q a => h5 q (by omega) (by omega) (by omega)⟩
      · obtain ⟨m1, m2, m3, m4, m5, m6, m7, m8, m9, m10, ⟨f12, m11⟩, m12, ⟨g19, m13⟩, ⟨g20, m14⟩, m15, ⟨g21, m16⟩⟩ := id hmB
        refine xx_mono (fun z C hr => ?_) (c_X9_place_e m1 hm1 hm ng.1 ng.2 h100)
        obtain ⟨rfl, h1⟩ := hr
        refine ⟨rfl, ⟨N, m2, yx_ns N, ?_⟩, fun _ _ _ _ _ _ => rfl⟩
        rcases h1 with ⟨e2, a1, a2, _, a3⟩ | ⟨a1, _⟩
        · have ee : e = e2 := nI_inj2 (by omega) (by omega) a2
          subst ee
          exact Or.inl ⟨hS, a3, m6 e he⟩
        · exact absurd ⟨rfl, e, he, rfl⟩ a1
  · refine ⟨fun _ _ => 0, fun _ => 1, 300, by decide, by decide, fun q hq => ⟨by show (0 : Int) < 1; decide, by show (1 : Int).natAbs < 2 ^ 195; decide +kernel⟩, fun q hq k hk => by show (0 : Int).natAbs < 2 ^ 192; decide +kernel, fun q hq k hk => Int.le_refl _, fun h => absurd h hS, fun B th tu N S9 hmB => ?_⟩
    obtain ⟨m1, m2, m3, m4, m5, m6, m7, m8, m9, m10, ⟨f12, m11⟩, m12, ⟨g19, m13⟩, ⟨g20, m14⟩, m15, ⟨g21, m16⟩⟩ := id hmB
    by_cases y2 : x = -2
    · subst y2
      refine xx_mono (fun z C hr => ?_) (c_X9_place_t m1 m9 p4 hm hn hm1 m2)
      obtain ⟨h1, ⟨N2, h2, h3, h4⟩, h5⟩ := hr
      refine ⟨h1, ⟨N2, h2, h3, ?_⟩, h5⟩
      rcases h4 with ⟨a1, a2, a3⟩ | ⟨a1, a2⟩
      · exact absurd (Or.inl ⟨rfl, a1⟩) hS
      · exact Or.inr ⟨hS, a2⟩
    · by_cases y1 : x = -1
      · subst y1
        have s0 : st = 0 := by
          rcases Nat.eq_zero_or_pos st with h | h
          · exact h
          · exact absurd (Or.inr (Or.inl ⟨rfl, h⟩)) hS
        rw [if_pos s0] at m1
        refine xx_mono (fun z C hr => ?_) (c_X9_place_r0 (lb := 0) m1 hm1 hm)
        obtain ⟨h1, rfl⟩ := hr
        exact ⟨rfl, ⟨N, m2, yx_ns N, Or.inr ⟨hS, h1⟩⟩, fun _ _ _ _ _ _ => rfl⟩
      · refine xx_mono (fun z C hr => ?_) (c_X9_place_e m1 hm1 hm y2 y1 h100)
        obtain ⟨rfl, h1⟩ := hr
        refine ⟨rfl, ⟨N, m2, yx_ns N, ?_⟩, fun _ _ _ _ _ _ => rfl⟩
        rcases h1 with ⟨e2, a1, a2, a4, a3⟩ | ⟨a1, a3⟩
        · exact absurd (Or.inr (Or.inr ⟨a4, e2, a1, a2⟩)) hS
        · exact Or.inr ⟨hS, a3⟩
/-- the reference's picture with a new hand -/
theorem yx_m.hd {B C : xx_H} {c : Nat} {m n : Nat} {ra : Nat → Nat → Int} {rd : Nat → Nat → Nat} {W : Nat → Nat → Nat → Int} {le : Nat → Int} {mu : Nat → Nat} {ta tb : Nat → Nat → Nat} {th9 : Nat → Nat} {st lb : Nat} {li : Bool} {s9 : yn_S} {u w9 : Int} {u2 w2 : Int} {th th2 tu tu2 : Value} {N N2 : Nat → Int} {S9 : Nat → Bool} (h : yx_m B c m n ra rd W le mu ta tb th9 st lb li s9 u w9 th tu N S9) (hb : C.2 c = xx_o 9 (xx_mf c th2 (.int (nI m)) (.int (nI n)) (.int (if st = 0 then -1 else nI lb)) (.int (nI st)) (.int (if li then 1 else 0)) (.int (nI s9.1)) tu2)) (hN : xx_rw C c N2) (e16 : N2 16 = u2) (e17 : N2 17 = w2) (hn : xx_nh N2 N) (hq : ∀ q, q ≠ c → q ≠ c + 1 → q ≠ c + 2 → q ≠ c + 3 → q ≠ c + 17 → q ≠ c + 18 → C.2 q = B.2 q) : yx_m C c m n ra rd W le mu ta tb th9 st lb li s9 u2 w2 th2 tu2 N2 S9 := by
  obtain ⟨m1, m2, m3, m4, m5, m6, m7, m8, m9, m10, ⟨f12, m11⟩, m12, ⟨g19, m13⟩, ⟨g20, m14⟩, m15, ⟨g21, m16⟩⟩ := h
  exact ⟨hb, hN, e16, e17, fun s0 p hp => ⟨fun j hj => (hn _ (by omega)).trans ((m5 s0 p hp).1 j hj), (hn _ (by omega)).trans (m5 s0 p hp).2⟩, m6.to (fun r a d => hn r (by omega)), m7.to (hq _ (by omega) (by omega) (by omega) (by omega) (by omega) (by omega)) (hq _ (by omega) (by omega) (by omega) (by omega) (by omega) (by omega)) (hq _ (by omega) (by omega) (by omega) (by omega) (by omega) (by omega)), m8.to (hq _ (by omega) (by omega) (by omega) (by omega) (by omega) (by omega)) (hq _ (by omega) (by omega) (by omega) (by omega) (by omega) (by omega)), m9.to (hq _ (by omega) (by omega) (by omega) (by omega) (by omega) (by omega)) (hq _ (by omega) (by omega) (by omega) (by omega) (by omega) (by omega)), m10.to (hq _ (by omega) (by omega) (by omega) (by omega) (by omega) (by omega)), ⟨f12, (hq _ (by omega) (by omega) (by omega) (by omega) (by omega) (by omega)).trans m11⟩, m12.to (fun q a d => hq q (by omega) (by omega) (by omega) (by omega) (by omega) (by omega)), ⟨g19, (hq _ (by omega) (by omega) (by omega) (by omega) (by omega) (by omega)).trans m13⟩, ⟨g20, (hq _ (by omega) (by omega) (by omega) (by omega) (by omega) (by omega)).trans m14⟩, m15.to (hq _ (by omega) (by omega) (by omega) (by omega) (by omega) (by omega)), g21, (hq _ (by omega) (by omega) (by omega) (by omega) (by omega) (by omega)).trans m16⟩
