/-! ===== bigs: a row of new numbers ===== -/
/-- n numbers, each 0, at a row's place and behind it -/
def xx_row (B : xx_H) (a n : Nat) : Prop := (∃ f : Nat → Option Nat, B.2 a = xx_r 10 n f ∧ ∀ j, j < n → f j = some (a + 1 + 2 * j)) ∧ ∀ j, j < n → B.2 (a + 1 + 2 * j) = xx_o 0 [.int 0, .int 0, .ref (a + 2 + 2 * j)] ∧ B.2 (a + 2 + 2 * j) = xx_i 14 (fun _ => 0)
theorem xx_mthX8 : xx_mth RX8 311 Lib.Math.max.name Lib.Math.max.code 2 := ⟨wm_X8_311, wq_s_max, wq_z, wq_c_max⟩
set_option maxRecDepth 100000 in
theorem l_X8_bigs {G : xx_G} {l : Launch} {A : xx_H} {N : Nat} (hN : N ≤ 1000) {Q : Option Value ⊕ String → xx_H → Prop} (hq : ∀ B : xx_H, B.1 = A.1 + 1 + 2 * N → xx_row B A.1 N → (∀ q, q < A.1 → B.2 q = A.2 q) → Q (.inl (some (.ref A.1))) B) :
    ∀ (r i : Nat), i + r = N → ∀ (B : xx_H) (f : Nat → Option Nat), B.1 = A.1 + 1 + 2 * i → B.2 A.1 = xx_r 10 N f → (∀ j, j < i → f j = some (A.1 + 1 + 2 * j)) → (∀ j, j < i → B.2 (A.1 + 1 + 2 * j) = xx_o 0 [.int 0, .int 0, .ref (A.1 + 2 + 2 * j)] ∧ B.2 (A.1 + 2 + 2 * j) = xx_i 14 (fun _ => 0)) → (∀ q, q < A.1 → B.2 q = A.2 q) →
      xx_X G l mX8_bigs 3 (2 * r) (17 * r) 11 [(0, .int (nI N)), (1, .ref A.1), (2, .int (nI i))] [] B Q := by
  intro r
  induction r with
  | zero =>
    intro i hi B f hz ha hf hrow hfr
    have : i = N := by omega
    subst this
    refine xx_iload_n dX8_bigs_11 rfl ?_
    refine xx_aload_n dX8_bigs_12 rfl ?_
    refine xx_alen (kd := 10) (v := nI i) dX8_bigs_13 (by decide) ha rfl ?_
    refine xx_icmp_ge (tgt := 33) dX8_bigs_14 (by decide) (fun h => ?_) (fun h => absurd (Int32.le_refl _) h)
    refine xx_aload_n dX8_bigs_33 rfl ?_
    exact xx_aret dX8_bigs_34 rfl (Or.inr ⟨_, rfl⟩) (hq B hz ⟨⟨f, ha, hf⟩, hrow⟩ hfr)
  | succ r ih =>
    intro i hi B f hz ha hf hrow hfr
    refine xx_room (d2 := 3) (c2 := 2 * r + 1 + 1) (s2 := 17 * r + 14 + 3) (by omega) (by omega) (by omega) ?_
    refine xx_iload_n dX8_bigs_11 rfl ?_
    refine xx_aload_n dX8_bigs_12 rfl ?_
    refine xx_alen (kd := 10) (v := nI N) dX8_bigs_13 (by decide) ha rfl ?_
    refine xx_icmp_ge (tgt := 33) dX8_bigs_14 (by decide) (fun h => absurd h (nI_ge (by omega) (by omega))) (fun h => ?_)
    refine xx_aload_n dX8_bigs_17 rfl ?_
    refine xx_iload_n dX8_bigs_18 rfl ?_
    refine xx_new xx_c0 (fs := [.int 0, .int 0, .null]) dX8_bigs_19 wc_X8_78 wn_X0 wz_X0 df_X0 (xx_gp fun A1 z1 h1 o1 => ?_)
    have h1 : A1.2 B.1 = xx_o 0 [.int 0, .int 0, .null] := h1
    have ha_1 := (o1 A.1 (by omega)).trans ha
    refine xx_dup dX8_bigs_22 rfl ?_
    refine xx_callIN (N := mX0_init) (vs := []) (b := B.1) (rest := [.ref B.1, .int (nI i), .ref A.1]) (host := RX8) (d2 := 1) (c2 := 1) (s2 := 14) (c3 := 2 * r) (s3 := 17 * r) dX8_bigs_23 rfl rfl rfl (by decide) wi_X0_init (by decide) nX0_init ⟨pX0_init, Nat.le_of_ble_eq_true rfl, by decide, Nat.le_of_ble_eq_true rfl, by omega, by omega⟩ (c_X0_init h1) (fun v C hC => ?_) (fun E C hC => ?_)
    rotate_left
    · exact absurd hC.1 (by simp)
    obtain ⟨hv, y1, y2, y3, y4⟩ := hC
    cases hv
    refine xx_cst (st2 := [.ref B.1, .int (nI i), .ref A.1]) rfl ?_
    have ha2 := (y4 A.1 (by omega) (by omega)).trans ha_1
    refine xx_aast xx_c0 dX8_bigs_26 (by decide) rfl ha2 y2 (vp_in_nI (by omega) (by omega)) (xx_gu fun D z9 h9 o9 => ?_)
    rw [nI_clamp (by omega)] at h9
    refine xx_iinc (v := nI (i + 1)) dX8_bigs_27 rfl (nI_1 i) (by decide) ?_
    refine xx_clv (lv2 := [(0, .int (nI N)), (1, .ref A.1), (2, .int (nI (i + 1)))]) rfl ?_
    refine xx_goto (tgt := 11) dX8_bigs_30 (by decide) ?_
    have e1 : B.1 = A.1 + 1 + 2 * i := hz
    have e2 : A1.1 = A.1 + 2 + 2 * i := by omega
    refine ih (i + 1) (by omega) D (va_up f i (some B.1)) (by omega) h9 (fun j hj => ?_) (fun j hj => ?_) (fun q hq => ?_)
    · by_cases e : j = i
      · subst e; simp [va_up]; exact e1
      · simp only [va_up, e, if_false]; exact hf j (by omega)
    · by_cases e : j = i
      · subst e
        rw [o9 _ (by omega), o9 _ (by omega), ← e1, ← e2]
        exact ⟨y2, y3⟩
      · obtain ⟨g1, g2⟩ := hrow j (by omega)
        rw [o9 _ (by omega), o9 _ (by omega), y4 _ (by omega) (by omega), y4 _ (by omega) (by omega), o1 _ (by omega), o1 _ (by omega)]
        exact ⟨g1, g2⟩
    · rw [o9 q (by omega), y4 q (by omega) (by omega), o1 q (by omega)]
      exact hfr q hq
set_option maxRecDepth 100000 in
theorem c_X8_bigs {G : xx_G} {l : Launch} {A : xx_H} {N : Nat} (hN : N ≤ 1000) : xx_X G l mX8_bigs 3 (2 * N + 1) (17 * N + N) 0 (lv_args 0 [.int (nI N)]) [] A (fun r B => r = .inl (some (.ref A.1)) ∧ B.1 = A.1 + 1 + 2 * N ∧ xx_row B A.1 N ∧ ∀ q, q < A.1 → B.2 q = A.2 q) := by
  refine xx_clv (lv2 := [(0, .int (nI N))]) rfl ?_
  refine xx_iload_n dX8_bigs_0 rfl ?_
  refine xx_iconst (v := 0) dX8_bigs_1 (by decide) ?_
  refine xx_mmax dX8_bigs_2 xx_mthX8 (by decide) (Nat.le_of_ble_eq_true rfl) ?_
  refine xx_eqi (y := nI N) (by rw [if_neg (nI_pos (by omega))]) ?_
  refine xx_anew (kd := 10) (C := RX0) (N := N) dX8_bigs_5 (by decide) rfl (by decide) wc_X8_78 (nI_pos (by omega)) (nI_clamp (by omega)) (by omega) (xx_gp fun B z1 h1 o1 => ?_)
  refine xx_astore_n dX8_bigs_8 (by decide) ?_
  refine xx_clv (lv2 := [(0, .int (nI N)), (1, .ref A.1)]) rfl ?_
  refine xx_iconst (v := 0) dX8_bigs_9 (by decide) ?_
  refine xx_istore_n dX8_bigs_10 (by decide) ?_
  refine xx_clv (lv2 := [(0, .int (nI N)), (1, .ref A.1), (2, .int 0)]) rfl ?_
  exact l_X8_bigs hN (fun C z2 g2 g3 => ⟨rfl, z2, g2, g3⟩) N 0 (Nat.zero_add N) B (fun _ => none) (by omega) h1 (fun j hj => absurd hj (Nat.not_lt_zero j)) (fun j hj => absurd hj (Nat.not_lt_zero j)) (fun q hq => o1 q (by omega))
