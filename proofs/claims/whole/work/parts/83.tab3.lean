/-! ===== a pivot ===== -/
/-- what a cell becomes -/
def yp_n (C : Nat) (V : Nat → Int) (r ce k p : Nat) : Int := if p = ce then - V (k * 7 + ce) else if p < C ∨ p = 6 then yy_qt (V (k * 7 + p) * V (r * 7 + ce) - V (k * 7 + ce) * V (r * 7 + p)) (V 42) else V (k * 7 + p)
/-- the cells when the rows below i, and of row i the columns that g says, are done -/
def yp_w (C : Nat) (V : Nat → Int) (r ce i : Nat) (g : Nat → Prop) (W : Nat → Int) : Prop := (∀ k, k < 6 → ∀ p, p < 7 → W (k * 7 + p) = V (k * 7 + p) ∨ (k ≠ r ∧ k ≤ i ∧ W (k * 7 + p) = yp_n C V r ce k p)) ∧ (∀ k, k < i → k ≠ r → k < 6 → ∀ p, p < 7 → W (k * 7 + p) = yp_n C V r ce k p) ∧ (∀ p, p < 7 → (g p → W (i * 7 + p) = yp_n C V r ce i p) ∧ (¬ g p → W (i * 7 + p) = V (i * 7 + p))) ∧ (∀ k, i < k → k < 6 → ∀ p, p < 7 → W (k * 7 + p) = V (k * 7 + p)) ∧ (∀ p, p < 7 → W (r * 7 + p) = V (r * 7 + p)) ∧ W 42 = V 42
theorem yp_w.bd {C : Nat} {V W : Nat → Int} {r ce i : Nat} {g : Nat → Prop} (h : yp_w C V r ce i g W) (hV : ∀ i, i < 43 → (V i).natAbs < 2 ^ 200) (hn : ∀ k, k < 6 → k ≠ r → k ≤ i → ∀ p, p < 7 → (yp_n C V r ce k p).natAbs < 2 ^ 200) : ∀ i, i < 43 → (W i).natAbs < 2 ^ 200 := by
  intro j hj
  by_cases e : j = 42
  · subst e; rw [h.2.2.2.2.2]; exact hV 42 (by decide)
  · have e2 : j = j / 7 * 7 + j % 7 := by omega
    rw [e2]
    rcases h.1 (j / 7) (by omega) (j % 7) (by omega) with h1 | ⟨h1, h2, h3⟩
    · rw [h1, ← e2]; exact hV j hj
    · rw [h3]; exact hn _ (by omega) h1 h2 _ (by omega)
/-- one cell more -/
theorem yp_w.put {C : Nat} {V W : Nat → Int} {r ce i p : Nat} {g g2 : Nat → Prop} (h : yp_w C V r ce i g W) (hi : i < 6) (hir : i ≠ r) (hr : r < 6) (hp : p < 7) (hg : ∀ q, q < 7 → (g2 q ↔ g q ∨ q = p)) : yp_w C V r ce i g2 (yy_un W (i * 7 + p) (yp_n C V r ce i p)) := by
  obtain ⟨h1, h2, h3, h4, h5, h6⟩ := h
  have ne : ∀ k q, k < 6 → q < 7 → (k ≠ i ∨ q ≠ p) → k * 7 + q ≠ i * 7 + p := by intro k q a b c; omega
  refine ⟨fun k hk q hq => ?_, fun k h7 h8 h9 q hq => ?_, fun q hq => ⟨fun h7 => ?_, fun h7 => ?_⟩, fun k h7 h8 q hq => ?_, fun q hq => ?_, ?_⟩
  · by_cases e : k = i ∧ q = p
    · obtain ⟨rfl, rfl⟩ := e; rw [yy_un_s]; exact Or.inr ⟨hir, Nat.le_refl _, rfl⟩
    · rw [yy_un_n (ne k q hk hq (by omega))]; exact h1 k hk q hq
  · rw [yy_un_n (ne k q h9 hq (by omega))]; exact h2 k h7 h8 h9 q hq
  · by_cases e : q = p
    · subst e; rw [yy_un_s]
    · rw [yy_un_n (ne i q hi hq (by omega))]; exact (h3 q hq).1 (((hg q hq).mp h7).resolve_right e)
  · have e : q ≠ p := fun z => h7 ((hg q hq).mpr (Or.inr z))
    rw [yy_un_n (ne i q hi hq (by omega))]; exact (h3 q hq).2 (fun z => h7 ((hg q hq).mpr (Or.inl z)))
  · rw [yy_un_n (ne k q h8 hq (by omega))]; exact h4 k h7 h8 q hq
  · rw [yy_un_n (ne r q hr hq (by omega))]; exact h5 q hq
  · rw [yy_un_n (by omega)]; exact h6
theorem yp_w.nx {C : Nat} {V W : Nat → Int} {r ce i : Nat} {g : Nat → Prop} (h : yp_w C V r ce i g W) (hg : i ≠ r → ∀ p, p < 7 → g p ∨ W (i * 7 + p) = yp_n C V r ce i p) : yp_w C V r ce (i + 1) (fun _ => False) W ∨ 5 ≤ i := by
  rcases Nat.lt_or_ge i 5 with h0 | h0
  · left
    obtain ⟨h1, h2, h3, h4, h5, h6⟩ := h
    refine ⟨fun k hk q hq => ?_, fun k h7 h8 h9 q hq => ?_, fun q hq => ⟨fun z => absurd z id, fun _ => h4 (i + 1) (by omega) (by omega) q hq⟩, fun k h7 h8 q hq => h4 k (by omega) h8 q hq, h5, h6⟩
    · rcases h1 k hk q hq with a | ⟨a, b, c⟩
      · exact Or.inl a
      · exact Or.inr ⟨a, by omega, c⟩
    · by_cases e : k = i
      · subst e
        rcases hg h8 q hq with a | a
        · exact (h3 q hq).1 a
        · exact a
      · exact h2 k (by omega) h8 h9 q hq
  · exact Or.inr h0
set_option maxRecDepth 100000 in
theorem l_X5_pi {G : xx_G} {l : Launch} {A : xx_H} {t R C fl : Nat} {rl cl P : Nat → Nat} {V : Nat → Int} {r ce i : Nat} {Q : Option Value ⊕ String → xx_H → Prop} (hR : R ≤ 6) (hC : C ≤ 6) (hr : r < R) (hce : ce < C) (hV : ∀ i, i < 43 → (V i).natAbs < 2 ^ 200) (hn : ∀ k, k < 6 → k ≠ r → k < R → ∀ p, p < 7 → (yp_n C V r ce k p).natAbs < 2 ^ 200) (hi : i < R) (hir : i ≠ r) (k : ∀ (B : xx_H) (W : Nat → Int), B.1 = A.1 → xx_tb B t R C fl rl cl P W → yp_w C V r ce i (fun p => p < C ∧ p ≠ ce) W → (∀ z, (z < t + 4 ∨ t + 103 ≤ z) → B.2 z = A.2 z) → xx_X G l mX5_pivot 6 0 0 48 [(0, .ref t), (1, .int (nI r)), (2, .int (nI ce)), (3, .int (nI i))] [] B Q) :
    ∀ (n j : Nat), j + n = C → ∀ (B : xx_H) (W : Nat → Int), B.1 = A.1 → xx_tb B t R C fl rl cl P W → yp_w C V r ce i (fun p => p < j ∧ p ≠ ce) W → (∀ z, (z < t + 4 ∨ t + 103 ≤ z) → B.2 z = A.2 z) → xx_X G l mX5_pivot 6 0 0 18 [(0, .ref t), (1, .int (nI r)), (2, .int (nI ce)), (3, .int (nI i)), (4, .int (nI j))] [] B Q := by
  intro n
  induction n with
  | zero =>
    intro j hj B W y1 H y3 y4
    have : j = C := by omega
    subst this
    obtain ⟨ob, r6, c6, ⟨rf, rl1, rl2⟩, ⟨cf, cl1, cl2⟩, rll, cll, fll, ⟨hc, hc1, hc2⟩, rng, inj, big, ⟨ls, lef⟩, ⟨rs, rig⟩, ⟨dc, dvd⟩⟩ := id H
    refine xx_iload dX5_pivot_18 rfl ?_
    refine xx_aload_n dX5_pivot_20 rfl ?_
    refine xx_get xx_c5 dX5_pivot_21 wf_X5_15 (j := 1) (by decide) ob rfl ?_
    refine xx_icmp_ge (tgt := 48) dX5_pivot_24 (by decide) (fun j24 => ?_) (fun h => absurd (Int32.le_refl _) h)
    refine xx_less [0, 1, 2, 3] ?_
    refine xx_clv (lv2 := [(0, .ref t), (1, .int (nI r)), (2, .int (nI ce)), (3, .int (nI i))]) rfl ?_
    exact k B W y1 H y3 y4
  | succ n ih =>
    intro j hj B W y1 H y3 y4
    obtain ⟨ob, r6, c6, ⟨rf, rl1, rl2⟩, ⟨cf, cl1, cl2⟩, rll, cll, fll, ⟨hc, hc1, hc2⟩, rng, inj, big, ⟨ls, lef⟩, ⟨rs, rig⟩, ⟨dc, dvd⟩⟩ := id H
    have hWb := y3.bd hV (fun k a b c p d => hn k a b (by omega) p d)
    refine xx_iload dX5_pivot_18 rfl ?_
    refine xx_aload_n dX5_pivot_20 rfl ?_
    refine xx_get xx_c5 dX5_pivot_21 wf_X5_15 (j := 1) (by decide) ob rfl ?_
    refine xx_icmp_ge (tgt := 48) dX5_pivot_24 (by decide) (fun h => absurd h (nI_ge (by omega) (by omega))) (fun j24 => ?_)
    refine xx_iload dX5_pivot_27 rfl ?_
    refine xx_iload_n dX5_pivot_29 rfl ?_
    refine xx_icmp_eq (tgt := 42) dX5_pivot_30 (by decide) (fun j30 => ?_) (fun j30 => ?_)
    · have j30 : j = ce := (nI_eq (a := j) (b := ce) (by omega) (by omega)).mp j30
      refine xx_iinc (v := nI (j + 1)) dX5_pivot_42 rfl (nI_1 j) (by decide) ?_
      refine xx_goto (tgt := 18) dX5_pivot_45 (by decide) ?_
      refine xx_clv (lv2 := [(0, .ref t), (1, .int (nI r)), (2, .int (nI ce)), (3, .int (nI i)), (4, .int (nI (j + 1)))]) rfl ?_
      refine ih (j + 1) (by omega) B W y1 H ?_ y4
      subst j30
      obtain ⟨h1, h2, h3, h4, h5, h6⟩ := y3
      exact ⟨h1, h2, fun p hp => ⟨fun q => (h3 p hp).1 ⟨by omega, q.2⟩, fun q => (h3 p hp).2 (fun z => q ⟨by omega, z.2⟩)⟩, h4, h5, h6⟩
    · have j30 : ¬ j = ce := fun hq9 => j30 ((nI_eq (a := j) (b := ce) (by omega) (by omega)).mpr hq9)
      refine xx_aload_n dX5_pivot_33 rfl ?_
      refine xx_iload_n dX5_pivot_34 rfl ?_
      refine xx_iload dX5_pivot_35 rfl ?_
      refine xx_iload_n dX5_pivot_37 rfl ?_
      refine xx_iload_n dX5_pivot_38 rfl ?_
      have c1 := c_X5_clearOut (G := G) (l := l) (i := i) (j := j) (r := r) (e := ce) H (by omega) (by omega) (by omega) (by omega) hir j30 hWb
      have e1 : yy_qt (W (i * 7 + j) * W (r * 7 + ce) - W (i * 7 + ce) * W (r * 7 + j)) (W 42) = yp_n C V r ce i j := by
        unfold yp_n
        rw [if_neg j30, if_pos (Or.inl (by omega)), (y3.2.2.1 j (by omega)).2 (by omega), (y3.2.2.1 ce (by omega)).2 (by omega), y3.2.2.2.2.1 j (by omega), y3.2.2.2.2.1 ce (by omega), y3.2.2.2.2.2]
      rw [e1] at c1
      refine xx_callV (N := mX5_clearOut) (vs := [.int (nI i), .int (nI j), .int (nI r), .int (nI ce)]) (b := t) (rest := []) (d2 := 5) (c2 := 0) (s2 := 0) (c3 := 0) (s3 := 0) dX5_pivot_39 wm_X5_112 wi_X5_clearOut wv_X5_clearOut (k := 5) rfl (by decide) ob nX5_clearOut ⟨pX5_clearOut, Nat.le_of_ble_eq_true rfl, by decide, Nat.le_of_ble_eq_true rfl, by decide, by decide⟩ (c1) (fun v9 D hC => ?_) (fun E9 B9 hC => absurd hC.1 (by simp))
      obtain ⟨hv8, k1, k2, k3⟩ := hC
      cases hv8
      refine xx_cst (st2 := []) rfl ?_
      refine xx_iinc (v := nI (j + 1)) dX5_pivot_42 rfl (nI_1 j) (by decide) ?_
      refine xx_goto (tgt := 18) dX5_pivot_45 (by decide) ?_
      refine xx_clv (lv2 := [(0, .ref t), (1, .int (nI r)), (2, .int (nI ce)), (3, .int (nI i)), (4, .int (nI (j + 1)))]) rfl ?_
      exact ih (j + 1) (by omega) D _ (by omega) k2 (y3.put (by omega) hir (by omega) (by omega) (fun q hq => by omega)) (fun z hz => (k3 z hz).trans (y4 z hz))
theorem yp_w.of {C i r ce : Nat} {V W : Nat → Int} (hi : i < 6) (h : ((∀ k, k < i → k < 6 → k ≠ r → ∀ p, p < 7 → W (k * 7 + p) = yp_n C V r ce k p) ∧ (∀ k, i ≤ k → k < 6 → ∀ p, p < 7 → W (k * 7 + p) = V (k * 7 + p)) ∧ (∀ p, p < 7 → W (r * 7 + p) = V (r * 7 + p)) ∧ W 42 = V 42)) : yp_w C V r ce i (fun p => p < 0 ∧ p ≠ ce) W := by
  obtain ⟨h1, h2, h3, h4⟩ := h
  refine ⟨fun k hk q hq => ?_, fun k a b c q hq => h1 k a c b q hq, fun q hq => ⟨fun z => absurd z.1 (Nat.not_lt_zero _), fun _ => h2 i (Nat.le_refl _) hi q hq⟩, fun k a b q hq => h2 k (by omega) b q hq, h3, h4⟩
  by_cases e : k < i
  · by_cases e2 : k = r
    · subst e2; exact Or.inl (h3 q hq)
    · exact Or.inr ⟨e2, by omega, h1 k e hk e2 q hq⟩
  · exact Or.inl (h2 k (by omega) hk q hq)
set_option maxRecDepth 100000 in
theorem l_X5_po {G : xx_G} {l : Launch} {A : xx_H} {t R C fl : Nat} {rl cl P : Nat → Nat} {V : Nat → Int} {r ce : Nat} {Q : Option Value ⊕ String → xx_H → Prop} (hR : R ≤ 6) (hC : C ≤ 6) (hr : r < R) (hce : ce < C) (hV : ∀ i, i < 43 → (V i).natAbs < 2 ^ 200) (hn : ∀ k, k < 6 → k ≠ r → k < R → ∀ p, p < 7 → (yp_n C V r ce k p).natAbs < 2 ^ 200) (k : ∀ (B : xx_H) (W : Nat → Int), B.1 = A.1 → xx_tb B t R C fl rl cl P W → ((∀ k, k < R → k < 6 → k ≠ r → ∀ p, p < 7 → W (k * 7 + p) = yp_n C V r ce k p) ∧ (∀ k, R ≤ k → k < 6 → ∀ p, p < 7 → W (k * 7 + p) = V (k * 7 + p)) ∧ (∀ p, p < 7 → W (r * 7 + p) = V (r * 7 + p)) ∧ W 42 = V 42) → (∀ z, (z < t + 4 ∨ t + 103 ≤ z) → B.2 z = A.2 z) → xx_X G l mX5_pivot 6 0 0 77 [(0, .ref t), (1, .int (nI r)), (2, .int (nI ce))] [] B Q) :
    ∀ (n i : Nat), i + n = R → ∀ (B : xx_H) (W : Nat → Int), B.1 = A.1 → xx_tb B t R C fl rl cl P W → ((∀ k, k < i → k < 6 → k ≠ r → ∀ p, p < 7 → W (k * 7 + p) = yp_n C V r ce k p) ∧ (∀ k, i ≤ k → k < 6 → ∀ p, p < 7 → W (k * 7 + p) = V (k * 7 + p)) ∧ (∀ p, p < 7 → W (r * 7 + p) = V (r * 7 + p)) ∧ W 42 = V 42) → (∀ z, (z < t + 4 ∨ t + 103 ≤ z) → B.2 z = A.2 z) → xx_X G l mX5_pivot 6 0 0 2 [(0, .ref t), (1, .int (nI r)), (2, .int (nI ce)), (3, .int (nI i))] [] B Q := by
  intro n
  induction n with
  | zero =>
    intro i hi B W y1 H y3 y4
    have : i = R := by omega
    subst this
    obtain ⟨ob, r6, c6, ⟨rf, rl1, rl2⟩, ⟨cf, cl1, cl2⟩, rll, cll, fll, ⟨hc, hc1, hc2⟩, rng, inj, big, ⟨ls, lef⟩, ⟨rs, rig⟩, ⟨dc, dvd⟩⟩ := id H
    refine xx_iload_n dX5_pivot_2 rfl ?_
    refine xx_aload_n dX5_pivot_3 rfl ?_
    refine xx_get xx_c5 dX5_pivot_4 wf_X5_9 (j := 0) (by decide) ob rfl ?_
    refine xx_icmp_ge (tgt := 77) dX5_pivot_7 (by decide) (fun j7 => ?_) (fun h => absurd (Int32.le_refl _) h)
    refine xx_less [0, 1, 2] ?_
    refine xx_clv (lv2 := [(0, .ref t), (1, .int (nI r)), (2, .int (nI ce))]) rfl ?_
    exact k B W y1 H y3 y4
  | succ n ih =>
    intro i hi B W y1 H y3 y4
    obtain ⟨ob, r6, c6, ⟨rf, rl1, rl2⟩, ⟨cf, cl1, cl2⟩, rll, cll, fll, ⟨hc, hc1, hc2⟩, rng, inj, big, ⟨ls, lef⟩, ⟨rs, rig⟩, ⟨dc, dvd⟩⟩ := id H
    refine xx_iload_n dX5_pivot_2 rfl ?_
    refine xx_aload_n dX5_pivot_3 rfl ?_
    refine xx_get xx_c5 dX5_pivot_4 wf_X5_9 (j := 0) (by decide) ob rfl ?_
    refine xx_icmp_ge (tgt := 77) dX5_pivot_7 (by decide) (fun h => absurd h (nI_ge (by omega) (by omega))) (fun j7 => ?_)
    refine xx_iload_n dX5_pivot_10 rfl ?_
    refine xx_iload_n dX5_pivot_11 rfl ?_
    refine xx_icmp_eq (tgt := 71) dX5_pivot_12 (by decide) (fun j12 => ?_) (fun j12 => ?_)
    · have j12 : i = r := (nI_eq (a := i) (b := r) (by omega) (by omega)).mp j12
      refine xx_iinc (v := nI (i + 1)) dX5_pivot_71 rfl (nI_1 i) (by decide) ?_
      refine xx_goto (tgt := 2) dX5_pivot_74 (by decide) ?_
      refine xx_clv (lv2 := [(0, .ref t), (1, .int (nI r)), (2, .int (nI ce)), (3, .int (nI (i + 1)))]) rfl ?_
      subst j12
      exact ih (i + 1) (by omega) B W y1 H ⟨fun k a b c p d => y3.1 k (by omega) b c p d, fun k a b p d => y3.2.1 k (by omega) b p d, y3.2.2⟩ y4
    · have j12 : ¬ i = r := fun hq9 => j12 ((nI_eq (a := i) (b := r) (by omega) (by omega)).mpr hq9)
      refine xx_iconst (v := 0) dX5_pivot_15 (by decide) ?_
      refine xx_istore dX5_pivot_16 (by decide) ?_
      refine xx_clv (lv2 := [(0, .ref t), (1, .int (nI r)), (2, .int (nI ce)), (3, .int (nI i)), (4, .int 0)]) rfl ?_
      refine xx_clv (lv2 := [(0, .ref t), (1, .int (nI r)), (2, .int (nI ce)), (3, .int (nI i)), (4, .int (nI 0))]) rfl ?_
      refine l_X5_pi hR hC hr hce hV hn (by omega) j12 (fun D W2 z1 H2 z3 z4 => ?_) C 0 (by omega) B W y1 H (yp_w.of (by omega) y3) y4
      obtain ⟨ob2, r6, c6, ⟨rf, rl1, rl2⟩, ⟨cf, cl1, cl2⟩, rll, cll, fll, ⟨hc, hc1b, hc2b⟩, rngb, injb, big2, ⟨ls, lef2⟩, ⟨rs, rig2⟩, ⟨dc, dvd2⟩⟩ := id H2
      have hWb := z3.bd hV (fun k a b c p d => hn k a b (by omega) p d)
      refine xx_aload_n dX5_pivot_48 rfl ?_
      refine xx_iload_n dX5_pivot_49 rfl ?_
      refine xx_bipush (v := 6) dX5_pivot_50 (by decide) ?_
      refine xx_iload_n dX5_pivot_52 rfl ?_
      refine xx_iload_n dX5_pivot_53 rfl ?_
      refine xx_cst (st2 := [.int (nI ce), .int (nI r), .int (nI 6), .int (nI i), .ref t]) rfl ?_
      have c1 := c_X5_clearOut (G := G) (l := l) (i := i) (j := 6) (r := r) (e := ce) H2 (by omega) (by decide) (by omega) (by omega) j12 (by omega) hWb
      have e1 : yy_qt (W2 (i * 7 + 6) * W2 (r * 7 + ce) - W2 (i * 7 + ce) * W2 (r * 7 + 6)) (W2 42) = yp_n C V r ce i 6 := by
        unfold yp_n
        rw [if_neg (by omega), if_pos (Or.inr rfl), (z3.2.2.1 6 (by decide)).2 (by omega), (z3.2.2.1 ce (by omega)).2 (by omega), z3.2.2.2.2.1 6 (by decide), z3.2.2.2.2.1 ce (by omega), z3.2.2.2.2.2]
      rw [e1] at c1
      refine xx_callV (N := mX5_clearOut) (vs := [.int (nI i), .int (nI 6), .int (nI r), .int (nI ce)]) (b := t) (rest := []) (d2 := 5) (c2 := 0) (s2 := 0) (c3 := 0) (s3 := 0) dX5_pivot_54 wm_X5_112 wi_X5_clearOut wv_X5_clearOut (k := 5) rfl (by decide) ob2 nX5_clearOut ⟨pX5_clearOut, Nat.le_of_ble_eq_true rfl, by decide, Nat.le_of_ble_eq_true rfl, by decide, by decide⟩ (c1) (fun v9 E hC => ?_) (fun E9 B9 hC => absurd hC.1 (by simp))
      obtain ⟨hv8, k1, k2, k3⟩ := hC
      cases hv8
      refine xx_cst (st2 := []) rfl ?_
      have z5 := z3.put (g2 := fun p => (p < C ∧ p ≠ ce) ∨ p = 6) (p := 6) (by omega) j12 (by omega) (by decide) (fun q hq => Iff.rfl)
      obtain ⟨W3, hW3⟩ : ∃ W3, W3 = yy_un W2 (i * 7 + 6) (yp_n C V r ce i 6) := ⟨_, rfl⟩
      rw [← hW3] at z5 k2
      obtain ⟨ob3, r6, c6, ⟨rf, rl1, rl2⟩, ⟨cf, cl1, cl2⟩, rll, cll, fll, ⟨hc, hc1d, hc2d⟩, rngd, injd, big3, ⟨ls, lef3⟩, ⟨rs, rig3⟩, ⟨dc, dvd3⟩⟩ := id k2
      refine xx_aload_n dX5_pivot_57 rfl ?_
      refine xx_get xx_c5 dX5_pivot_58 wf_X5_32 (j := 5) (by decide) ob3 rfl ?_
      refine xx_iload_n dX5_pivot_61 rfl ?_
      refine xx_bipush (v := 7) dX5_pivot_62 (by decide) ?_
      refine xx_imul dX5_pivot_64 ?_
      refine xx_eqi (y := nI (i * 7)) (pk_mul i 7) ?_
      refine xx_iload_n dX5_pivot_65 rfl ?_
      refine xx_iadd dX5_pivot_66 ?_
      refine xx_eqi (y := nI (i * 7 + ce)) (nI_add (i * 7) ce) ?_
      refine xx_aald (kd := 10) (b := P (i * 7 + ce)) dX5_pivot_67 (by decide) rfl hc1d (vp_in_nI (by omega) (by decide)) (by rw [nI_clamp (by omega)]; exact hc2d _ (by omega)) ?_
      obtain ⟨fb, lb, bo, _⟩ := id (big3 (i * 7 + ce) (by omega))
      obtain ⟨pa, pb, pc⟩ := rngd (i * 7 + ce) (by omega)
      refine xx_callV (N := mX0_turn) (vs := []) (b := (P (i * 7 + ce))) (rest := []) (d2 := 0) (c2 := 0) (s2 := 0) (c3 := 0) (s3 := 0) dX5_pivot_68 wm_X5_116 wi_X0_turn wv_X0_turn (k := 0) rfl (by decide) bo nX0_turn ⟨pX0_turn, Nat.le_of_ble_eq_true rfl, by decide, Nat.le_of_ble_eq_true rfl, by decide, by decide⟩ (c_X0_turn (big3 (i * 7 + ce) (by omega))) (fun v9 F hC => ?_) (fun E9 B9 hC => absurd hC.1 (by simp))
      obtain ⟨hv7, m1, m2, m3⟩ := hC
      cases hv7
      refine xx_cst (st2 := []) rfl ?_
      refine xx_iinc (v := nI (i + 1)) dX5_pivot_71 rfl (nI_1 i) (by decide) ?_
      refine xx_goto (tgt := 2) dX5_pivot_74 (by decide) ?_
      refine xx_clv (lv2 := [(0, .ref t), (1, .int (nI r)), (2, .int (nI ce)), (3, .int (nI (i + 1)))]) rfl ?_
      have e2 : - W3 (i * 7 + ce) = yp_n C V r ce i ce := by
        unfold yp_n
        rw [if_pos rfl, (z5.2.2.1 ce (by omega)).2 (by omega)]
      rw [e2] at m2
      have z6 := z5.put (g2 := fun p => ((p < C ∧ p ≠ ce) ∨ p = 6) ∨ p = ce) (p := ce) (by omega) j12 (by omega) (by omega) (fun q hq => Iff.rfl)
      have tb := k2.cell (by omega) m2 ⟨_, lef3.to (m3 _ (by omega)) (m3 _ (by omega))⟩ ⟨_, rig3.to (m3 _ (by omega)) (m3 _ (by omega))⟩ ⟨_, dvd3.to (fun z h1 h2 => m3 z (by omega))⟩ (fun z h1 h2 h3 h4 => m3 z h3)
      refine ih (i + 1) (by omega) F _ (by omega) tb ⟨fun k a b c p d => ?_, fun k a b p d => z6.2.2.2.1 k (by omega) b p d, z6.2.2.2.2.1, z6.2.2.2.2.2⟩ (fun z hz => (m3 z (by omega)).trans ((k3 z hz).trans (z4 z hz)))
      by_cases e : k = i
      · subst e
        by_cases e3 : (((p < C ∧ p ≠ ce) ∨ p = 6) ∨ p = ce)
        · exact (z6.2.2.1 p d).1 e3
        · rw [(z6.2.2.1 p d).2 e3]
          unfold yp_n
          rw [if_neg (by omega), if_neg (by omega)]
      · exact z6.2.1 k (by omega) c b p d
def yp_P (P : Nat → Nat) (a : Nat) : Nat → Nat := fun i => if i = a then P 42 else if i = 42 then P a else P i
def yp_V (W : Nat → Int) (a : Nat) : Nat → Int := fun i => if i = a then W 42 else if i = 42 then W a else W i
set_option maxRecDepth 100000 in
theorem c_X5_pivot {G : xx_G} {l : Launch} {A : xx_H} {t R C fl : Nat} {rl cl P : Nat → Nat} {V : Nat → Int} {r ce : Nat} (H : xx_tb A t R C fl rl cl P V) (hr : r < R) (hce : ce < C) (hV : ∀ i, i < 43 → (V i).natAbs < 2 ^ 200) (hn : ∀ k, k < 6 → k ≠ r → k < R → ∀ p, p < 7 → (yp_n C V r ce k p).natAbs < 2 ^ 200) : xx_X G l mX5_pivot 6 0 0 0 (lv_args 0 [.ref t, .int (nI r), .int (nI ce)]) [] A (fun z B => z = .inl none ∧ B.1 = A.1 ∧ (∃ P2 V2, xx_tb B t R C fl rl cl P2 V2 ∧ V2 42 = V (r * 7 + ce) ∧ V2 (r * 7 + ce) = V 42 ∧ (∀ p, p < 7 → p ≠ ce → V2 (r * 7 + p) = V (r * 7 + p)) ∧ (∀ k, k < R → k ≠ r → ∀ p, p < 7 → V2 (k * 7 + p) = yp_n C V r ce k p) ∧ (∀ k, R ≤ k → k < 6 → ∀ p, p < 7 → V2 (k * 7 + p) = V (k * 7 + p))) ∧ ∀ z, (z < t ∨ t + 103 ≤ z) → B.2 z = A.2 z) := by
  have hR := H.2.1
  have hC := H.2.2.1
  refine xx_clv (lv2 := [(0, .ref t), (1, .int (nI r)), (2, .int (nI ce))]) rfl ?_
  refine xx_iconst (v := 0) dX5_pivot_0 (by decide) ?_
  refine xx_istore_n dX5_pivot_1 (by decide) ?_
  refine xx_clv (lv2 := [(0, .ref t), (1, .int (nI r)), (2, .int (nI ce)), (3, .int 0)]) rfl ?_
  refine xx_clv (lv2 := [(0, .ref t), (1, .int (nI r)), (2, .int (nI ce)), (3, .int (nI 0))]) rfl ?_
  refine l_X5_po hR hC hr hce hV hn (fun B W y1 H2 y3 y4 => ?_) R 0 (by omega) A V rfl H ⟨fun k a => absurd a (Nat.not_lt_zero k), fun _ _ _ _ _ => rfl, fun _ _ => rfl, rfl⟩ (fun z _ => rfl)
  obtain ⟨ob, r6, c6, ⟨rf, rl1, rl2⟩, ⟨cf, cl1, cl2⟩, rll, cll, fll, ⟨hc, hc1, hc2⟩, rng, inj, big, ⟨ls, lef⟩, ⟨rs, rig⟩, ⟨dc, dvd⟩⟩ := id H2
  obtain ⟨fb, lb, bo, _⟩ := id (big 42 (by decide))
  have ia : r * 7 + ce < 42 := by omega
  refine xx_aload_n dX5_pivot_77 rfl ?_
  refine xx_get xx_c5 dX5_pivot_78 wf_X5_32 (j := 5) (by decide) ob rfl ?_
  refine xx_iload_n dX5_pivot_81 rfl ?_
  refine xx_bipush (v := 7) dX5_pivot_82 (by decide) ?_
  refine xx_imul dX5_pivot_84 ?_
  refine xx_eqi (y := nI (r * 7)) (pk_mul r 7) ?_
  refine xx_iload_n dX5_pivot_85 rfl ?_
  refine xx_iadd dX5_pivot_86 ?_
  refine xx_eqi (y := nI (r * 7 + ce)) (nI_add (r * 7) ce) ?_
  refine xx_aald (kd := 10) (b := P (r * 7 + ce)) dX5_pivot_87 (by decide) rfl hc1 (vp_in_nI (by omega) (by decide)) (by rw [nI_clamp (by omega)]; exact hc2 _ (by omega)) ?_
  refine xx_astore_n dX5_pivot_88 (by decide) ?_
  refine xx_clv (lv2 := [(0, .ref t), (1, .int (nI r)), (2, .int (nI ce)), (3, .ref (P (r * 7 + ce)))]) rfl ?_
  refine xx_aload_n dX5_pivot_89 rfl ?_
  refine xx_get xx_c5 dX5_pivot_90 wf_X5_32 (j := 5) (by decide) ob rfl ?_
  refine xx_iload_n dX5_pivot_93 rfl ?_
  refine xx_bipush (v := 7) dX5_pivot_94 (by decide) ?_
  refine xx_imul dX5_pivot_96 ?_
  refine xx_eqi (y := nI (r * 7)) (pk_mul r 7) ?_
  refine xx_iload_n dX5_pivot_97 rfl ?_
  refine xx_iadd dX5_pivot_98 ?_
  refine xx_eqi (y := nI (r * 7 + ce)) (nI_add (r * 7) ce) ?_
  refine xx_aload_n dX5_pivot_99 rfl ?_
  refine xx_get xx_c5 dX5_pivot_100 wf_X5_39 (j := 6) (by decide) ob rfl ?_
  refine xx_aast xx_c0 dX5_pivot_103 (by decide) rfl hc1 bo (vp_in_nI (by omega) (by decide)) (xx_gu fun D z1 h1 o1 => ?_)
  rw [nI_clamp (by omega)] at h1
  have ob2 := (o1 t (by omega)).trans ob
  refine xx_aload_n dX5_pivot_104 rfl ?_
  refine xx_aload_n dX5_pivot_105 rfl ?_
  refine xx_put xx_c5 dX5_pivot_106 wf_X5_39 (j := 6) (by decide) rfl rfl rfl ob2 (Nat.le_of_ble_eq_true rfl) (xx_gu fun E z2 h2 o2 => ?_)
  have h2 : E.2 t = xx_o 5 [.int (nI R), .int (nI C), .int (nI fl), .ref (t + 1), .ref (t + 2), .ref (t + 3), .ref (P (r * 7 + ce)), .ref (t + 90), .ref (t + 92), .ref (t + 94)] := h2
  have fr : ∀ z, z ≠ t → z ≠ t + 3 → E.2 z = B.2 z := fun z a1 a2 => (o2 z a1).trans (o1 z a2)
  have p42 : yp_P P (r * 7 + ce) 42 = P (r * 7 + ce) := by unfold yp_P; rw [if_neg (by omega), if_pos rfl]
  have pa : yp_P P (r * 7 + ce) (r * 7 + ce) = P 42 := if_pos rfl
  have po : ∀ i, i ≠ r * 7 + ce → i ≠ 42 → yp_P P (r * 7 + ce) i = P i := fun i a b => by unfold yp_P; rw [if_neg a, if_neg b]
  have v42 : yp_V W (r * 7 + ce) 42 = W (r * 7 + ce) := by unfold yp_V; rw [if_neg (by omega), if_pos rfl]
  have va : yp_V W (r * 7 + ce) (r * 7 + ce) = W 42 := if_pos rfl
  have vo : ∀ i, i ≠ r * 7 + ce → i ≠ 42 → yp_V W (r * 7 + ce) i = W i := fun i a b => by unfold yp_V; rw [if_neg a, if_neg b]
  refine xx_vret dX5_pivot_109 rfl ⟨rfl, by omega, ⟨yp_P P (r * 7 + ce), yp_V W (r * 7 + ce), ⟨by rw [p42]; exact h2, r6, c6, ⟨rf, (fr _ (by omega) (by omega)).trans rl1, rl2⟩, ⟨cf, (fr _ (by omega) (by omega)).trans cl1, cl2⟩, rll, cll, fll, ⟨_, (o2 _ (by omega)).trans h1, fun i hi => ?_⟩, fun i hi => ?_, fun i j hi hj e => ?_, fun i hi => ?_, ⟨ls, lef.to (fr _ (by omega) (by omega)) (fr _ (by omega) (by omega))⟩, ⟨rs, rig.to (fr _ (by omega) (by omega)) (fr _ (by omega) (by omega))⟩, ⟨dc, dvd.to (fun z a1 a2 => fr z (by omega) (by omega))⟩⟩, ?_, ?_, fun p hp hpc => ?_, fun k hk hkr p hp => ?_, fun k hk hk6 p hp => ?_⟩, fun z hz => (fr z (by omega) (by omega)).trans (y4 z (by omega))⟩
  · by_cases e : i = r * 7 + ce
    · subst e; rw [pa]; exact if_pos rfl
    · rw [po i e (by omega)]; exact (if_neg e).trans (hc2 i hi)
  · by_cases e : i = r * 7 + ce
    · rw [e, pa]; exact rng 42 (by decide)
    · by_cases e2 : i = 42
      · rw [e2, p42]; exact rng _ (by omega)
      · rw [po i e e2]; exact rng i hi
  · by_cases a1 : i = r * 7 + ce
    · by_cases a2 : j = r * 7 + ce
      · omega
      · by_cases a3 : j = 42
        · rw [a1, a3, pa, p42] at e; have := inj 42 _ (by decide) (by omega) e; omega
        · rw [a1, pa, po j a2 a3] at e; have := inj 42 j (by decide) hj e; omega
    · by_cases b1 : i = 42
      · by_cases a2 : j = r * 7 + ce
        · rw [b1, a2, p42, pa] at e; have := inj _ 42 (by omega) (by decide) e; omega
        · by_cases a3 : j = 42
          · omega
          · rw [b1, p42, po j a2 a3] at e; have := inj _ j (by omega) hj e; omega
      · by_cases a2 : j = r * 7 + ce
        · rw [a2, pa, po i a1 b1] at e; have := inj i 42 hi (by decide) e; omega
        · by_cases a3 : j = 42
          · rw [a3, p42, po i a1 b1] at e; have := inj i _ hi (by omega) e; omega
          · rw [po i a1 b1, po j a2 a3] at e; exact inj i j hi hj e
  · have tr : ∀ j, j < 43 → xx_bg E (P j) (W j) := fun j hj => by
      obtain ⟨a1, a2, a3⟩ := rng j hj
      exact (big j hj).to (fr _ (by omega) (by omega)) (fr _ (by omega) (by omega))
    by_cases e : i = r * 7 + ce
    · rw [e, pa, va]; exact tr 42 (by decide)
    · by_cases e2 : i = 42
      · rw [e2, p42, v42]; exact tr _ (by omega)
      · rw [po i e e2, vo i e e2]; exact tr i hi
  · rw [v42]; exact y3.2.2.1 ce (by omega)
  · rw [va]; exact y3.2.2.2
  · rw [vo _ (by omega) (by omega)]; exact y3.2.2.1 p hp
  · rw [vo _ (by omega) (by omega)]; exact y3.1 k hk (by omega) hkr p hp
  · rw [vo _ (by omega) (by omega)]; exact y3.2.1 k hk hk6 p hp
