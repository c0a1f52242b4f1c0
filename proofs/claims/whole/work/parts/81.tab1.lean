/-! ===== a Table ===== -/
/-- a Table at t: P tells where its numbers stand (42 cells and the scale), V what they are -/
def xx_tb (B : xx_H) (t R C fl : Nat) (rl cl P : Nat → Nat) (V : Nat → Int) : Prop :=
  B.2 t = xx_o 5 [.int (nI R), .int (nI C), .int (nI fl), .ref (t + 1), .ref (t + 2), .ref (t + 3), .ref (P 42), .ref (t + 90), .ref (t + 92), .ref (t + 94)] ∧ R ≤ 6 ∧ C ≤ 6 ∧ (∃ f, B.2 (t + 1) = xx_i 6 f ∧ ∀ i, i < R → f i = nI (rl i)) ∧ (∃ f, B.2 (t + 2) = xx_i 6 f ∧ ∀ i, i < C → f i = nI (cl i)) ∧ (∀ i, i < R → rl i < 100) ∧ (∀ i, i < C → cl i < 100) ∧ fl < 100 ∧ (∃ h, B.2 (t + 3) = xx_r 10 42 h ∧ ∀ i, i < 42 → h i = some (P i)) ∧ (∀ i, i < 43 → t + 4 ≤ P i ∧ P i < t + 90 ∧ (P i + t) % 2 = 0) ∧ (∀ i j, i < 43 → j < 43 → P i = P j → i = j) ∧ (∀ i, i < 43 → xx_bg B (P i) (V i)) ∧ (∃ s, xx_bg B (t + 90) s) ∧ (∃ s, xx_bg B (t + 92) s) ∧ ∃ c, xx_dw B (t + 94) c
theorem xx_tb.lr {A B : xx_H} {t R C fl : Nat} {rl cl P : Nat → Nat} {V : Nat → Int} (H : xx_tb A t R C fl rl cl P V) (hl : ∃ s, xx_bg B (t + 90) s) (hr : ∃ s, xx_bg B (t + 92) s) (hd : ∃ c, xx_dw B (t + 94) c) (hq : ∀ q, t ≤ q → q < t + 90 → B.2 q = A.2 q) : xx_tb B t R C fl rl cl P V := by
  obtain ⟨ob, r6, c6, ⟨rf, rl1, rl2⟩, ⟨cf, cl1, cl2⟩, rll, cll, fll, ⟨hc, hc1, hc2⟩, rng, inj, big, _, _, _⟩ := H
  refine ⟨(hq _ (by omega) (by omega)).trans ob, r6, c6, ⟨rf, (hq _ (by omega) (by omega)).trans rl1, rl2⟩, ⟨cf, (hq _ (by omega) (by omega)).trans cl1, cl2⟩, rll, cll, fll, ⟨hc, (hq _ (by omega) (by omega)).trans hc1, hc2⟩, rng, inj, fun i hi => ?_, hl, hr, hd⟩
  obtain ⟨a1, a2, a3⟩ := rng i hi
  exact (big i hi).to (hq _ (by omega) (by omega)) (hq _ (by omega) (by omega))
theorem xx_tb.to {A B : xx_H} {t R C fl : Nat} {rl cl P : Nat → Nat} {V : Nat → Int} (H : xx_tb A t R C fl rl cl P V) (hq : ∀ q, t ≤ q → q < t + 103 → B.2 q = A.2 q) : xx_tb B t R C fl rl cl P V := by
  obtain ⟨ob, r6, c6, r1, c1, rll, cll, fll, hc, rng, inj, big, ⟨ls, lef⟩, ⟨rs, rig⟩, ⟨dc, dvd⟩⟩ := id H
  exact H.lr ⟨ls, lef.to (hq _ (by omega) (by omega)) (hq _ (by omega) (by omega))⟩ ⟨rs, rig.to (hq _ (by omega) (by omega)) (hq _ (by omega) (by omega))⟩ ⟨dc, dvd.to (fun q h1 h2 => hq q (by omega) (by omega))⟩ (fun q h1 h2 => hq q h1 (by omega))
/-- one number of it told anew -/
theorem xx_tb.cell {A B : xx_H} {t R C fl : Nat} {rl cl P : Nat → Nat} {V : Nat → Int} (H : xx_tb A t R C fl rl cl P V) {k : Nat} {v : Int} (hk : k < 43) (hv : xx_bg B (P k) v) (hl : ∃ s, xx_bg B (t + 90) s) (hr : ∃ s, xx_bg B (t + 92) s) (hd : ∃ c, xx_dw B (t + 94) c) (hq : ∀ q, t ≤ q → q < t + 90 → q ≠ P k → q ≠ P k + 1 → B.2 q = A.2 q) : xx_tb B t R C fl rl cl P (yy_un V k v) := by
  obtain ⟨ob, r6, c6, ⟨rf, rl1, rl2⟩, ⟨cf, cl1, cl2⟩, rll, cll, fll, ⟨hc, hc1, hc2⟩, rng, inj, big, _, _, _⟩ := H
  obtain ⟨b1, b2, b3⟩ := rng k hk
  refine ⟨(hq _ (by omega) (by omega) (by omega) (by omega)).trans ob, r6, c6, ⟨rf, (hq _ (by omega) (by omega) (by omega) (by omega)).trans rl1, rl2⟩, ⟨cf, (hq _ (by omega) (by omega) (by omega) (by omega)).trans cl1, cl2⟩, rll, cll, fll, ⟨hc, (hq _ (by omega) (by omega) (by omega) (by omega)).trans hc1, hc2⟩, rng, inj, fun i hi => ?_, hl, hr, hd⟩
  by_cases e : i = k
  · subst e; rw [yy_un_s]; exact hv
  · rw [yy_un_n e]
    obtain ⟨a1, a2, a3⟩ := rng i hi
    have hne : P i ≠ P k := fun q => e (inj i k hi hk q)
    exact (big i hi).to (hq _ (by omega) (by omega) hne (by omega)) (hq _ (by omega) (by omega) (by omega) (by omega))
theorem yy_p200 {a b : Int} (ha : a.natAbs < 2 ^ 200) (hb : b.natAbs < 2 ^ 200) : a.natAbs * b.natAbs < 2 ^ 400 := by
  have h1 : a.natAbs * b.natAbs < 2 ^ 200 * 2 ^ 200 := Nat.mul_lt_mul'' ha hb
  rw [← Nat.pow_add] at h1
  exact h1
theorem yy_400 : 2 ^ 400 + 2 ^ 400 ≤ yB ^ 14 := by decide +kernel
set_option maxRecDepth 100000 in
theorem l_X5_find {G : xx_G} {l : Launch} {A : xx_H} {a n L : Nat} {f : Nat → Int32} {lb : Nat → Nat} {Q : Option Value ⊕ String → xx_H → Prop} (ha : A.2 a = xx_i 6 f) (hn : n ≤ 6) (hL : L < 2 ^ 31) (hf : ∀ i, i < n → f i = nI (lb i)) (hl : ∀ i, i < n → lb i < 2 ^ 31) (k1 : ∀ i, i < n → lb i = L → (∀ j, j < i → lb j ≠ L) → Q (.inl (some (.int (nI i)))) A) (k2 : (∀ i, i < n → lb i ≠ L) → Q (.inl (some (.int (-1)))) A) :
    ∀ (t i : Nat), i + t = n → (∀ j, j < i → lb j ≠ L) → xx_X G l mX5_find 0 0 0 2 [(0, .ref a), (1, .int (nI n)), (2, .int (nI L)), (3, .int (nI i))] [] A Q := by
  intro t
  induction t with
  | zero =>
    intro i hi hj
    have : i = n := by omega
    subst this
    refine xx_iload_n dX5_find_2 rfl ?_
    refine xx_iload_n dX5_find_3 rfl ?_
    refine xx_icmp_ge (tgt := 28) dX5_find_4 (by decide) (fun j4 => ?_) (fun h => absurd (Int32.le_refl _) h)
    refine xx_iconst (v := (-1)) dX5_find_28 (by decide) ?_
    exact xx_iret dX5_find_29 rfl (k2 hj)
  | succ t ih =>
    intro i hi hj
    have q1 := hf i (by omega)
    have p1 := hl i (by omega)
    refine xx_iload_n dX5_find_2 rfl ?_
    refine xx_iload_n dX5_find_3 rfl ?_
    refine xx_icmp_ge (tgt := 28) dX5_find_4 (by decide) (fun h => absurd h (nI_ge (by omega) (by omega))) (fun j4 => ?_)
    refine xx_iload_n dX5_find_7 rfl ?_
    refine xx_aload_n dX5_find_8 rfl ?_
    refine xx_alen (kd := 1) (n := 6) (v := 6) dX5_find_9 (by decide) ha rfl ?_
    refine xx_icmp_ge (tgt := 28) dX5_find_10 (by decide) (fun h => absurd h (nI_ge (a := i) (b := 6) (by omega) (by decide))) (fun j10 => ?_)
    refine xx_aload_n dX5_find_13 rfl ?_
    refine xx_iload_n dX5_find_14 rfl ?_
    refine xx_iald dX5_find_15 ha (vp_in_nI (by omega) (by decide)) ?_
    refine xx_eqi (y := nI (lb i)) (by rw [nI_clamp (by omega)]; exact q1) ?_
    refine xx_iload_n dX5_find_16 rfl ?_
    refine xx_icmp_ne (tgt := 22) dX5_find_17 (by decide) (fun j17 => ?_) (fun j17 => ?_)
    · have j17 : ¬ lb i = L := fun hq9 => j17 ((nI_eq (a := lb i) (b := L) (by omega) (by omega)).mpr hq9)
      refine xx_iinc (v := nI (i + 1)) dX5_find_22 rfl (nI_1 i) (by decide) ?_
      refine xx_goto (tgt := 2) dX5_find_25 (by decide) ?_
      refine xx_clv (lv2 := [(0, .ref a), (1, .int (nI n)), (2, .int (nI L)), (3, .int (nI (i + 1)))]) rfl ?_
      refine ih (i + 1) (by omega) (fun j h9 => ?_)
      by_cases e : j = i
      · subst e; exact j17
      · exact hj j (by omega)
    · have j17 : lb i = L := (nI_eq (a := lb i) (b := L) (by omega) (by omega)).mp j17
      refine xx_iload_n dX5_find_20 rfl ?_
      exact xx_iret dX5_find_21 rfl (k1 i (by omega) j17 hj)
set_option maxRecDepth 100000 in
theorem c_X5_find {G : xx_G} {l : Launch} {A : xx_H} {a n L : Nat} {f : Nat → Int32} {lb : Nat → Nat} (ha : A.2 a = xx_i 6 f) (hn : n ≤ 6) (hL : L < 2 ^ 31) (hf : ∀ i, i < n → f i = nI (lb i)) (hl : ∀ i, i < n → lb i < 2 ^ 31) : xx_X G l mX5_find 0 0 0 0 (lv_args 0 [.ref a, .int (nI n), .int (nI L)]) [] A (fun q B => B = A ∧ ((∃ i, i < n ∧ lb i = L ∧ (∀ j, j < i → lb j ≠ L) ∧ q = .inl (some (.int (nI i)))) ∨ ((∀ i, i < n → lb i ≠ L) ∧ q = .inl (some (.int (-1)))))) := by
  refine xx_clv (lv2 := [(0, .ref a), (1, .int (nI n)), (2, .int (nI L))]) rfl ?_
  refine xx_iconst (v := 0) dX5_find_0 (by decide) ?_
  refine xx_istore_n dX5_find_1 (by decide) ?_
  refine xx_clv (lv2 := [(0, .ref a), (1, .int (nI n)), (2, .int (nI L)), (3, .int 0)]) rfl ?_
  refine xx_clv (lv2 := [(0, .ref a), (1, .int (nI n)), (2, .int (nI L)), (3, .int (nI 0))]) rfl ?_
  exact l_X5_find ha hn hL hf hl (fun i h1 h2 h3 => ⟨rfl, Or.inl ⟨i, h1, h2, h3, rfl⟩⟩) (fun h => ⟨rfl, Or.inr ⟨h, rfl⟩⟩) n 0 (by omega) (fun j hj => absurd hj (Nat.not_lt_zero j))
set_option maxRecDepth 100000 in
theorem c_X5_compareRatios {G : xx_G} {l : Launch} {A : xx_H} {t R C fl : Nat} {rl cl P : Nat → Nat} {V : Nat → Int} {r q e a : Nat} (H : xx_tb A t R C fl rl cl P V) (hr : r < 6) (hq : q < 6) (he : e < 7) (ha : a < 7) (hV : ∀ i, i < 43 → (V i).natAbs < 2 ^ 200) : xx_X G l mX5_compareRatios 3 0 0 0 (lv_args 0 [.ref t, .int (nI r), .int (nI q), .int (nI e), .int (nI a)]) [] A (fun z B => z = .inl (some (.int (yy_cmz (V (r * 7 + a) * V (q * 7 + e)) (V (q * 7 + a) * V (r * 7 + e))))) ∧ B.1 = A.1 ∧ xx_tb B t R C fl rl cl P V ∧ ∀ q, (q < t + 90 ∨ t + 94 ≤ q) → B.2 q = A.2 q) := by
  obtain ⟨ob, r6, c6, ⟨rf, rl1, rl2⟩, ⟨cf, cl1, cl2⟩, rll, cll, fll, ⟨hc, hc1, hc2⟩, rng, inj, big, ⟨ls, lef⟩, ⟨rs, rig⟩, ⟨dc, dvd⟩⟩ := id H
  obtain ⟨lf, ll, lo, _⟩ := id lef
  obtain ⟨rf2, rl3, ro, _⟩ := id rig
  refine xx_clv (lv2 := [(0, .ref t), (1, .int (nI r)), (2, .int (nI q)), (3, .int (nI e)), (4, .int (nI a))]) rfl ?_
  have i1 : r * 7 + a < 42 := by omega
  obtain ⟨i1a, i1b, i1c⟩ := rng (r * 7 + a) (by omega)
  have i2 : q * 7 + e < 42 := by omega
  obtain ⟨i2a, i2b, i2c⟩ := rng (q * 7 + e) (by omega)
  have i3 : q * 7 + a < 42 := by omega
  obtain ⟨i3a, i3b, i3c⟩ := rng (q * 7 + a) (by omega)
  have i4 : r * 7 + e < 42 := by omega
  obtain ⟨i4a, i4b, i4c⟩ := rng (r * 7 + e) (by omega)
  refine xx_aload_n dX5_compareRatios_0 rfl ?_
  refine xx_get xx_c5 dX5_compareRatios_1 wf_X5_43 (j := 7) (by decide) ob rfl ?_
  refine xx_aload_n dX5_compareRatios_4 rfl ?_
  refine xx_get xx_c5 dX5_compareRatios_5 wf_X5_32 (j := 5) (by decide) ob rfl ?_
  refine xx_iload_n dX5_compareRatios_8 rfl ?_
  refine xx_bipush (v := 7) dX5_compareRatios_9 (by decide) ?_
  refine xx_imul dX5_compareRatios_11 ?_
  refine xx_eqi (y := nI (r * 7)) (pk_mul r 7) ?_
  refine xx_iload dX5_compareRatios_12 rfl ?_
  refine xx_iadd dX5_compareRatios_14 ?_
  refine xx_eqi (y := nI (r * 7 + a)) (nI_add (r * 7) a) ?_
  refine xx_aald (kd := 10) (b := P (r * 7 + a)) dX5_compareRatios_15 (by decide) rfl hc1 (vp_in_nI (by omega) (by decide)) (by rw [nI_clamp (by omega)]; exact hc2 _ (by omega)) ?_
  refine xx_aload_n dX5_compareRatios_16 rfl ?_
  refine xx_get xx_c5 dX5_compareRatios_17 wf_X5_32 (j := 5) (by decide) ob rfl ?_
  refine xx_iload_n dX5_compareRatios_20 rfl ?_
  refine xx_bipush (v := 7) dX5_compareRatios_21 (by decide) ?_
  refine xx_imul dX5_compareRatios_23 ?_
  refine xx_eqi (y := nI (q * 7)) (pk_mul q 7) ?_
  refine xx_iload_n dX5_compareRatios_24 rfl ?_
  refine xx_iadd dX5_compareRatios_25 ?_
  refine xx_eqi (y := nI (q * 7 + e)) (nI_add (q * 7) e) ?_
  refine xx_aald (kd := 10) (b := P (q * 7 + e)) dX5_compareRatios_26 (by decide) rfl hc1 (vp_in_nI (by omega) (by decide)) (by rw [nI_clamp (by omega)]; exact hc2 _ (by omega)) ?_
  have cp := c_X0_setProduct (G := G) (l := l) lef (big (r * 7 + a) (by omega)) (big (q * 7 + e) (by omega)) (by omega) (by omega) (by omega) (by omega) (by omega) (by omega) (Nat.lt_of_lt_of_le (yy_p200 (hV _ (by omega)) (hV _ (by omega))) (Nat.le_trans (Nat.le_add_right _ _) yy_400))
  refine xx_callV (N := mX0_setProduct) (vs := [.ref (P (r * 7 + a)), .ref (P (q * 7 + e))]) (b := (t + 90)) (rest := []) (d2 := 2) (c2 := 0) (s2 := 0) (c3 := 0) (s3 := 0) dX5_compareRatios_27 wm_X5_104 wi_X0_setProduct wv_X0_setProduct (k := 0) rfl (by decide) lo nX0_setProduct ⟨pX0_setProduct, Nat.le_of_ble_eq_true rfl, by decide, Nat.le_of_ble_eq_true rfl, by decide, by decide⟩ (cp) (fun v9 B hC => ?_) (fun E9 B9 hC => absurd hC.1 (by simp))
  obtain ⟨hv9, k1, k2, k3⟩ := hC
  cases hv9
  refine xx_cst (st2 := []) rfl ?_
  have ob2 := (k3 t (by omega) (by omega)).trans ob
  have hc1b := (k3 (t + 3) (by omega) (by omega)).trans hc1
  refine xx_aload_n dX5_compareRatios_30 rfl ?_
  refine xx_get xx_c5 dX5_compareRatios_31 wf_X5_46 (j := 8) (by decide) ob2 rfl ?_
  refine xx_aload_n dX5_compareRatios_34 rfl ?_
  refine xx_get xx_c5 dX5_compareRatios_35 wf_X5_32 (j := 5) (by decide) ob2 rfl ?_
  refine xx_iload_n dX5_compareRatios_38 rfl ?_
  refine xx_bipush (v := 7) dX5_compareRatios_39 (by decide) ?_
  refine xx_imul dX5_compareRatios_41 ?_
  refine xx_eqi (y := nI (q * 7)) (pk_mul q 7) ?_
  refine xx_iload dX5_compareRatios_42 rfl ?_
  refine xx_iadd dX5_compareRatios_44 ?_
  refine xx_eqi (y := nI (q * 7 + a)) (nI_add (q * 7) a) ?_
  refine xx_aald (kd := 10) (b := P (q * 7 + a)) dX5_compareRatios_45 (by decide) rfl hc1b (vp_in_nI (by omega) (by decide)) (by rw [nI_clamp (by omega)]; exact hc2 _ (by omega)) ?_
  refine xx_aload_n dX5_compareRatios_46 rfl ?_
  refine xx_get xx_c5 dX5_compareRatios_47 wf_X5_32 (j := 5) (by decide) ob2 rfl ?_
  refine xx_iload_n dX5_compareRatios_50 rfl ?_
  refine xx_bipush (v := 7) dX5_compareRatios_51 (by decide) ?_
  refine xx_imul dX5_compareRatios_53 ?_
  refine xx_eqi (y := nI (r * 7)) (pk_mul r 7) ?_
  refine xx_iload_n dX5_compareRatios_54 rfl ?_
  refine xx_iadd dX5_compareRatios_55 ?_
  refine xx_eqi (y := nI (r * 7 + e)) (nI_add (r * 7) e) ?_
  refine xx_aald (kd := 10) (b := P (r * 7 + e)) dX5_compareRatios_56 (by decide) rfl hc1b (vp_in_nI (by omega) (by decide)) (by rw [nI_clamp (by omega)]; exact hc2 _ (by omega)) ?_
  have big2 : ∀ i, i < 43 → xx_bg B (P i) (V i) := fun i hi => by
    obtain ⟨a1, a2, a3⟩ := rng i hi
    exact (big i hi).to (k3 _ (by omega) (by omega)) (k3 _ (by omega) (by omega))
  have rigb := rig.to (k3 _ (by omega) (by omega)) (k3 _ (by omega) (by omega))
  have rob := (k3 (t + 92) (by omega) (by omega)).trans ro
  have cq := c_X0_setProduct (G := G) (l := l) rigb (big2 (q * 7 + a) (by omega)) (big2 (r * 7 + e) (by omega)) (by omega) (by omega) (by omega) (by omega) (by omega) (by omega) (Nat.lt_of_lt_of_le (yy_p200 (hV _ (by omega)) (hV _ (by omega))) (Nat.le_trans (Nat.le_add_right _ _) yy_400))
  refine xx_callV (N := mX0_setProduct) (vs := [.ref (P (q * 7 + a)), .ref (P (r * 7 + e))]) (b := (t + 92)) (rest := []) (d2 := 2) (c2 := 0) (s2 := 0) (c3 := 0) (s3 := 0) dX5_compareRatios_57 wm_X5_104 wi_X0_setProduct wv_X0_setProduct (k := 0) rfl (by decide) rob nX0_setProduct ⟨pX0_setProduct, Nat.le_of_ble_eq_true rfl, by decide, Nat.le_of_ble_eq_true rfl, by decide, by decide⟩ (cq) (fun v9 D hC => ?_) (fun E9 B9 hC => absurd hC.1 (by simp))
  obtain ⟨hv8, m1, m2, m3⟩ := hC
  cases hv8
  refine xx_cst (st2 := []) rfl ?_
  have ob3 := (m3 t (by omega) (by omega)).trans ob2
  have lef3 := k2.to (m3 (t + 90) (by omega) (by omega)) (m3 (t + 90 + 1) (by omega) (by omega))
  obtain ⟨lf3, ll3, lo3, _⟩ := id lef3
  refine xx_aload_n dX5_compareRatios_60 rfl ?_
  refine xx_get xx_c5 dX5_compareRatios_61 wf_X5_43 (j := 7) (by decide) ob3 rfl ?_
  refine xx_aload_n dX5_compareRatios_64 rfl ?_
  refine xx_get xx_c5 dX5_compareRatios_65 wf_X5_46 (j := 8) (by decide) ob3 rfl ?_
  refine xx_callV (N := mX0_compareWith) (vs := [.ref (t + 92)]) (b := (t + 90)) (rest := []) (d2 := 1) (c2 := 0) (s2 := 0) (c3 := 0) (s3 := 0) dX5_compareRatios_68 wm_X5_108 wi_X0_compareWith wv_X0_compareWith (k := 0) rfl (by decide) lo3 nX0_compareWith ⟨pX0_compareWith, Nat.le_of_ble_eq_true rfl, by decide, Nat.le_of_ble_eq_true rfl, by decide, by decide⟩ (c_X0_compareWith lef3 m2) (fun v9 E hC => ?_) (fun E9 B9 hC => absurd hC.1 (by simp))
  obtain ⟨hv7, e9⟩ := hC
  cases hv7
  refine xx_cst (st2 := [.int (yy_cmz (V (r * 7 + a) * V (q * 7 + e)) (V (q * 7 + a) * V (r * 7 + e)))]) rfl ?_
  rw [e9]
  exact xx_iret dX5_compareRatios_71 rfl ⟨rfl, by omega, H.lr ⟨_, lef3⟩ ⟨_, m2⟩ ⟨dc, dvd.to (fun z h1 h2 => (m3 z (by omega) (by omega)).trans (k3 z (by omega) (by omega)))⟩ (fun z h1 h2 => (m3 z (by omega) (by omega)).trans (k3 z (by omega) (by omega))), fun z h1 => (m3 z (by omega) (by omega)).trans (k3 z (by omega) (by omega))⟩
set_option maxRecDepth 100000 in
theorem c_X5_clearOut {G : xx_G} {l : Launch} {A : xx_H} {t R C fl : Nat} {rl cl P : Nat → Nat} {V : Nat → Int} {i j r e : Nat} (H : xx_tb A t R C fl rl cl P V) (hi : i < 6) (hj : j < 7) (hr : r < 6) (he : e < 7) (hir : i ≠ r) (hje : j ≠ e) (hV : ∀ i, i < 43 → (V i).natAbs < 2 ^ 200) : xx_X G l mX5_clearOut 5 0 0 0 (lv_args 0 [.ref t, .int (nI i), .int (nI j), .int (nI r), .int (nI e)]) [] A (fun z B => z = .inl none ∧ B.1 = A.1 ∧ xx_tb B t R C fl rl cl P (yy_un V (i * 7 + j) (yy_qt (V (i * 7 + j) * V (r * 7 + e) - V (i * 7 + e) * V (r * 7 + j)) (V 42))) ∧ ∀ q, (q < t + 4 ∨ t + 103 ≤ q) → B.2 q = A.2 q) := by
  obtain ⟨ob, r6, c6, ⟨rf, rl1, rl2⟩, ⟨cf, cl1, cl2⟩, rll, cll, fll, ⟨hc, hc1, hc2⟩, rng, inj, big, ⟨ls, lef⟩, ⟨rs, rig⟩, ⟨dc, dvd⟩⟩ := id H
  obtain ⟨lf, ll, lo, _⟩ := id lef
  obtain ⟨rf2, rl3, ro, _⟩ := id rig
  refine xx_clv (lv2 := [(0, .ref t), (1, .int (nI i)), (2, .int (nI j)), (3, .int (nI r)), (4, .int (nI e))]) rfl ?_
  have i1 : i * 7 + j < 42 := by omega
  obtain ⟨i1a, i1b, i1c⟩ := rng (i * 7 + j) (by omega)
  have i2 : r * 7 + e < 42 := by omega
  obtain ⟨i2a, i2b, i2c⟩ := rng (r * 7 + e) (by omega)
  have i3 : i * 7 + e < 42 := by omega
  obtain ⟨i3a, i3b, i3c⟩ := rng (i * 7 + e) (by omega)
  have i4 : r * 7 + j < 42 := by omega
  obtain ⟨i4a, i4b, i4c⟩ := rng (r * 7 + j) (by omega)
  obtain ⟨i5a, i5b, i5c⟩ := rng (42) (by omega)
  have h42 : P (i * 7 + j) ≠ P 42 := fun q => absurd (inj _ _ (by omega) (by decide) q) (by omega)
  refine xx_aload_n dX5_clearOut_0 rfl ?_
  refine xx_get xx_c5 dX5_clearOut_1 wf_X5_43 (j := 7) (by decide) ob rfl ?_
  refine xx_aload_n dX5_clearOut_4 rfl ?_
  refine xx_get xx_c5 dX5_clearOut_5 wf_X5_32 (j := 5) (by decide) ob rfl ?_
  refine xx_iload_n dX5_clearOut_8 rfl ?_
  refine xx_bipush (v := 7) dX5_clearOut_9 (by decide) ?_
  refine xx_imul dX5_clearOut_11 ?_
  refine xx_eqi (y := nI (i * 7)) (pk_mul i 7) ?_
  refine xx_iload_n dX5_clearOut_12 rfl ?_
  refine xx_iadd dX5_clearOut_13 ?_
  refine xx_eqi (y := nI (i * 7 + j)) (nI_add (i * 7) j) ?_
  refine xx_aald (kd := 10) (b := P (i * 7 + j)) dX5_clearOut_14 (by decide) rfl hc1 (vp_in_nI (by omega) (by decide)) (by rw [nI_clamp (by omega)]; exact hc2 _ (by omega)) ?_
  refine xx_aload_n dX5_clearOut_15 rfl ?_
  refine xx_get xx_c5 dX5_clearOut_16 wf_X5_32 (j := 5) (by decide) ob rfl ?_
  refine xx_iload_n dX5_clearOut_19 rfl ?_
  refine xx_bipush (v := 7) dX5_clearOut_20 (by decide) ?_
  refine xx_imul dX5_clearOut_22 ?_
  refine xx_eqi (y := nI (r * 7)) (pk_mul r 7) ?_
  refine xx_iload dX5_clearOut_23 rfl ?_
  refine xx_iadd dX5_clearOut_25 ?_
  refine xx_eqi (y := nI (r * 7 + e)) (nI_add (r * 7) e) ?_
  refine xx_aald (kd := 10) (b := P (r * 7 + e)) dX5_clearOut_26 (by decide) rfl hc1 (vp_in_nI (by omega) (by decide)) (by rw [nI_clamp (by omega)]; exact hc2 _ (by omega)) ?_
  have cp := c_X0_setProduct (G := G) (l := l) lef (big (i * 7 + j) (by omega)) (big (r * 7 + e) (by omega)) (by omega) (by omega) (by omega) (by omega) (by omega) (by omega) (Nat.lt_of_lt_of_le (yy_p200 (hV _ (by omega)) (hV _ (by omega))) (Nat.le_trans (Nat.le_add_right _ _) yy_400))
  refine xx_callV (N := mX0_setProduct) (vs := [.ref (P (i * 7 + j)), .ref (P (r * 7 + e))]) (b := (t + 90)) (rest := []) (d2 := 2) (c2 := 0) (s2 := 0) (c3 := 0) (s3 := 0) dX5_clearOut_27 wm_X5_104 wi_X0_setProduct wv_X0_setProduct (k := 0) rfl (by decide) lo nX0_setProduct ⟨pX0_setProduct, Nat.le_of_ble_eq_true rfl, by decide, Nat.le_of_ble_eq_true rfl, by decide, by decide⟩ (cp) (fun v9 B hC => ?_) (fun E9 B9 hC => absurd hC.1 (by simp))
  obtain ⟨hv9, k1, k2, k3⟩ := hC
  cases hv9
  refine xx_cst (st2 := []) rfl ?_
  have ob2 := (k3 t (by omega) (by omega)).trans ob
  have hc1b := (k3 (t + 3) (by omega) (by omega)).trans hc1
  refine xx_aload_n dX5_clearOut_30 rfl ?_
  refine xx_get xx_c5 dX5_clearOut_31 wf_X5_46 (j := 8) (by decide) ob2 rfl ?_
  refine xx_aload_n dX5_clearOut_34 rfl ?_
  refine xx_get xx_c5 dX5_clearOut_35 wf_X5_32 (j := 5) (by decide) ob2 rfl ?_
  refine xx_iload_n dX5_clearOut_38 rfl ?_
  refine xx_bipush (v := 7) dX5_clearOut_39 (by decide) ?_
  refine xx_imul dX5_clearOut_41 ?_
  refine xx_eqi (y := nI (i * 7)) (pk_mul i 7) ?_
  refine xx_iload dX5_clearOut_42 rfl ?_
  refine xx_iadd dX5_clearOut_44 ?_
  refine xx_eqi (y := nI (i * 7 + e)) (nI_add (i * 7) e) ?_
  refine xx_aald (kd := 10) (b := P (i * 7 + e)) dX5_clearOut_45 (by decide) rfl hc1b (vp_in_nI (by omega) (by decide)) (by rw [nI_clamp (by omega)]; exact hc2 _ (by omega)) ?_
  refine xx_aload_n dX5_clearOut_46 rfl ?_
  refine xx_get xx_c5 dX5_clearOut_47 wf_X5_32 (j := 5) (by decide) ob2 rfl ?_
  refine xx_iload_n dX5_clearOut_50 rfl ?_
  refine xx_bipush (v := 7) dX5_clearOut_51 (by decide) ?_
  refine xx_imul dX5_clearOut_53 ?_
  refine xx_eqi (y := nI (r * 7)) (pk_mul r 7) ?_
  refine xx_iload_n dX5_clearOut_54 rfl ?_
  refine xx_iadd dX5_clearOut_55 ?_
  refine xx_eqi (y := nI (r * 7 + j)) (nI_add (r * 7) j) ?_
  refine xx_aald (kd := 10) (b := P (r * 7 + j)) dX5_clearOut_56 (by decide) rfl hc1b (vp_in_nI (by omega) (by decide)) (by rw [nI_clamp (by omega)]; exact hc2 _ (by omega)) ?_
  have big2 : ∀ i, i < 43 → xx_bg B (P i) (V i) := fun i hi => by
    obtain ⟨a1, a2, a3⟩ := rng i hi
    exact (big i hi).to (k3 _ (by omega) (by omega)) (k3 _ (by omega) (by omega))
  have rigb := rig.to (k3 _ (by omega) (by omega)) (k3 _ (by omega) (by omega))
  have rob := (k3 (t + 92) (by omega) (by omega)).trans ro
  have cq := c_X0_setProduct (G := G) (l := l) rigb (big2 (i * 7 + e) (by omega)) (big2 (r * 7 + j) (by omega)) (by omega) (by omega) (by omega) (by omega) (by omega) (by omega) (Nat.lt_of_lt_of_le (yy_p200 (hV _ (by omega)) (hV _ (by omega))) (Nat.le_trans (Nat.le_add_right _ _) yy_400))
  refine xx_callV (N := mX0_setProduct) (vs := [.ref (P (i * 7 + e)), .ref (P (r * 7 + j))]) (b := (t + 92)) (rest := []) (d2 := 2) (c2 := 0) (s2 := 0) (c3 := 0) (s3 := 0) dX5_clearOut_57 wm_X5_104 wi_X0_setProduct wv_X0_setProduct (k := 0) rfl (by decide) rob nX0_setProduct ⟨pX0_setProduct, Nat.le_of_ble_eq_true rfl, by decide, Nat.le_of_ble_eq_true rfl, by decide, by decide⟩ (cq) (fun v9 D hC => ?_) (fun E9 B9 hC => absurd hC.1 (by simp))
  obtain ⟨hv8, m1, m2, m3⟩ := hC
  cases hv8
  refine xx_cst (st2 := []) rfl ?_
  have ob3 := (m3 t (by omega) (by omega)).trans ob2
  have lef3 := k2.to (m3 (t + 90) (by omega) (by omega)) (m3 (t + 90 + 1) (by omega) (by omega))
  obtain ⟨lf3, ll3, lo3, _⟩ := id lef3
  refine xx_aload_n dX5_clearOut_60 rfl ?_
  refine xx_get xx_c5 dX5_clearOut_61 wf_X5_43 (j := 7) (by decide) ob3 rfl ?_
  refine xx_aload_n dX5_clearOut_64 rfl ?_
  refine xx_get xx_c5 dX5_clearOut_65 wf_X5_46 (j := 8) (by decide) ob3 rfl ?_
  have hb9 : (V (i * 7 + j) * V (r * 7 + e)).natAbs + (V (i * 7 + e) * V (r * 7 + j)).natAbs < yB ^ 14 := by
    rw [Int.natAbs_mul, Int.natAbs_mul]
    have u1 := yy_p200 (hV (i * 7 + j) (by omega)) (hV (r * 7 + e) (by omega))
    have u2 := yy_p200 (hV (i * 7 + e) (by omega)) (hV (r * 7 + j) (by omega))
    exact Nat.lt_of_lt_of_le (Nat.add_lt_add u1 u2) yy_400
  refine xx_callV (N := mX0_subtract) (vs := [.ref (t + 92)]) (b := (t + 90)) (rest := []) (d2 := 3) (c2 := 0) (s2 := 0) (c3 := 0) (s3 := 0) dX5_clearOut_68 wm_X5_119 wi_X0_subtract wv_X0_subtract (k := 0) rfl (by decide) lo3 nX0_subtract ⟨pX0_subtract, Nat.le_of_ble_eq_true rfl, by decide, Nat.le_of_ble_eq_true rfl, by decide, by decide⟩ (c_X0_subtract lef3 m2 (by omega) (by omega) (by omega) hb9) (fun v9 E hC => ?_) (fun E9 B9 hC => absurd hC.1 (by simp))
  obtain ⟨hv7, p1, p2, p3⟩ := hC
  cases hv7
  refine xx_cst (st2 := []) rfl ?_
  have fr : ∀ z, (z < t + 90 ∨ t + 94 ≤ z) → E.2 z = A.2 z := fun z h1 => (p3 z (by omega) (by omega)).trans ((m3 z (by omega) (by omega)).trans (k3 z (by omega) (by omega)))
  have ob4 := (fr t (by omega)).trans ob
  have hc1d := (fr (t + 3) (by omega)).trans hc1
  obtain ⟨dv0, dv1⟩ := dvd.to (C := E) (fun z h1 h2 => fr z (by omega))
  obtain ⟨df, dg, dob, _⟩ := id dv0
  refine xx_aload_n dX5_clearOut_71 rfl ?_
  refine xx_get xx_c5 dX5_clearOut_72 wf_X5_52 (j := 9) (by decide) ob4 rfl ?_
  refine xx_aload_n dX5_clearOut_75 rfl ?_
  refine xx_get xx_c5 dX5_clearOut_76 wf_X5_43 (j := 7) (by decide) ob4 rfl ?_
  refine xx_aload_n dX5_clearOut_79 rfl ?_
  refine xx_get xx_c5 dX5_clearOut_80 wf_X5_39 (j := 6) (by decide) ob4 rfl ?_
  refine xx_aload_n dX5_clearOut_83 rfl ?_
  refine xx_get xx_c5 dX5_clearOut_84 wf_X5_32 (j := 5) (by decide) ob4 rfl ?_
  refine xx_iload_n dX5_clearOut_87 rfl ?_
  refine xx_bipush (v := 7) dX5_clearOut_88 (by decide) ?_
  refine xx_imul dX5_clearOut_90 ?_
  refine xx_eqi (y := nI (i * 7)) (pk_mul i 7) ?_
  refine xx_iload_n dX5_clearOut_91 rfl ?_
  refine xx_iadd dX5_clearOut_92 ?_
  refine xx_eqi (y := nI (i * 7 + j)) (nI_add (i * 7) j) ?_
  refine xx_aald (kd := 10) (b := P (i * 7 + j)) dX5_clearOut_93 (by decide) rfl hc1d (vp_in_nI (by omega) (by decide)) (by rw [nI_clamp (by omega)]; exact hc2 _ (by omega)) ?_
  have cd := c_X1_divide (G := G) (l := l) dv0 p2 ((big 42 (by decide)).to (fr _ (by omega)) (fr _ (by omega))) ((big (i * 7 + j) (by omega)).to (fr _ (by omega)) (fr _ (by omega))) (by omega) (by omega) (by omega) (by omega) (by omega) (by omega)
  refine xx_callV (N := mX1_divide) (vs := [.ref (t + 90), .ref (P 42), .ref (P (i * 7 + j))]) (b := (t + 94)) (rest := []) (d2 := 3) (c2 := 0) (s2 := 0) (c3 := 0) (s3 := 0) dX5_clearOut_94 wm_X5_122 wi_X1_divide wv_X1_divide (k := 1) rfl (by decide) dob nX1_divide ⟨pX1_divide, Nat.le_of_ble_eq_true rfl, by decide, Nat.le_of_ble_eq_true rfl, by decide, by decide⟩ (cd) (fun v9 F hC => ?_) (fun E9 B9 hC => absurd hC.1 (by simp))
  obtain ⟨hv6, q1, q2, q3, q4, q5⟩ := hC
  cases hv6
  refine xx_cst (st2 := []) rfl ?_
  obtain ⟨⟨s3, d3⟩, ⟨s5, d5⟩, ⟨s7, d7⟩, dcc⟩ := dv1
  have g : ∀ z, t + 97 ≤ z → z < t + 103 → F.2 z = E.2 z := fun z h1 h2 => q5 z (by omega) (by omega) (by omega) (by omega) (by omega) (by omega)
  refine xx_vret dX5_clearOut_97 rfl ⟨rfl, by omega, H.cell (by omega) q4 ⟨_, q3⟩ ⟨_, (m2.to (p3 _ (by omega) (by omega)) (p3 _ (by omega) (by omega))).to (q5 _ (by omega) (by omega) (by omega) (by omega) (by omega) (by omega)) (q5 _ (by omega) (by omega) (by omega) (by omega) (by omega) (by omega))⟩ ⟨dc, q2, ⟨s3, d3.to (g _ (by omega) (by omega)) (g _ (by omega) (by omega))⟩, ⟨s5, d5.to (g _ (by omega) (by omega)) (g _ (by omega) (by omega))⟩, ⟨s7, d7.to (g _ (by omega) (by omega)) (g _ (by omega) (by omega))⟩, dcc⟩ (fun z h1 h2 h3 h4 => (q5 z (by omega) (by omega) (by omega) (by omega) h3 h4).trans (fr z (by omega))), fun z h1 => (q5 z (by omega) (by omega) (by omega) (by omega) (by omega) (by omega)).trans (fr z (by omega))⟩
