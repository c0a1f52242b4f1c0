/-! ===== Divider: findCommon, divideByCommon; Fraction ===== -/
theorem xx_mth1abs : xx_mth RX1 40 Lib.Math.abs.name Lib.Math.abs.code 1 := ⟨wm_X1_40, wq_s_abs, wq_z, wq_c_abs⟩
theorem yy_absg (u : Int) : (if 0 ≤ iz u.sign then iz u.sign else 0 - iz u.sign) = iz ((u.natAbs : Int)).sign := by
  rcases Int.lt_trichotomy u 0 with h | h | h
  · rw [Int.sign_eq_neg_one_of_neg h, Int.sign_eq_one_of_pos (a := (u.natAbs : Int)) (by omega)]; decide
  · subst h; decide
  · rw [Int.sign_eq_one_of_pos h, Int.sign_eq_one_of_pos (a := (u.natAbs : Int)) (by omega)]; decide
theorem xx_bg.lt {B : xx_H} {a : Nat} {v : Int} (h : xx_bg B a v) : v.natAbs < yB ^ 14 := by
  obtain ⟨f, len, _, _, h3⟩ := h
  exact Nat.lt_of_lt_of_le h3.lt (Nat.pow_le_pow_right (by decide) h3.1)
/-- a Divider with its three numbers -/
def xx_dw (B : xx_H) (b c : Nat) : Prop := xx_dv B b c ∧ (∃ s, xx_bg B (b + 3) s) ∧ (∃ s, xx_bg B (b + 5) s) ∧ (∃ s, xx_bg B (b + 7) s) ∧ (c = b + 5 ∨ c = b + 7)
theorem xx_dw.to {B C : xx_H} {b c : Nat} (h : xx_dw B b c) (hq : ∀ q, b ≤ q → q < b + 9 → C.2 q = B.2 q) : xx_dw C b c := by
  obtain ⟨h1, ⟨s1, h2⟩, ⟨s2, h3⟩, ⟨s3, h4⟩, h5⟩ := h
  exact ⟨h1.to (hq _ (by omega) (by omega)) (hq _ (by omega) (by omega)) (hq _ (by omega) (by omega)), ⟨s1, h2.to (hq _ (by omega) (by omega)) (hq _ (by omega) (by omega))⟩, ⟨s2, h3.to (hq _ (by omega) (by omega)) (hq _ (by omega) (by omega))⟩, ⟨s3, h4.to (hq _ (by omega) (by omega)) (hq _ (by omega) (by omega))⟩, h5⟩
/-- how many rounds Euclid's way may take -/
def yy_em (n X Y : Nat) : Prop := ∃ k, (Y < 2 ^ k ∧ 2 * k ≤ n) ∨ (X < 2 ^ k ∧ Y ≤ X ∧ 2 * k ≤ n + 1)
theorem yy_em_s {n X Y : Nat} (h : yy_em n X Y) (hY : Y ≠ 0) : ∃ m, n = m + 1 ∧ yy_em m Y (X % Y) := by
  obtain ⟨k, h | ⟨h1, h2, h3⟩⟩ := h
  · cases k with
    | zero => exact absurd h.1 (by simp; exact hY)
    | succ k =>
      refine ⟨n - 1, by omega, k + 1, Or.inr ⟨h.1, Nat.le_of_lt (Nat.mod_lt X (by omega)), by omega⟩⟩
  · cases k with
    | zero => exact absurd h1 (by simp; omega)
    | succ k =>
      refine ⟨n - 1, by omega, k, Or.inl ⟨?_, by omega⟩⟩
      have e := Nat.div_add_mod X Y
      have l := Nat.mod_lt X (show Y > 0 by omega)
      have q : 1 ≤ X / Y := (Nat.le_div_iff_mul_le (by omega)).mpr (by omega)
      have m : Y * 1 ≤ Y * (X / Y) := Nat.mul_le_mul_left Y q
      have p : 2 ^ (k + 1) = 2 * 2 ^ k := by rw [Nat.pow_succ, Nat.mul_comm]
      omega
theorem yy_rmN (X Y : Nat) : yy_rm (X : Int) (Y : Int) = ((X % Y : Nat) : Int) := by
  unfold yy_rm
  rw [Int.natAbs_natCast, Int.natAbs_natCast]
  cases X with
  | zero => simp
  | succ n => rw [Int.sign_eq_one_of_pos (by omega), Int.one_mul]
theorem yy_sg0 (Y : Nat) (h : iz (Y : Int).sign = 0) : Y = 0 := by
  cases Y with
  | zero => rfl
  | succ n => rw [Int.sign_eq_one_of_pos (by omega)] at h; exact absurd h (by decide)
set_option maxRecDepth 100000 in
theorem l_X1_fc {G : xx_G} {l : Launch} {A : xx_H} {b c gg : Nat} {Q : Option Value ⊕ String → xx_H → Prop} (k : ∀ (B : xx_H) (p : Nat), B.1 = A.1 → xx_dw B b p → xx_bg B p (gg : Int) → (∀ q, q < b ∨ b + 9 ≤ q → B.2 q = A.2 q) → Q (.inl none) B) :
    ∀ (n i : Nat), i + n = 10000 → ∀ (B : xx_H) (p r X Y : Nat), (p = b + 5 ∧ r = b + 7 ∨ p = b + 7 ∧ r = b + 5) → yy_em n X Y → B.1 = A.1 → xx_dv B b c → (∃ s, xx_bg B (b + 3) s) → xx_bg B p (X : Int) → xx_bg B r (Y : Int) → Nat.gcd X Y = gg → (∀ q, q < b ∨ b + 9 ≤ q → B.2 q = A.2 q) → xx_X G l mX1_findCommon 4 0 0 36 [(0, .ref b), (3, .ref p), (4, .ref r), (5, .int (nI i))] [] B Q := by
  intro n
  induction n with
  | zero =>
    intro i hi B p r X Y hpr hm y1 y2 y3 y4 y5 y6 y7
    have hY : Y = 0 := by
      apply Classical.byContradiction
      intro h
      obtain ⟨m, h1, _⟩ := yy_em_s hm h
      omega
    subst hY
    have hi : i = 10000 := by omega
    subst hi
    obtain ⟨f, g, hb, hr, hy⟩ := y2
    have hg : X = gg := by rw [← y6, Nat.gcd_zero_right]
    refine xx_iload dX1_findCommon_36 rfl ?_
    refine xx_sipush (v := 10000) dX1_findCommon_38 (by decide) ?_
    refine xx_icmp_ge (tgt := 79) dX1_findCommon_41 (by decide) (fun j41 => ?_) (fun h => absurd (by decide) h)
    refine xx_aload_n dX1_findCommon_79 rfl ?_
    refine xx_aload_n dX1_findCommon_80 rfl ?_
    refine xx_put xx_c1 dX1_findCommon_81 wf_X1_29 (j := 5) (by decide) rfl rfl rfl hb (Nat.le_of_ble_eq_true rfl) (xx_gu fun C z1 h1 o1 => ?_)
    have h1 : C.2 b = xx_o 1 [.ref (b + 1), .ref (b + 2), .ref (b + 3), .ref (b + 5), .ref (b + 7), .ref p] := h1
    refine xx_vret dX1_findCommon_84 rfl ?_
    obtain ⟨s3, y3⟩ := y3
    refine k C p (by omega) ⟨⟨f, g, h1, (o1 (b + 1) (by omega)).trans hr, (o1 (b + 2) (by omega)).trans hy⟩, ⟨s3, y3.to (o1 _ (by omega)) (o1 _ (by omega))⟩, ?_, ?_, by omega⟩ (by rw [← hg]; exact y4.to (o1 _ (by omega)) (o1 _ (by omega))) (fun q hq => (o1 q (by omega)).trans (y7 q hq))
    · rcases hpr with ⟨e1, e2⟩ | ⟨e1, e2⟩
      · rw [← e1]; exact ⟨_, y4.to (o1 _ (by omega)) (o1 _ (by omega))⟩
      · rw [← e2]; exact ⟨_, y5.to (o1 _ (by omega)) (o1 _ (by omega))⟩
    · rcases hpr with ⟨e1, e2⟩ | ⟨e1, e2⟩
      · rw [← e2]; exact ⟨_, y5.to (o1 _ (by omega)) (o1 _ (by omega))⟩
      · rw [← e1]; exact ⟨_, y4.to (o1 _ (by omega)) (o1 _ (by omega))⟩
  | succ n ih =>
    intro i hi B p r X Y hpr hm y1 y2 y3 y4 y5 y6 y7
    obtain ⟨f, g, hb, hr, hy⟩ := id y2
    obtain ⟨gr, lr, hr0, _, _⟩ := id y5
    refine xx_iload dX1_findCommon_36 rfl ?_
    refine xx_sipush (v := 10000) dX1_findCommon_38 (by decide) ?_
    refine xx_icmp_ge (tgt := 79) dX1_findCommon_41 (by decide) (fun h => absurd h (nI_ge (a := i) (b := 10000) (by omega) (by decide))) (fun j41 => ?_)
    refine xx_aload dX1_findCommon_44 rfl ?_
    refine xx_get xx_c0 dX1_findCommon_46 wf_X1_36 (j := 0) (by decide) hr0 rfl ?_
    refine xx_if_eq (tgt := 79) dX1_findCommon_49 (by decide) (fun j49 => ?_) (fun j49 => ?_)
    · refine xx_aload_n dX1_findCommon_79 rfl ?_
      refine xx_aload_n dX1_findCommon_80 rfl ?_
      refine xx_put xx_c1 dX1_findCommon_81 wf_X1_29 (j := 5) (by decide) rfl rfl rfl hb (Nat.le_of_ble_eq_true rfl) (xx_gu fun C z1 h1 o1 => ?_)
      have h1 : C.2 b = xx_o 1 [.ref (b + 1), .ref (b + 2), .ref (b + 3), .ref (b + 5), .ref (b + 7), .ref p] := h1
      refine xx_vret dX1_findCommon_84 rfl ?_
      have hY : Y = 0 := yy_sg0 Y j49
      subst hY
      have hg : X = gg := by rw [← y6, Nat.gcd_zero_right]
      obtain ⟨s3, y3⟩ := y3
      refine k C p (by omega) ⟨⟨f, g, h1, (o1 (b + 1) (by omega)).trans hr, (o1 (b + 2) (by omega)).trans hy⟩, ⟨s3, y3.to (o1 _ (by omega)) (o1 _ (by omega))⟩, ?_, ?_, by omega⟩ (by rw [← hg]; exact y4.to (o1 _ (by omega)) (o1 _ (by omega))) (fun q hq => (o1 q (by omega)).trans (y7 q hq))
      · rcases hpr with ⟨e1, e2⟩ | ⟨e1, e2⟩
        · rw [← e1]; exact ⟨_, y4.to (o1 _ (by omega)) (o1 _ (by omega))⟩
        · rw [← e2]; exact ⟨_, y5.to (o1 _ (by omega)) (o1 _ (by omega))⟩
      · rcases hpr with ⟨e1, e2⟩ | ⟨e1, e2⟩
        · rw [← e2]; exact ⟨_, y5.to (o1 _ (by omega)) (o1 _ (by omega))⟩
        · rw [← e1]; exact ⟨_, y4.to (o1 _ (by omega)) (o1 _ (by omega))⟩
    · refine xx_aload_n dX1_findCommon_52 rfl ?_
      refine xx_aload_n dX1_findCommon_53 rfl ?_
      refine xx_aload dX1_findCommon_54 rfl ?_
      refine xx_aload_n dX1_findCommon_56 rfl ?_
      refine xx_get xx_c1 dX1_findCommon_57 wf_X1_19 (j := 2) (by decide) hb rfl ?_
      have hY : Y ≠ 0 := by intro e; subst e; exact j49 rfl
      obtain ⟨m, e9, hm2⟩ := yy_em_s hm hY
      have e9 : m = n := by omega
      subst e9
      obtain ⟨s3, y3⟩ := y3
      have cd := c_X1_divide (G := G) (l := l) y2 y4 y5 y3 (by omega) (by omega) (by omega) (by omega) (by omega) (by omega)
      rw [yy_rmN] at cd
      refine xx_callV (N := mX1_divide) (vs := [.ref p, .ref r, .ref (b + 3)]) (b := b) (rest := []) (d2 := 3) (c2 := 0) (s2 := 0) (c3 := 0) (s3 := 0) dX1_findCommon_60 wm_X1_46 wi_X1_divide wv_X1_divide (k := 1) rfl (by decide) hb nX1_divide ⟨pX1_divide, Nat.le_of_ble_eq_true rfl, by decide, Nat.le_of_ble_eq_true rfl, by decide, by decide⟩ (cd) (fun v9 C hC => ?_) (fun E9 B9 hC => absurd hC.1 (by simp))
      obtain ⟨hv9, k1, k2, k3, k4, k5⟩ := hC
      cases hv9
      refine xx_cst (st2 := []) rfl ?_
      refine xx_aload_n dX1_findCommon_63 rfl ?_
      refine xx_astore dX1_findCommon_64 (by decide) ?_
      refine xx_clv (lv2 := [(0, .ref b), (3, .ref p), (4, .ref r), (5, .int (nI i)), (6, .ref p)]) rfl ?_
      refine xx_aload dX1_findCommon_66 rfl ?_
      refine xx_astore_n dX1_findCommon_68 (by decide) ?_
      refine xx_clv (lv2 := [(0, .ref b), (3, .ref r), (4, .ref r), (5, .int (nI i)), (6, .ref p)]) rfl ?_
      refine xx_aload dX1_findCommon_69 rfl ?_
      refine xx_astore dX1_findCommon_71 (by decide) ?_
      refine xx_clv (lv2 := [(0, .ref b), (3, .ref r), (4, .ref p), (5, .int (nI i)), (6, .ref p)]) rfl ?_
      refine xx_iinc (v := nI (i + 1)) dX1_findCommon_73 rfl (nI_1 i) (by decide) ?_
      refine xx_goto (tgt := 36) dX1_findCommon_76 (by decide) ?_
      refine xx_less [0, 3, 4, 5] ?_
      refine xx_clv (lv2 := [(0, .ref b), (3, .ref r), (4, .ref p), (5, .int (nI (i + 1)))]) rfl ?_
      exact ih (i + 1) (by omega) C r p Y (X % Y) (by omega) hm2 (by omega) k2 ⟨_, k4⟩ (y5.to (k5 r (by omega) (by omega) (by omega) (by omega) (by omega) (by omega)) (k5 (r + 1) (by omega) (by omega) (by omega) (by omega) (by omega) (by omega))) k3 (by rw [Nat.gcd_comm, ← Nat.gcd_rec, Nat.gcd_comm]; exact y6) (fun q hq => (k5 q (by omega) (by omega) (by omega) (by omega) (by omega) (by omega)).trans (y7 q hq))
set_option maxRecDepth 100000 in
theorem c_X1_findCommon {G : xx_G} {l : Launch} {A : xx_H} {b c x v : Nat} {u w : Int} (hb : xx_dw A b c) (hx : xx_bg A x u) (hv : xx_bg A v w) (n1 : x + 2 ≤ b ∨ b + 9 ≤ x) (n2 : v + 2 ≤ b ∨ b + 9 ≤ v) (hw : 0 ≤ w) : xx_X G l mX1_findCommon 4 0 0 0 (lv_args 0 [.ref b, .ref x, .ref v]) [] A (fun q B => q = .inl none ∧ ∃ p, B.1 = A.1 ∧ xx_dw B b p ∧ xx_bg B p ((Nat.gcd u.natAbs w.natAbs : Nat) : Int) ∧ ∀ q, q < b ∨ b + 9 ≤ q → B.2 q = A.2 q) := by
  obtain ⟨hd, ⟨s1, h3⟩, ⟨s2, h5⟩, ⟨s3, h7⟩, hc⟩ := hb
  obtain ⟨f, g, hb0, hr, hy⟩ := id hd
  obtain ⟨f5, l5, h50, h51, _⟩ := id h5
  obtain ⟨f7, l7, h70, h71, _⟩ := id h7
  refine xx_clv (lv2 := [(0, .ref b), (1, .ref x), (2, .ref v)]) rfl ?_
  refine xx_aload_n dX1_findCommon_0 rfl ?_
  refine xx_get xx_c1 dX1_findCommon_1 wf_X1_23 (j := 3) (by decide) hb0 rfl ?_
  refine xx_astore_n dX1_findCommon_4 (by decide) ?_
  refine xx_clv (lv2 := [(0, .ref b), (1, .ref x), (2, .ref v), (3, .ref (b + 5))]) rfl ?_
  refine xx_aload_n dX1_findCommon_5 rfl ?_
  refine xx_get xx_c1 dX1_findCommon_6 wf_X1_26 (j := 4) (by decide) hb0 rfl ?_
  refine xx_astore dX1_findCommon_9 (by decide) ?_
  refine xx_clv (lv2 := [(0, .ref b), (1, .ref x), (2, .ref v), (3, .ref (b + 5)), (4, .ref (b + 7))]) rfl ?_
  refine xx_aload_n dX1_findCommon_11 rfl ?_
  refine xx_aload_n dX1_findCommon_12 rfl ?_
  refine xx_callV (N := mX0_copy) (vs := [.ref x]) (b := (b + 5)) (rest := []) (d2 := 1) (c2 := 0) (s2 := 0) (c3 := 0) (s3 := 0) dX1_findCommon_13 wm_X1_32 wi_X0_copy wv_X0_copy (k := 0) rfl (by decide) h50 nX0_copy ⟨pX0_copy, Nat.le_of_ble_eq_true rfl, by decide, Nat.le_of_ble_eq_true rfl, by decide, by decide⟩ (c_X0_copy h5 hx (by omega) (by omega) (by omega)) (fun v9 B hC => ?_) (fun E9 B9 hC => absurd hC.1 (by simp))
  obtain ⟨hv9, a1, a2, a3⟩ := hC
  cases hv9
  refine xx_cst (st2 := []) rfl ?_
  have h7b := h7.to (a3 (b + 7) (by omega) (by omega)) (a3 (b + 7 + 1) (by omega) (by omega))
  have hvb := hv.to (a3 v (by omega) (by omega)) (a3 (v + 1) (by omega) (by omega))
  have h70b := (a3 (b + 7) (by omega) (by omega)).trans h70
  refine xx_aload dX1_findCommon_16 rfl ?_
  refine xx_aload_n dX1_findCommon_18 rfl ?_
  refine xx_callV (N := mX0_copy) (vs := [.ref v]) (b := (b + 7)) (rest := []) (d2 := 1) (c2 := 0) (s2 := 0) (c3 := 0) (s3 := 0) dX1_findCommon_19 wm_X1_32 wi_X0_copy wv_X0_copy (k := 0) rfl (by decide) h70b nX0_copy ⟨pX0_copy, Nat.le_of_ble_eq_true rfl, by decide, Nat.le_of_ble_eq_true rfl, by decide, by decide⟩ (c_X0_copy h7b hvb (by omega) (by omega) (by omega)) (fun v9 C hC => ?_) (fun E9 B9 hC => absurd hC.1 (by simp))
  obtain ⟨hv8, b1, b2, b3⟩ := hC
  cases hv8
  refine xx_cst (st2 := []) rfl ?_
  have h5c := a2.to (b3 (b + 5) (by omega) (by omega)) (b3 (b + 5 + 1) (by omega) (by omega))
  obtain ⟨f9, l9, h90, h91, h92⟩ := h5c
  refine xx_aload_n dX1_findCommon_22 rfl ?_
  refine xx_aload_n dX1_findCommon_23 rfl ?_
  refine xx_get xx_c0 dX1_findCommon_24 wf_X1_36 (j := 0) (by decide) h90 rfl ?_
  refine xx_mabs dX1_findCommon_27 xx_mth1abs (by decide) (Nat.le_of_ble_eq_true rfl) ?_
  refine xx_eqi (y := iz (u.natAbs : Int).sign) (yy_absg u) ?_
  refine xx_put xx_c0 dX1_findCommon_30 wf_X1_36 (j := 0) (by decide) rfl rfl rfl h90 (Nat.le_of_ble_eq_true rfl) (xx_gu fun D z1 h1 o1 => ?_)
  have h1 : D.2 (b + 5) = xx_o 0 [.int (iz (u.natAbs : Int).sign), .int (nI l9), .ref (b + 5 + 1)] := h1
  refine xx_iconst (v := 0) dX1_findCommon_33 (by decide) ?_
  refine xx_istore dX1_findCommon_34 (by decide) ?_
  refine xx_clv (lv2 := [(0, .ref b), (1, .ref x), (2, .ref v), (3, .ref (b + 5)), (4, .ref (b + 7)), (5, .int 0)]) rfl ?_
  have hwn : w = (w.natAbs : Int) := by omega
  have hlt : w.natAbs < 2 ^ 434 := Nat.lt_of_lt_of_le hv.lt (Nat.le_of_eq (by show (2 ^ 31) ^ 14 = 2 ^ 434; rw [← Nat.pow_mul]))
  refine xx_less [0, 3, 4, 5] ?_
  refine xx_clv (lv2 := [(0, .ref b), (3, .ref (b + 5)), (4, .ref (b + 7)), (5, .int (nI 0))]) rfl ?_
  refine l_X1_fc (A := A) (c := c) (gg := Nat.gcd u.natAbs w.natAbs) (fun B9 p y1 y2 y3 y4 => ⟨rfl, p, y1, y2, y3, y4⟩) 10000 0 rfl D (b + 5) (b + 7) u.natAbs w.natAbs (Or.inl ⟨rfl, rfl⟩) ⟨434, Or.inl ⟨hlt, by decide⟩⟩ (by omega) (hd.to ?_ ?_ ?_) ⟨s1, h3.to ?_ ?_⟩ ⟨f9, l9, h1, (o1 _ (by omega)).trans h91, h92⟩ (by rw [← hwn]; exact b2.to (o1 _ (by omega)) (o1 _ (by omega))) rfl (fun q hq => ?_)
  all_goals first | rw [o1 _ (by omega), b3 _ (by omega) (by omega), a3 _ (by omega) (by omega)]
theorem yy_qt1 (u : Int) : yy_qt u 1 = u := by
  unfold yy_qt
  show u.sign * 1 * ((u.natAbs / 1 : Nat) : Int) = u
  rw [Nat.div_one, Int.mul_one]; exact yy_sna u
set_option maxRecDepth 100000 in
theorem c_X1_divideByCommon {G : xx_G} {l : Launch} {A : xx_H} {b c z : Nat} {u g : Int} (hb : xx_dw A b c) (hc : xx_bg A c g) (hz : xx_bg A z u) (n1 : z + 2 ≤ b ∨ b + 9 ≤ z) : xx_X G l mX1_divideByCommon 4 0 0 0 (lv_args 0 [.ref b, .ref z]) [] A (fun q B => q = .inl none ∧ B.1 = A.1 ∧ xx_dw B b c ∧ xx_bg B c g ∧ xx_bg B z (yy_qt u g) ∧ ∀ q, (q < b ∨ b + 9 ≤ q) → q ≠ z → q ≠ z + 1 → B.2 q = A.2 q) := by
  obtain ⟨hd, ⟨s1, h3⟩, ⟨s2, h5⟩, ⟨s3, h7⟩, hcc⟩ := id hb
  obtain ⟨f, gb, hb0, hr, hy⟩ := id hd
  obtain ⟨f3, l3, h30, h31, _⟩ := id h3
  obtain ⟨fc, lc, hc0, hc1, _⟩ := id hc
  refine xx_clv (lv2 := [(0, .ref b), (1, .ref z)]) rfl ?_
  refine xx_aload_n dX1_divideByCommon_0 rfl ?_
  refine xx_get xx_c1 dX1_divideByCommon_1 wf_X1_29 (j := 5) (by decide) hb0 rfl ?_
  refine xx_callV (N := mX0_isOne) (vs := []) (b := c) (rest := []) (d2 := 0) (c2 := 0) (s2 := 0) (c3 := 0) (s3 := 0) dX1_divideByCommon_4 wm_X1_50 wi_X0_isOne wv_X0_isOne (k := 0) rfl (by decide) hc0 nX0_isOne ⟨pX0_isOne, Nat.le_of_ble_eq_true rfl, by decide, Nat.le_of_ble_eq_true rfl, by decide, by decide⟩ (c_X0_isOne hc) (fun v9 B9 hC => ?_) (fun E9 B9 hC => absurd hC.1 (by simp))
  obtain ⟨hv9, e9⟩ := hC
  cases hv9
  refine xx_cst (st2 := [.int (if g = 1 then 1 else 0)]) rfl ?_
  rw [e9]
  refine xx_if_ne (tgt := 31) dX1_divideByCommon_7 (by decide) (fun j7 => ?_) (fun j7 => ?_)
  · have hg : g = 1 := by apply Classical.byContradiction; intro q; exact j7 (if_neg q)
    subst hg
    exact xx_vret dX1_divideByCommon_31 rfl ⟨rfl, rfl, hb, hc, by rw [yy_qt1]; exact hz, fun q _ _ _ => rfl⟩
  · refine xx_aload_n dX1_divideByCommon_10 rfl ?_
    refine xx_get xx_c1 dX1_divideByCommon_11 wf_X1_19 (j := 2) (by decide) hb0 rfl ?_
    refine xx_aload_n dX1_divideByCommon_14 rfl ?_
    refine xx_callV (N := mX0_copy) (vs := [.ref z]) (b := (b + 3)) (rest := []) (d2 := 1) (c2 := 0) (s2 := 0) (c3 := 0) (s3 := 0) dX1_divideByCommon_15 wm_X1_32 wi_X0_copy wv_X0_copy (k := 0) rfl (by decide) h30 nX0_copy ⟨pX0_copy, Nat.le_of_ble_eq_true rfl, by decide, Nat.le_of_ble_eq_true rfl, by decide, by decide⟩ (c_X0_copy h3 hz (by omega) (by omega) (by omega)) (fun v9 C hC => ?_) (fun E9 B9 hC => absurd hC.1 (by simp))
    obtain ⟨hv8, a1, a2, a3⟩ := hC
    cases hv8
    refine xx_cst (st2 := []) rfl ?_
    have hd2 := hd.to (a3 b (by omega) (by omega)) (a3 (b + 1) (by omega) (by omega)) (a3 (b + 2) (by omega) (by omega))
    have hb2 := (a3 b (by omega) (by omega)).trans hb0
    have hc2 := hc.to (a3 c (by omega) (by omega)) (a3 (c + 1) (by omega) (by omega))
    have hz2 := hz.to (a3 z (by omega) (by omega)) (a3 (z + 1) (by omega) (by omega))
    refine xx_aload_n dX1_divideByCommon_18 rfl ?_
    refine xx_aload_n dX1_divideByCommon_19 rfl ?_
    refine xx_get xx_c1 dX1_divideByCommon_20 wf_X1_19 (j := 2) (by decide) hb2 rfl ?_
    refine xx_aload_n dX1_divideByCommon_23 rfl ?_
    refine xx_get xx_c1 dX1_divideByCommon_24 wf_X1_29 (j := 5) (by decide) hb2 rfl ?_
    refine xx_aload_n dX1_divideByCommon_27 rfl ?_
    refine xx_callV (N := mX1_divide) (vs := [.ref (b + 3), .ref c, .ref z]) (b := b) (rest := []) (d2 := 3) (c2 := 0) (s2 := 0) (c3 := 0) (s3 := 0) dX1_divideByCommon_28 wm_X1_46 wi_X1_divide wv_X1_divide (k := 1) rfl (by decide) hb2 nX1_divide ⟨pX1_divide, Nat.le_of_ble_eq_true rfl, by decide, Nat.le_of_ble_eq_true rfl, by decide, by decide⟩ (c_X1_divide hd2 a2 hc2 hz2 (by omega) (by omega) (by omega) (by omega) (by omega) (by omega)) (fun v9 D hC => ?_) (fun E9 B9 hC => absurd hC.1 (by simp))
    obtain ⟨hv7, k1, k2, k3, k4, k5⟩ := hC
    cases hv7
    refine xx_cst (st2 := []) rfl ?_
    have f5 : ∀ q, b + 5 ≤ q → q < b + 9 → D.2 q = A.2 q := fun q h1 h2 => (k5 q (by omega) (by omega) (by omega) (by omega) (by omega) (by omega)).trans (a3 q (by omega) (by omega))
    exact xx_vret dX1_divideByCommon_31 rfl ⟨rfl, by omega, ⟨k2, ⟨_, k3⟩, ⟨s2, h5.to (f5 _ (by omega) (by omega)) (f5 _ (by omega) (by omega))⟩, ⟨s3, h7.to (f5 _ (by omega) (by omega)) (f5 _ (by omega) (by omega))⟩, hcc⟩, hc.to (f5 _ (by omega) (by omega)) (f5 _ (by omega) (by omega)), k4, fun q h1 h2 h3 => (k5 q (by omega) (by omega) (by omega) (by omega) (by omega) (by omega)).trans (a3 q (by omega) (by omega))⟩
/-- a Fraction at a with its two numbers -/
def xx_fq (B : xx_H) (a : Nat) (u w : Int) : Prop := B.2 a = xx_o 2 [.ref (a + 1), .ref (a + 3)] ∧ xx_bg B (a + 1) u ∧ xx_bg B (a + 3) w
theorem xx_fq.to {B C : xx_H} {a : Nat} {u w : Int} (h : xx_fq B a u w) (hq : ∀ q, a ≤ q → q < a + 5 → C.2 q = B.2 q) : xx_fq C a u w := ⟨(hq _ (by omega) (by omega)).trans h.1, h.2.1.to (hq _ (by omega) (by omega)) (hq _ (by omega) (by omega)), h.2.2.to (hq _ (by omega) (by omega)) (hq _ (by omega) (by omega))⟩
set_option maxRecDepth 100000 in
theorem c_X2_reduce {G : xx_G} {l : Launch} {A : xx_H} {a b c : Nat} {u w : Int} (ha : xx_fq A a u w) (hb : xx_dw A b c) (n1 : a + 5 ≤ b ∨ b + 9 ≤ a) (hw : 0 ≤ w) : xx_X G l mX2_reduce 5 0 0 0 (lv_args 0 [.ref a, .ref b]) [] A (fun q B => q = .inl none ∧ ∃ p, B.1 = A.1 ∧ xx_dw B b p ∧ xx_fq B a (yy_qt u ((Nat.gcd u.natAbs w.natAbs : Nat) : Int)) (yy_qt w ((Nat.gcd u.natAbs w.natAbs : Nat) : Int)) ∧ ∀ q, (q < b ∨ b + 9 ≤ q) → (q < a ∨ a + 5 ≤ q) → B.2 q = A.2 q) := by
  obtain ⟨a0, a1, a3⟩ := id ha
  obtain ⟨⟨f, gb, hb0, hr, hy⟩, _⟩ := id hb
  refine xx_clv (lv2 := [(0, .ref a), (1, .ref b)]) rfl ?_
  refine xx_aload_n dX2_reduce_0 rfl ?_
  refine xx_aload_n dX2_reduce_1 rfl ?_
  refine xx_get xx_c2 dX2_reduce_2 wf_X2_10 (j := 0) (by decide) a0 rfl ?_
  refine xx_aload_n dX2_reduce_5 rfl ?_
  refine xx_get xx_c2 dX2_reduce_6 wf_X2_16 (j := 1) (by decide) a0 rfl ?_
  refine xx_callV (N := mX1_findCommon) (vs := [.ref (a + 1), .ref (a + 3)]) (b := b) (rest := []) (d2 := 4) (c2 := 0) (s2 := 0) (c3 := 0) (s3 := 0) dX2_reduce_9 wm_X2_31 wi_X1_findCommon wv_X1_findCommon (k := 1) rfl (by decide) hb0 nX1_findCommon ⟨pX1_findCommon, Nat.le_of_ble_eq_true rfl, by decide, Nat.le_of_ble_eq_true rfl, by decide, by decide⟩ (c_X1_findCommon hb a1 a3 (by omega) (by omega) hw) (fun v9 B hC => ?_) (fun E9 B9 hC => absurd hC.1 (by simp))
  obtain ⟨hv9, p, c1, c2, c3, c4⟩ := hC
  cases hv9
  refine xx_cst (st2 := []) rfl ?_
  have a0b := (c4 a (by omega)).trans a0
  have a1b := a1.to (c4 (a + 1) (by omega)) (c4 (a + 1 + 1) (by omega))
  obtain ⟨⟨f2, gb2, hb2, _⟩, _⟩ := id c2
  refine xx_aload_n dX2_reduce_12 rfl ?_
  refine xx_aload_n dX2_reduce_13 rfl ?_
  refine xx_get xx_c2 dX2_reduce_14 wf_X2_10 (j := 0) (by decide) a0b rfl ?_
  refine xx_callV (N := mX1_divideByCommon) (vs := [.ref (a + 1)]) (b := b) (rest := []) (d2 := 4) (c2 := 0) (s2 := 0) (c3 := 0) (s3 := 0) dX2_reduce_17 wm_X2_36 wi_X1_divideByCommon wv_X1_divideByCommon (k := 1) rfl (by decide) hb2 nX1_divideByCommon ⟨pX1_divideByCommon, Nat.le_of_ble_eq_true rfl, by decide, Nat.le_of_ble_eq_true rfl, by decide, by decide⟩ (c_X1_divideByCommon c2 c3 a1b (by omega)) (fun v9 C hC => ?_) (fun E9 B9 hC => absurd hC.1 (by simp))
  obtain ⟨hv8, d1, d2, d3, d4, d5⟩ := hC
  cases hv8
  refine xx_cst (st2 := []) rfl ?_
  have a0c := (d5 a (by omega) (by omega) (by omega)).trans a0b
  have a3c := (a3.to (c4 (a + 3) (by omega)) (c4 (a + 3 + 1) (by omega))).to (d5 (a + 3) (by omega) (by omega) (by omega)) (d5 (a + 3 + 1) (by omega) (by omega) (by omega))
  obtain ⟨⟨f4, gb4, hb4, _⟩, _⟩ := id d2
  refine xx_aload_n dX2_reduce_20 rfl ?_
  refine xx_aload_n dX2_reduce_21 rfl ?_
  refine xx_get xx_c2 dX2_reduce_22 wf_X2_16 (j := 1) (by decide) a0c rfl ?_
  refine xx_callV (N := mX1_divideByCommon) (vs := [.ref (a + 3)]) (b := b) (rest := []) (d2 := 4) (c2 := 0) (s2 := 0) (c3 := 0) (s3 := 0) dX2_reduce_25 wm_X2_36 wi_X1_divideByCommon wv_X1_divideByCommon (k := 1) rfl (by decide) hb4 nX1_divideByCommon ⟨pX1_divideByCommon, Nat.le_of_ble_eq_true rfl, by decide, Nat.le_of_ble_eq_true rfl, by decide, by decide⟩ (c_X1_divideByCommon d2 d3 a3c (by omega)) (fun v9 D hC => ?_) (fun E9 B9 hC => absurd hC.1 (by simp))
  obtain ⟨hv7, e1, e2, e3, e4, e5⟩ := hC
  cases hv7
  refine xx_cst (st2 := []) rfl ?_
  exact xx_vret dX2_reduce_28 rfl ⟨rfl, p, by omega, e2, ⟨(e5 a (by omega) (by omega) (by omega)).trans a0c, d4.to (e5 _ (by omega) (by omega) (by omega)) (e5 _ (by omega) (by omega) (by omega)), e4⟩, fun q h1 h2 => (e5 q h1 (by omega) (by omega)).trans ((d5 q h1 (by omega) (by omega)).trans (c4 q h1))⟩
set_option maxRecDepth 100000 in
theorem c_X2_multiplyBelow {G : xx_G} {l : Launch} {A : xx_H} {a y z : Nat} {u w v t : Int} (ha : xx_fq A a u w) (hy : xx_bg A y v) (hz : xx_bg A z t) (n1 : a + 5 ≤ y ∨ y + 2 ≤ a) (n2 : a + 5 ≤ z ∨ z + 2 ≤ a) (n3 : y + 2 ≤ z ∨ z + 2 ≤ y) (hbd : w.natAbs * v.natAbs < yB ^ 14) : xx_X G l mX2_multiplyBelow 3 0 0 0 (lv_args 0 [.ref a, .ref y, .ref z]) [] A (fun q B => q = .inl none ∧ B.1 = A.1 ∧ xx_fq B a u (w * v) ∧ xx_bg B z (w * v) ∧ ∀ q, q ≠ a + 3 → q ≠ a + 4 → q ≠ z → q ≠ z + 1 → B.2 q = A.2 q) := by
  obtain ⟨a0, a1, a3⟩ := id ha
  obtain ⟨fz, lz0, hz0, _, _⟩ := id hz
  obtain ⟨f3, l3, h30, _, _⟩ := id a3
  refine xx_clv (lv2 := [(0, .ref a), (1, .ref y), (2, .ref z)]) rfl ?_
  refine xx_aload_n dX2_multiplyBelow_0 rfl ?_
  refine xx_aload_n dX2_multiplyBelow_1 rfl ?_
  refine xx_get xx_c2 dX2_multiplyBelow_2 wf_X2_16 (j := 1) (by decide) a0 rfl ?_
  refine xx_aload_n dX2_multiplyBelow_5 rfl ?_
  refine xx_callV (N := mX0_setProduct) (vs := [.ref (a + 3), .ref y]) (b := z) (rest := []) (d2 := 2) (c2 := 0) (s2 := 0) (c3 := 0) (s3 := 0) dX2_multiplyBelow_6 wm_X2_23 wi_X0_setProduct wv_X0_setProduct (k := 0) rfl (by decide) hz0 nX0_setProduct ⟨pX0_setProduct, Nat.le_of_ble_eq_true rfl, by decide, Nat.le_of_ble_eq_true rfl, by decide, by decide⟩ (c_X0_setProduct hz a3 hy (by omega) (by omega) (by omega) (by omega) (by omega) (by omega) hbd) (fun v9 B hC => ?_) (fun E9 B9 hC => absurd hC.1 (by simp))
  obtain ⟨hv9, c1, c2, c3⟩ := hC
  cases hv9
  refine xx_cst (st2 := []) rfl ?_
  have a0b := (c3 a (by omega) (by omega)).trans a0
  have a3b := a3.to (c3 (a + 3) (by omega) (by omega)) (c3 (a + 3 + 1) (by omega) (by omega))
  have h3b := (c3 (a + 3) (by omega) (by omega)).trans h30
  refine xx_aload_n dX2_multiplyBelow_9 rfl ?_
  refine xx_get xx_c2 dX2_multiplyBelow_10 wf_X2_16 (j := 1) (by decide) a0b rfl ?_
  refine xx_aload_n dX2_multiplyBelow_13 rfl ?_
  refine xx_callV (N := mX0_copy) (vs := [.ref z]) (b := (a + 3)) (rest := []) (d2 := 1) (c2 := 0) (s2 := 0) (c3 := 0) (s3 := 0) dX2_multiplyBelow_14 wm_X2_27 wi_X0_copy wv_X0_copy (k := 0) rfl (by decide) h3b nX0_copy ⟨pX0_copy, Nat.le_of_ble_eq_true rfl, by decide, Nat.le_of_ble_eq_true rfl, by decide, by decide⟩ (c_X0_copy a3b c2 (by omega) (by omega) (by omega)) (fun v9 C hC => ?_) (fun E9 B9 hC => absurd hC.1 (by simp))
  obtain ⟨hv8, d1, d2, d3⟩ := hC
  cases hv8
  refine xx_cst (st2 := []) rfl ?_
  exact xx_vret dX2_multiplyBelow_17 rfl ⟨rfl, by omega, ⟨(d3 a (by omega) (by omega)).trans a0b, (a1.to (c3 (a + 1) (by omega) (by omega)) (c3 (a + 1 + 1) (by omega) (by omega))).to (d3 _ (by omega) (by omega)) (d3 _ (by omega) (by omega)), d2⟩, c2.to (d3 _ (by omega) (by omega)) (d3 _ (by omega) (by omega)), fun q h1 h2 h3 h4 => (d3 q h1 h2).trans (c3 q h3 h4)⟩
