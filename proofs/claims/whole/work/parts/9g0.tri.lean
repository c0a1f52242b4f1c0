/-! ===== the reference's triangle: what stands where ===== -/
/-- columns by their labels: from 8 on the unit columns -/
def yj_a (M : Nat → Nat → Int) (c : Nat) : Nat → Int := if c < 8 then M c else yh_e (c - 8)
theorem yj_a_b {M : Nat → Nat → Int} (hM : ∀ c r, (M c r).natAbs ≤ 554344561) (c r : Nat) : (yj_a M c r).natAbs ≤ 554344561 := by
  unfold yj_a
  split
  · exact hM c r
  · unfold yh_e
    split <;> decide
theorem yj_fac : ∀ R, R ≤ 7 → yd_f R * 554344561 ^ R < 2 ^ 216 := by decide +kernel
theorem yj_bd {M : Nat → Nat → Int} (hM : ∀ c r, (M c r).natAbs ≤ 554344561) {R : Nat} (hR : R ≤ 7) (bs : Nat → Nat) (k c : Nat) : (yh_T R (yj_a M) bs k c).natAbs < 2 ^ 216 ∧ (yh_d R (yj_a M) bs).natAbs < 2 ^ 216 := by
  refine ⟨Nat.lt_of_le_of_lt (yd_c_bd (K := 554344561) (fun i _ r _ => ?_)) (yj_fac R hR), Nat.lt_of_le_of_lt (yd_c_bd (K := 554344561) (fun i _ r _ => yj_a_b hM _ _)) (yj_fac R hR)⟩
  unfold yd_u
  split
  · exact yj_a_b hM _ _
  · exact yj_a_b hM _ _
def yj_D (R : Nat) (M : Nat → Nat → Int) : Int := yd_c R M
/-- a row that is done -/
def yj_r (R C : Nat) (M : Nat → Nat → Int) (r : Nat) (N : Nat → Int) : Prop := ∃ (bs : Nat → Nat) (s : Int), (s = 1 ∨ s = -1) ∧ (∀ i, i < r → bs i = i) ∧ (∀ c, r ≤ c → c < C → N (240 + 8 * r + c) = s * yh_T R (yj_a M) bs r c) ∧ yh_T R (yj_a M) bs r r ≠ 0
def yj_I (R C : Nat) (M : Nat → Nat → Int) (k : Nat) (bs : Nat → Nat) (s : Int) (N : Nat → Int) : Prop := (s = 1 ∨ s = -1) ∧ (∀ i, i < k → bs i = i) ∧ yh_d R (yj_a M) bs ≠ 0 ∧ N 28 = s * yh_d R (yj_a M) bs ∧ (∀ r, k ≤ r → r < R → ∀ c, k ≤ c → c < C → N (240 + 8 * r + c) = s * yh_T R (yj_a M) bs r c) ∧ ∀ r, r < k → yj_r R C M r N
theorem yj_0 {R C : Nat} {M : Nat → Nat → Int} {N : Nat → Int} (hC : C ≤ 8) (h : ∀ r, r < R → ∀ c, c < C → N (240 + 8 * r + c) = M c r) (h28 : N 28 = 1) : yj_I R C M 0 (fun i => 8 + i) 1 N := by
  have q := yh_init (R := R) (fl := 8) (a := yj_a M) (fun i _ r _ => by unfold yj_a; rw [if_neg (by omega), show 8 + i - 8 = i by omega])
  refine ⟨Or.inl rfl, fun i hi => absurd hi (Nat.not_lt_zero i), ?_, ?_, ?_, fun r hr => absurd hr (Nat.not_lt_zero r)⟩
  · rw [q.2]; decide
  · rw [q.2, h28]; decide
  · intro r _ hr c _ hc
    rw [q.1 r hr c, h r hr c hc, Int.one_mul]
    unfold yj_a
    rw [if_pos (by omega)]
theorem yj_s2 {s : Int} (h : s = 1 ∨ s = -1) : s * s = 1 := by rcases h with h | h <;> subst h <;> decide
theorem yj_sn {s : Int} (h : s = 1 ∨ s = -1) : -s = 1 ∨ -s = -1 := by rcases h with h | h <;> subst h <;> decide
theorem yj_s0 {s x : Int} (h : s = 1 ∨ s = -1) : s * x ≠ 0 ↔ x ≠ 0 := by rcases h with h | h <;> subst h <;> omega
theorem yj_sa {s x : Int} (h : s = 1 ∨ s = -1) : (s * x).natAbs = x.natAbs := by rcases h with h | h <;> subst h <;> omega
/-- two positions change places -/
def yj_x (bs : Nat → Nat) (k p : Nat) : Nat → Nat := yy_ud (yy_ud bs k (bs p)) p (bs k)
theorem yj_xd {R : Nat} {a : Nat → Nat → Int} {bs : Nat → Nat} {k p : Nat} (hk : k < R) (hp : p < R) (hkp : k ≠ p) : yh_d R a (yj_x bs k p) = - yh_d R a bs := by
  unfold yh_d yj_x
  rw [yh_cu, yh_cu, yd_c_sw hk hp hkp]
  have e : yd_u (yd_u (yh_c a bs) k (a (bs k))) p (a (bs p)) = yh_c a bs := by
    rw [show a (bs k) = yh_c a bs k from rfl, yd_u_id, show a (bs p) = yh_c a bs p from rfl, yd_u_id]
  rw [e]
theorem yj_xk {R : Nat} {a : Nat → Nat → Int} {bs : Nat → Nat} {k p c : Nat} (hk : k < R) (hp : p < R) (hkp : k ≠ p) : yh_T R a (yj_x bs k p) k c = - yh_T R a bs p c := by
  unfold yh_T yj_x
  rw [yh_cu, yh_cu, yd_u_c (Ne.symm hkp), yd_u_u, yd_c_sw hk hp hkp]
  have e : yd_u (yd_u (yh_c a bs) k (a (bs k))) p (a c) = yd_u (yh_c a bs) p (a c) := by
    rw [show a (bs k) = yh_c a bs k from rfl, yd_u_id]
  rw [e]
theorem yj_xp {R : Nat} {a : Nat → Nat → Int} {bs : Nat → Nat} {k p c : Nat} (hk : k < R) (hp : p < R) (hkp : k ≠ p) : yh_T R a (yj_x bs k p) p c = - yh_T R a bs k c := by
  unfold yh_T yj_x
  rw [yh_cu, yh_cu, yd_u_u, yd_c_sw hk hp hkp]
  have e : yd_u (yd_u (yh_c a bs) k (a c)) p (a (bs p)) = yd_u (yh_c a bs) k (a c) := by
    rw [yd_u_c hkp, show a (bs p) = yh_c a bs p from rfl, yd_u_id]
  rw [e]
theorem yj_xo {R : Nat} {a : Nat → Nat → Int} {bs : Nat → Nat} {k p r c : Nat} (hk : k < R) (hp : p < R) (hkp : k ≠ p) (h1 : r ≠ k) (h2 : r ≠ p) : yh_T R a (yj_x bs k p) r c = - yh_T R a bs r c := by
  unfold yh_T yj_x
  rw [yh_cu, yh_cu, yd_u_c (Ne.symm h2), yd_u_c (Ne.symm h1), yd_c_sw hk hp hkp]
  have e : yd_u (yd_u (yd_u (yh_c a bs) r (a c)) k (a (bs k))) p (a (bs p)) = yd_u (yh_c a bs) r (a c) := by
    rw [yd_u_c h1, yd_u_c h2, show a (bs k) = yh_c a bs k from rfl, yd_u_id, show a (bs p) = yh_c a bs p from rfl, yd_u_id]
  rw [e]
theorem yj_sw {R C : Nat} {M : Nat → Nat → Int} {k p : Nat} {bs : Nat → Nat} {s : Int} {N N2 : Nat → Int} (h : yj_I R C M k bs s N) (hkp : k < p) (hp : p < R) (hC : C ≤ 8) (h28 : N2 28 = N 28) (h1 : ∀ c, c < C → N2 (240 + 8 * k + c) = N (240 + 8 * p + c)) (h2 : ∀ c, c < C → N2 (240 + 8 * p + c) = N (240 + 8 * k + c)) (h3 : ∀ r, r < R → r ≠ k → r ≠ p → ∀ c, c < C → N2 (240 + 8 * r + c) = N (240 + 8 * r + c)) : yj_I R C M k (yj_x bs k p) (-s) N2 := by
  obtain ⟨i1, i2, i3, i4, i5, i6⟩ := h
  have nn : ∀ x : Int, (-s) * (-x) = s * x := fun x => by rw [Int.neg_mul_neg]
  refine ⟨yj_sn i1, fun i hi => ?_, ?_, ?_, fun r hr hr2 c hc hc2 => ?_, fun r hr => ?_⟩
  · unfold yj_x yy_ud
    rw [if_neg (by omega), if_neg (by omega)]
    exact i2 i hi
  · rw [yj_xd (by omega) hp (by omega)]; omega
  · rw [yj_xd (by omega) hp (by omega), nn, h28]; exact i4
  · by_cases e1 : r = k
    · rw [e1, yj_xk (by omega) hp (by omega), nn, h1 c hc2]; exact i5 p (by omega) hp c hc hc2
    · by_cases e2 : r = p
      · rw [e2, yj_xp (by omega) hp (by omega), nn, h2 c hc2]; exact i5 k (by omega) (by omega) c hc hc2
      · rw [yj_xo (by omega) hp (by omega) e1 e2, nn, h3 r hr2 e1 e2 c hc2]; exact i5 r hr hr2 c hc hc2
  · obtain ⟨b2, s2, q1, q2, q3, q4⟩ := i6 r hr
    exact ⟨b2, s2, q1, q2, fun c hc hc2 => by rw [h3 r (by omega) (by omega) (by omega) c hc2]; exact q3 c hc hc2, q4⟩
theorem yj_ss {s x y : Int} (h : s = 1 ∨ s = -1) : s * x * (s * y) = x * y := by
  rcases h with h | h
  · rw [h, Int.one_mul, Int.one_mul]
  · have e : ∀ z : Int, -1 * z = -z := fun z => by omega
    rw [h, e, e, Int.neg_mul_neg]
theorem yj_qt {s a d : Int} (h : s = 1 ∨ s = -1) (hd : d ≠ 0) : yy_qt (a * d) (s * d) = s * a := by
  have e : a * d = (s * a) * (s * d) := (yj_ss h).symm
  rw [e, yy_qt_mul ((yj_s0 h).mpr hd)]
theorem yj_piv {R C : Nat} {M : Nat → Nat → Int} {k : Nat} {bs : Nat → Nat} {s : Int} {N N2 : Nat → Int} (h : yj_I R C M k bs s N) (hk : k < R) (hR : R ≤ C) (h0 : N (240 + 8 * k + k) ≠ 0) (h28 : N2 28 = N (240 + 8 * k + k)) (h1 : ∀ r, k < r → r < R → ∀ c, k < c → c < C → N2 (240 + 8 * r + c) = yy_qt (N (240 + 8 * r + c) * N (240 + 8 * k + k) - N (240 + 8 * r + k) * N (240 + 8 * k + c)) (N 28)) (h3 : ∀ r, r ≤ k → ∀ c, c < C → N2 (240 + 8 * r + c) = N (240 + 8 * r + c)) : yj_I R C M (k + 1) (yy_ud bs k k) s N2 := by
  obtain ⟨i1, i2, i3, i4, i5, i6⟩ := h
  have ek := i5 k (by omega) hk k (by omega) (by omega)
  refine ⟨i1, fun i hi => ?_, ?_, ?_, fun r hr hr2 c hc hc2 => ?_, fun r hr => ?_⟩
  · by_cases e : i = k
    · rw [e, yy_ud_s]
    · rw [yy_ud_n e]; exact i2 i (by omega)
  · rw [yh_dn]; rw [ek] at h0; exact (yj_s0 i1).mp h0
  · rw [yh_dn, h28]; exact ek
  · rw [h1 r (by omega) hr2 c (by omega) hc2, i5 r (by omega) hr2 c (by omega) hc2, ek, i5 r (by omega) hr2 k (by omega) (by omega), i5 k (by omega) hk c (by omega) hc2, i4]
    have st := yh_step (a := yj_a M) (bs := bs) (r := k) (e := k) (k := r) (c := c) i3 hk hr2
    unfold yt_n at st
    rw [if_neg (show ¬ r = k by omega)] at st
    have pl := yd_pluck (show r < R from hr2) hk (show r ≠ k by omega) (yh_c (yj_a M) bs) (yj_a M c) (yj_a M k)
    have e1 : yh_T R (yj_a M) bs r c * yh_T R (yj_a M) bs k k - yh_T R (yj_a M) bs r k * yh_T R (yj_a M) bs k c = yh_T R (yj_a M) (yy_ud bs k k) r c * yh_d R (yj_a M) bs := by
      unfold yh_T yh_d
      rw [yh_cu, Int.mul_comm _ (yd_c R (yh_c (yj_a M) bs))]
      exact pl.symm
    rw [yj_ss i1, yj_ss i1, e1]
    exact yj_qt i1 i3
  · by_cases e : r = k
    · subst e
      exact ⟨bs, s, i1, i2, fun c hc hc2 => by rw [h3 r (by omega) c hc2]; exact i5 r (by omega) hk c hc hc2, by rw [ek] at h0; exact (yj_s0 i1).mp h0⟩
    · obtain ⟨b2, s2, q1, q2, q3, q4⟩ := i6 r (by omega)
      exact ⟨b2, s2, q1, q2, fun c hc hc2 => by rw [h3 r (by omega) c hc2]; exact q3 c hc hc2, q4⟩
theorem yj_id {R : Nat} {M : Nat → Nat → Int} {bs : Nat → Nat} (hR : R ≤ 8) (h : ∀ i, i < R → bs i = i) : yh_d R (yj_a M) bs = yj_D R M := by
  unfold yh_d yj_D
  refine yd_ext_c (fun c hc r _ => ?_)
  unfold yh_c yj_a
  rw [h c hc, if_pos (by omega)]
/-- no pivot: the determinant is 0 -/
theorem yj_no {R C : Nat} {M : Nat → Nat → Int} {k : Nat} {bs : Nat → Nat} {s : Int} {N : Nat → Int} (h : yj_I R C M k bs s N) (hk : k < R) (hR : R ≤ C) (hC : C ≤ 8) (h0 : ∀ p, k ≤ p → p < R → N (240 + 8 * p + k) = 0) : yj_D R M = 0 := by
  obtain ⟨i1, i2, i3, i4, i5, i6⟩ := h
  have f := yh_F (R := R) (a := yj_a M) (bs := fun i => i) (bt := bs) (k := k) (c := k) hk
  have e1 : yh_T R (yj_a M) (fun i => i) k k = yh_d R (yj_a M) (fun i => i) := yh_Ts (bs := fun i => i)
  rw [e1, yj_id (by omega) (fun _ _ => rfl)] at f
  rw [yd_s_zero] at f
  · exact (Int.mul_eq_zero.mp f).resolve_left i3
  · intro j hj
    by_cases z : j < k
    · have : yh_T R (yj_a M) (fun i => i) k (bs j) = 0 := by rw [i2 j z]; exact yh_To (bs := fun i => i) hk hj (by omega)
      rw [this, Int.mul_zero]
    · have e := i5 j (by omega) hj k (by omega) (by omega)
      rw [h0 j (by omega) hj] at e
      have : yh_T R (yj_a M) bs j k = 0 := Classical.byContradiction (fun q => (yj_s0 i1).mpr q e.symm)
      rw [this, Int.zero_mul]
/-- the end -/
theorem yj_end {R C : Nat} {M : Nat → Nat → Int} {bs : Nat → Nat} {s : Int} {N : Nat → Int} (h : yj_I R C M R bs s N) (hR : R ≤ C) (hC : C ≤ 8) : N 28 = s * yj_D R M ∧ yj_D R M ≠ 0 ∧ ∀ r, r < R → yj_r R C M r N := by
  obtain ⟨i1, i2, i3, i4, i5, i6⟩ := h
  rw [yj_id (by omega) i2] at i3 i4
  exact ⟨i4, i3, i6⟩
