/-! ===== the order of ratios ===== -/
def yl_lt (n : Nat) (u v : Nat → Int) : Prop := ∃ i, i < n ∧ (∀ j, j < i → u j = v j) ∧ u i < v i
theorem yl_asym {n : Nat} {u v : Nat → Int} (h1 : yl_lt n u v) (h2 : yl_lt n v u) : False := by
  obtain ⟨i, _, a, b⟩ := h1
  obtain ⟨j, _, c, d⟩ := h2
  rcases Nat.lt_trichotomy i j with h | h | h
  · have := c i h; omega
  · subst h; omega
  · have := a j h; omega
theorem yl_tri (u v : Nat → Int) : ∀ n : Nat, yl_lt n u v ∨ (∀ i, i < n → u i = v i) ∨ yl_lt n v u
  | 0 => Or.inr (Or.inl (fun i h => absurd h (Nat.not_lt_zero i)))
  | n + 1 => by
    rcases yl_tri u v n with ⟨i, a, b⟩ | h | ⟨i, a, b⟩
    · exact Or.inl ⟨i, by omega, b⟩
    · rcases Int.lt_trichotomy (u n) (v n) with c | c | c
      · exact Or.inl ⟨n, by omega, h, c⟩
      · refine Or.inr (Or.inl (fun i hi => ?_))
        by_cases e : i = n
        · rw [e]; exact c
        · exact h i (by omega)
      · exact Or.inr (Or.inr ⟨n, by omega, fun j hj => (h j hj).symm, c⟩)
    · exact Or.inr (Or.inr ⟨i, by omega, b⟩)
/-- above 0 -/
def yl_p (n : Nat) (u : Nat → Int) : Prop := yl_lt n (fun _ => 0) u
theorem yl_sub {n : Nat} {u v : Nat → Int} : yl_lt n u v ↔ yl_p n (fun i => v i - u i) := by
  constructor
  · rintro ⟨i, a, b, c⟩
    exact ⟨i, a, fun j hj => by have := b j hj; show (0 : Int) = v j - u j; omega, by show (0 : Int) < v i - u i; omega⟩
  · rintro ⟨i, a, b, c⟩
    refine ⟨i, a, fun j hj => ?_, ?_⟩
    · have : (0 : Int) = v j - u j := b j hj
      omega
    · have : (0 : Int) < v i - u i := c
      omega
theorem yl_ext {n : Nat} {u v : Nat → Int} (h : yl_p n u) (he : ∀ i, i < n → u i = v i) : yl_p n v := by
  obtain ⟨i, a, b, c⟩ := h
  exact ⟨i, a, fun j hj => (b j hj).trans (he j (by omega)), by rw [← he i a]; exact c⟩
theorem yl_scale {n : Nat} {u : Nat → Int} {x : Int} (hx : 0 < x) : yl_p n (fun i => x * u i) ↔ yl_p n u := by
  constructor
  · rintro ⟨i, a, b, c⟩
    refine ⟨i, a, fun j hj => ?_, ?_⟩
    · have h : (0 : Int) = x * u j := b j hj
      rcases Int.mul_eq_zero.mp h.symm with q | q
      · omega
      · exact q.symm
    · have c : (0 : Int) < x * u i := c
      apply Int.lt_of_not_ge
      intro q
      have := Int.mul_nonpos_of_nonpos_of_nonneg q (Int.le_of_lt hx)
      rw [Int.mul_comm] at this
      omega
  · rintro ⟨i, a, b, c⟩
    refine ⟨i, a, fun j hj => ?_, Int.mul_pos hx c⟩
    have h : (0 : Int) = u j := b j hj
    show (0 : Int) = x * u j
    rw [← h, Int.mul_zero]
theorem yl_add {n : Nat} {u v : Nat → Int} (h1 : yl_p n u) (h2 : yl_p n v) : yl_p n (fun i => u i + v i) := by
  obtain ⟨i, a, b, c⟩ := h1
  obtain ⟨j, d, e, f⟩ := h2
  have b' : ∀ w, w < i → (0 : Int) = u w := b
  have e' : ∀ w, w < j → (0 : Int) = v w := e
  have c' : (0 : Int) < u i := c
  have f' : (0 : Int) < v j := f
  rcases Nat.lt_trichotomy i j with h | h | h
  · refine ⟨i, a, fun w hw => ?_, ?_⟩
    · have := b' w hw; have := e' w (by omega); show (0 : Int) = u w + v w; omega
    · have := e' i h; show (0 : Int) < u i + v i; omega
  · subst h
    refine ⟨i, a, fun w hw => ?_, ?_⟩
    · have := b' w hw; have := e' w hw; show (0 : Int) = u w + v w; omega
    · show (0 : Int) < u i + v i; omega
  · refine ⟨j, d, fun w hw => ?_, ?_⟩
    · have := b' w (by omega); have := e' w hw; show (0 : Int) = u w + v w; omega
    · have := b' j h; show (0 : Int) < u j + v j; omega
theorem yl_comb {n : Nat} {u v : Nat → Int} {x y : Int} (h1 : yl_p n u) (h2 : yl_p n v) (hx : 0 < x) (hy : 0 ≤ y) : yl_p n (fun i => x * u i + y * v i) := by
  have a := (yl_scale hx).mpr h1
  rcases Int.lt_trichotomy y 0 with h | h | h
  · omega
  · refine yl_ext a (fun i _ => ?_)
    rw [h, Int.zero_mul, Int.add_zero]
  · exact yl_add a ((yl_scale h).mpr h2)
theorem yl_neg {n : Nat} {u : Nat → Int} (h1 : yl_p n u) (h2 : yl_p n (fun i => - u i)) : False := by
  have h := yl_add h1 h2
  obtain ⟨i, _, _, c⟩ := h
  have c : (0 : Int) < u i + - u i := c
  omega
/-- the columns that the ratio test looks at -/
def yl_c (sd fl : Nat) : Nat → Nat
  | 0 => sd
  | i + 1 => fl + i
/-- p goes before q -/
def yl_r (T : Nat → Nat → Int) (e sd fl R p q : Nat) : Prop := yl_lt (R + 1) (fun i => T p (yl_c sd fl i) * T q e) (fun i => T q (yl_c sd fl i) * T p e)
theorem yo_o_z {T : Nat → Nat → Int} {p q e c : Nat} : yo_o T p q e c = 0 ↔ T p c * T q e = T q c * T p e := by
  unfold yo_o yy_cmz
  by_cases h : T p c * T q e < T q c * T p e
  · rw [if_pos h]; exact ⟨fun z => absurd z (by decide), fun z => by omega⟩
  · rw [if_neg h]
    by_cases h2 : T p c * T q e = T q c * T p e
    · rw [if_pos h2]; exact ⟨fun _ => h2, fun _ => rfl⟩
    · rw [if_neg h2]; exact ⟨fun z => absurd z (by decide), fun z => absurd z h2⟩
theorem yo_o_n {T : Nat → Nat → Int} {p q e c : Nat} : yo_o T p q e c < 0 ↔ T p c * T q e < T q c * T p e := by
  unfold yo_o yy_cmz
  by_cases h : T p c * T q e < T q c * T p e
  · rw [if_pos h]; exact ⟨fun _ => h, fun _ => by decide⟩
  · rw [if_neg h]
    refine ⟨fun z => absurd z ?_, fun z => absurd z h⟩
    split <;> decide
theorem yo_l_n {T : Nat → Nat → Int} {p q e fl : Nat} : ∀ n i : Nat, yo_l T p q e fl n i < 0 ↔ ∃ j, j < n ∧ (∀ w, w < j → yo_o T p q e (fl + (i + w)) = 0) ∧ yo_o T p q e (fl + (i + j)) < 0
  | 0, i => ⟨fun h => absurd h (show ¬ (0 : Int32) < 0 by decide), fun ⟨j, h, _⟩ => absurd h (Nat.not_lt_zero j)⟩
  | n + 1, i => by
    rw [yo_l]
    by_cases h : yo_o T p q e (fl + i) = 0
    · rw [if_pos h, yo_l_n n (i + 1)]
      constructor
      · rintro ⟨j, a, b, c⟩
        refine ⟨j + 1, by omega, fun w hw => ?_, by rw [show i + (j + 1) = i + 1 + j by omega]; exact c⟩
        cases w with
        | zero => exact h
        | succ w => rw [show i + (w + 1) = i + 1 + w by omega]; exact b w (by omega)
      · rintro ⟨j, a, b, c⟩
        cases j with
        | zero => rw [Nat.add_zero] at c; rw [h] at c; exact absurd c (by decide)
        | succ j =>
          refine ⟨j, by omega, fun w hw => ?_, by rw [show i + 1 + j = i + (j + 1) by omega]; exact c⟩
          rw [show i + 1 + w = i + (w + 1) by omega]; exact b (w + 1) (by omega)
    · rw [if_neg h]
      constructor
      · intro c; exact ⟨0, by omega, fun w hw => absurd hw (Nat.not_lt_zero w), c⟩
      · rintro ⟨j, a, b, c⟩
        cases j with
        | zero => exact c
        | succ j => exact absurd (b 0 (by omega)) h
theorem yo_c_n {T : Nat → Nat → Int} {p q e sd fl R : Nat} : yo_c T p q e sd fl R < 0 ↔ yl_r T e sd fl R p q := by
  unfold yo_c yl_r
  by_cases h : yo_o T p q e sd = 0
  · rw [if_pos h, yo_l_n]
    have h0 := yo_o_z.mp h
    constructor
    · rintro ⟨j, a, b, c⟩
      refine ⟨j + 1, by omega, fun w hw => ?_, ?_⟩
      · cases w with
        | zero => exact h0
        | succ w => have := b w (by omega); rw [Nat.zero_add] at this; exact yo_o_z.mp this
      · rw [Nat.zero_add] at c; exact yo_o_n.mp c
    · rintro ⟨j, a, b, c⟩
      cases j with
      | zero => have c : T p sd * T q e < T q sd * T p e := c; omega
      | succ j =>
        refine ⟨j, by omega, fun w hw => ?_, ?_⟩
        · rw [Nat.zero_add]; exact yo_o_z.mpr (b (w + 1) (by omega))
        · rw [Nat.zero_add]; exact yo_o_n.mpr c
  · rw [if_neg h]
    constructor
    · intro c; exact ⟨0, by omega, fun w hw => absurd hw (Nat.not_lt_zero w), yo_o_n.mp c⟩
    · rintro ⟨j, a, b, c⟩
      cases j with
      | zero => exact yo_o_n.mpr c
      | succ j => exact absurd (yo_o_z.mpr (b 0 (by omega))) h
theorem yl_r_tr {T : Nat → Nat → Int} {e sd fl R p q w : Nat} (hp : 0 < T p e) (hq : 0 < T q e) (hw : 0 < T w e) (h1 : yl_r T e sd fl R p q) (h2 : yl_r T e sd fl R q w) : yl_r T e sd fl R p w := by
  unfold yl_r at *
  have a1 := (yl_scale (n := R + 1) hw).mpr (yl_sub.mp h1)
  have a2 := (yl_scale (n := R + 1) hp).mpr (yl_sub.mp h2)
  have a3 := yl_add a1 a2
  rw [yl_sub]
  refine (yl_scale (x := T q e) hq).mp (yl_ext a3 (fun i _ => ?_))
  generalize T p (yl_c sd fl i) = x1
  generalize T q (yl_c sd fl i) = x2
  generalize T w (yl_c sd fl i) = x3
  generalize T p e = y1
  generalize T q e = y2
  generalize T w e = y3
  grind
/-- no row goes before the one that is chosen -/
theorem yo_r_min {T : Nat → Nat → Int} {e sd fl R : Nat} : ∀ {n r : Nat}, yo_r T e sd fl R n = some r → ∀ k, k < n → k ≠ r → 0 < T k e → ¬ yl_r T e sd fl R k r
  | 0, r, h => by cases h
  | n + 1, r, h => by
    intro k hk hkr hke
    rw [yo_r] at h
    by_cases c : 0 < T n e
    · rw [if_pos c] at h
      cases h2 : yo_r T e sd fl R n with
      | none =>
        rw [h2] at h; injection h with h; subst h
        exfalso
        obtain ⟨r9, h9⟩ := yo_r_some (T := T) (e := e) (sd := sd) (fl := fl) (R := R) (n := n) ⟨k, by omega, hke⟩
        rw [h9] at h2; cases h2
      | some r0 =>
        have r0p := (yo_r_lt h2).2
        rw [h2] at h
        have h : (if yo_c T n r0 e sd fl R < 0 then some n else some r0) = some r := h
        by_cases c2 : yo_c T n r0 e sd fl R < 0
        · rw [if_pos c2] at h; injection h with h; subst h
          have c3 := yo_c_n.mp c2
          by_cases e1 : k = r0
          · subst e1; exact fun z => yl_asym z c3
          · intro z
            exact yo_r_min h2 k (by omega) e1 hke (yl_r_tr hke c r0p z c3)
        · rw [if_neg c2] at h; injection h with h; subst h
          by_cases e1 : k = n
          · subst e1; exact fun z => c2 (yo_c_n.mpr z)
          · exact yo_r_min h2 k (by omega) hkr hke
    · rw [if_neg c] at h
      have e1 : k ≠ n := fun z => by subst z; exact c hke
      exact yo_r_min h k (by omega) hkr hke
/-- what stands in a table, by the columns that were basic at first -/
theorem yh_own {R fl : Nat} {a : Nat → Nat → Int} {bs : Nat → Nat} (ho : ∀ i, i < R → ∀ r, r < R → a (fl + i) r = yh_e i r) {k c : Nat} (hk : k < R) : yh_T R a bs k c = yd_s R (fun i => a c i * yh_T R a bs k (fl + i)) := by
  unfold yh_T
  rw [← yd_usum (F := yd_c R) (yd_c_lin R) hk (yh_c a bs) (fun i => a c i) (fun i => a (fl + i)) R]
  apply yd_ext
  intro r hr j hj
  by_cases e : j = k
  · rw [e, yd_u_s, yd_u_s]
    rw [yd_s_one (k := r) hr]
    · rw [ho r hr r hr]
      have : yh_e r r = 1 := if_pos rfl
      rw [this, Int.mul_one]
    · intro i hi hne
      rw [ho i hi r hr]
      have : yh_e i r = 0 := if_neg (by omega)
      rw [this, Int.mul_zero]
  · rw [yd_u_n e, yd_u_n e]
theorem yh_ind {R fl : Nat} {a : Nat → Nat → Int} {bs : Nat → Nat} (ho : ∀ i, i < R → ∀ r, r < R → a (fl + i) r = yh_e i r) (hd : yh_d R a bs ≠ 0) {p q : Nat} (hp : p < R) (hq : q < R) (hpq : p ≠ q) {x y : Int} (hx : x ≠ 0) (h : ∀ i, i < R → x * yh_T R a bs p (fl + i) = y * yh_T R a bs q (fl + i)) : False := by
  have h1 := yh_own ho (bs := bs) (c := bs p) hp
  have h2 := yh_own ho (bs := bs) (c := bs p) hq
  rw [yh_Ts] at h1
  rw [yh_To hq hp (by omega)] at h2
  have h3 : x * yd_s R (fun i => a (bs p) i * yh_T R a bs p (fl + i)) = y * yd_s R (fun i => a (bs p) i * yh_T R a bs q (fl + i)) := by
    rw [← yd_s_mul, ← yd_s_mul]
    apply yd_s_ext
    intro i hi
    have := h i hi
    generalize a (bs p) i = z
    have e1 : x * (z * yh_T R a bs p (fl + i)) = z * (x * yh_T R a bs p (fl + i)) := by grind
    have e2 : y * (z * yh_T R a bs q (fl + i)) = z * (y * yh_T R a bs q (fl + i)) := by grind
    rw [e1, e2, this]
  rw [← h1, ← h2, Int.mul_zero] at h3
  rcases Int.mul_eq_zero.mp h3 with z | z
  · exact hx z
  · exact hd z
/-- a basis whose point is above 0 -/
def yh_lf (R sd fl : Nat) (a : Nat → Nat → Int) (bs : Nat → Nat) : Prop := 0 < yh_d R a bs ∧ ∀ k, k < R → yl_p (R + 1) (fun i => yh_T R a bs k (yl_c sd fl i))
/-- the chosen row goes before all others -/
theorem yh_min {R sd fl : Nat} {a : Nat → Nat → Int} {bs : Nat → Nat} (ho : ∀ i, i < R → ∀ r, r < R → a (fl + i) r = yh_e i r) (hd : yh_d R a bs ≠ 0) {e r k : Nat} (hr : yo_r (yh_T R a bs) e sd fl R R = some r) (hk : k < R) (hkr : k ≠ r) (hke : 0 < yh_T R a bs k e) : yl_r (yh_T R a bs) e sd fl R r k := by
  obtain ⟨hr1, hr2⟩ := yo_r_lt hr
  rcases yl_tri (fun i => yh_T R a bs r (yl_c sd fl i) * yh_T R a bs k e) (fun i => yh_T R a bs k (yl_c sd fl i) * yh_T R a bs r e) (R + 1) with h | h | h
  · exact h
  · exfalso
    refine yh_ind ho hd (p := r) (q := k) hr1 hk (by omega) (x := yh_T R a bs k e) (y := yh_T R a bs r e) (by omega) (fun i hi => ?_)
    have := h (i + 1) (by omega)
    have : yh_T R a bs r (fl + i) * yh_T R a bs k e = yh_T R a bs k (fl + i) * yh_T R a bs r e := this
    rw [Int.mul_comm, this, Int.mul_comm]
  · exact absurd h (yo_r_min hr k hk hkr hke)
/-- the step keeps the point above 0 -/
theorem yh_lf_step {R sd fl : Nat} {a : Nat → Nat → Int} {bs : Nat → Nat} (ho : ∀ i, i < R → ∀ r, r < R → a (fl + i) r = yh_e i r) (h : yh_lf R sd fl a bs) {e r : Nat} (hr : yo_r (yh_T R a bs) e sd fl R R = some r) : yh_lf R sd fl a (yy_ud bs r e) := by
  obtain ⟨hd, hp⟩ := h
  obtain ⟨hr1, hr2⟩ := yo_r_lt hr
  refine ⟨by rw [yh_dn]; exact hr2, fun k hk => ?_⟩
  by_cases e1 : k = r
  · subst e1
    refine yl_ext (hp k hk) (fun i _ => ?_)
    show _ = yd_c R (yd_u (yh_c a (yy_ud bs k e)) k (a (yl_c sd fl i)))
    rw [yh_cu, yd_u_u]
    rfl
  · have key : ∀ c, yh_d R a bs * yh_T R a (yy_ud bs r e) k c = yh_T R a bs k c * yh_T R a bs r e - yh_T R a bs k e * yh_T R a bs r c := by
      intro c
      have p := yd_pluck hk hr1 e1 (yh_c a bs) (a c) (a e)
      unfold yh_T yh_d
      rw [yh_cu]
      exact p
    refine (yl_scale hd).mp ?_
    by_cases c : 0 < yh_T R a bs k e
    · have m := yl_sub.mp (yh_min ho (by omega) hr hk e1 c)
      refine yl_ext m (fun i _ => ?_)
      show _ = yh_d R a bs * yh_T R a (yy_ud bs r e) k (yl_c sd fl i)
      rw [key]
      grind
    · have m := yl_comb (hp k hk) (hp r hr1) (x := yh_T R a bs r e) (y := - yh_T R a bs k e) hr2 (by omega)
      refine yl_ext m (fun i _ => ?_)
      show _ = yh_d R a bs * yh_T R a (yy_ud bs r e) k (yl_c sd fl i)
      rw [key]
      grind
