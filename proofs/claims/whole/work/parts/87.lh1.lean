/-! ===== tables as determinants ===== -/
def yh_c (a : Nat → Nat → Int) (bs : Nat → Nat) : Nat → Nat → Int := fun i => a (bs i)
def yh_T (R : Nat) (a : Nat → Nat → Int) (bs : Nat → Nat) (k c : Nat) : Int := yd_c R (yd_u (yh_c a bs) k (a c))
def yh_d (R : Nat) (a : Nat → Nat → Int) (bs : Nat → Nat) : Int := yd_c R (yh_c a bs)
theorem yh_Ts {R : Nat} {a : Nat → Nat → Int} {bs : Nat → Nat} {k : Nat} : yh_T R a bs k (bs k) = yh_d R a bs := by
  unfold yh_T yh_d
  have := yd_u_id (v := yh_c a bs) (k := k)
  have e : a (bs k) = yh_c a bs k := rfl
  rw [e, this]
theorem yh_To {R : Nat} {a : Nat → Nat → Int} {bs : Nat → Nat} {k j : Nat} (hk : k < R) (hj : j < R) (h : k ≠ j) : yh_T R a bs k (bs j) = 0 := by
  unfold yh_T
  apply yd_c_rep hk hj h
  rw [yd_u_s, yd_u_n (by omega)]
  rfl
theorem yh_k {R : Nat} {a : Nat → Nat → Int} {bs : Nat → Nat} : yt_k R bs (yh_T R a bs) (yh_d R a bs) := ⟨fun _ _ => yh_Ts, fun _ _ hk hj h => yh_To hk hj h⟩
/-- one basis told by another -/
theorem yh_F {R : Nat} {a : Nat → Nat → Int} {bs bt : Nat → Nat} {k c : Nat} (hk : k < R) : yh_d R a bt * yh_T R a bs k c = yd_s R (fun j => yh_T R a bt j c * yh_T R a bs k (bt j)) := by
  have h1 : yd_c R (yd_u (yh_c a bs) k (fun ρ => yh_d R a bt * a c ρ + 0)) = yh_d R a bt * yh_T R a bs k c := by
    rw [yd_c_lin R _ k hk (yh_d R a bt) (a c) (fun _ => 0), yd_u0 (F := yd_c R) (yd_c_lin R) hk]
    unfold yh_T
    omega
  have h2 : yd_c R (yd_u (yh_c a bs) k (fun ρ => yh_d R a bt * a c ρ + 0)) = yd_c R (yd_u (yh_c a bs) k (fun ρ => yd_s R (fun i => yd_c R (yd_u (yh_c a bt) i (a c)) * yh_c a bt i ρ))) := by
    apply yd_ext
    intro ρ hρ j hj
    by_cases e : j = k
    · subst e
      have := yd_cramer hρ (yh_c a bt) (a c)
      rw [yd_u_s, yd_u_s, ← this]
      unfold yh_d
      omega
    · rw [yd_u_n e, yd_u_n e]
  rw [← h1, h2, yd_usum (F := yd_c R) (yd_c_lin R) hk]
  rfl
theorem yh_cu {a : Nat → Nat → Int} {bs : Nat → Nat} {r e : Nat} : yh_c a (yy_ud bs r e) = yd_u (yh_c a bs) r (a e) := by
  funext i
  unfold yh_c yd_u yy_ud
  by_cases h : i = r
  · rw [if_pos h, if_pos h]
  · rw [if_neg h, if_neg h]
theorem yh_dn {R : Nat} {a : Nat → Nat → Int} {bs : Nat → Nat} {r e : Nat} : yh_d R a (yy_ud bs r e) = yh_T R a bs r e := by
  unfold yh_d yh_T
  rw [yh_cu]
/-- a pivot keeps a table of determinants -/
theorem yh_step {R : Nat} {a : Nat → Nat → Int} {bs : Nat → Nat} {r e k c : Nat} (hd : yh_d R a bs ≠ 0) (hr : r < R) (hk : k < R) : yt_n (yh_T R a bs) (yh_d R a bs) r e k c = yh_T R a (yy_ud bs r e) k c := by
  unfold yt_n
  by_cases h : k = r
  · subst h
    rw [if_pos rfl]
    unfold yh_T
    rw [yh_cu, yd_u_u]
  · rw [if_neg h]
    have p := yd_pluck hk hr h (yh_c a bs) (a c) (a e)
    have e1 : yh_T R a bs k c * yh_T R a bs r e - yh_T R a bs k e * yh_T R a bs r c = yh_T R a (yy_ud bs r e) k c * yh_d R a bs := by
      unfold yh_T yh_d
      rw [yh_cu, Int.mul_comm _ (yd_c R (yh_c a bs))]
      exact p.symm
    rw [e1]
    exact yy_qt_mul hd
theorem yh_fac : ∀ R, R ≤ 6 → yd_f R * 554344561 ^ R < 2 ^ 200 := by decide +kernel
theorem yh_bd {R mn : Nat} {a : Nat → Nat → Int} {bs : Nat → Nat} (hR : R ≤ 6) (ha : ∀ c, c ≤ mn → ∀ r, r < R → (a c r).natAbs ≤ 554344561) (hb : ∀ i, i < R → bs i ≤ mn) {k c : Nat} (hc : c ≤ mn) : (yh_T R a bs k c).natAbs < 2 ^ 200 ∧ (yh_d R a bs).natAbs < 2 ^ 200 := by
  have h6 := yh_fac R hR
  constructor
  · refine Nat.lt_of_le_of_lt (yd_c_bd (K := 554344561) (fun i hi r hr => ?_)) h6
    by_cases e : i = k
    · rw [e, yd_u_s]; exact ha c hc r hr
    · rw [yd_u_n e]; exact ha _ (hb i hi) r hr
  · exact Nat.lt_of_le_of_lt (yd_c_bd (K := 554344561) (fun i hi r hr => ha _ (hb i hi) r hr)) h6
def yh_e (i : Nat) : Nat → Int := fun r => if r = i then 1 else 0
theorem yh_id : ∀ n : Nat, yd_c n yh_e = 1
  | 0 => rfl
  | n + 1 => by
    rw [yd_c_s, yd_s_one (k := 0) (by omega)]
    · have e : yd_t 0 yh_e = yh_e := by
        funext c r
        unfold yd_t yh_e
        have : yd_k 0 c = c + 1 := if_neg (by omega)
        rw [this]
        by_cases h : r = c
        · rw [if_pos h, if_pos (by omega)]
        · rw [if_neg h, if_neg (by omega)]
      rw [e, yh_id n]
      rfl
    · intro i hi h
      have : yh_e i 0 = 0 := if_neg (by omega)
      rw [this]; simp
theorem yh_idu {n k : Nat} (hk : k < n) (x : Nat → Int) : yd_c n (yd_u yh_e k x) = x k := by
  have h := yd_cramer hk yh_e x
  rw [yh_id, Int.one_mul, yd_s_one (k := k) hk] at h
  · have e : yh_e k k = 1 := if_pos rfl
    rw [e, Int.mul_one] at h
    exact h.symm
  · intro i hi hne
    have e : yh_e i k = 0 := if_neg (by omega)
    rw [e, Int.mul_zero]
/-- the first table -/
theorem yh_init {R fl : Nat} {a : Nat → Nat → Int} (ho : ∀ i, i < R → ∀ r, r < R → a (fl + i) r = yh_e i r) : (∀ k, k < R → ∀ c, yh_T R a (fun i => fl + i) k c = a c k) ∧ yh_d R a (fun i => fl + i) = 1 := by
  constructor
  · intro k hk c
    rw [← yh_idu hk (a c)]
    apply yd_ext
    intro r hr j hj
    show yd_u (yh_c a fun i => fl + i) k (a c) j r = yd_u yh_e k (a c) j r
    by_cases e : j = k
    · rw [e, yd_u_s, yd_u_s]
    · rw [yd_u_n e, yd_u_n e]; exact ho j hj r hr
  · rw [← yh_id R]
    apply yd_ext
    intro r hr j hj
    exact ho j hj r hr
theorem yd_s_nonpos {f : Nat → Int} : ∀ {n : Nat}, (∀ i, i < n → f i ≤ 0) → yd_s n f ≤ 0
  | 0, _ => Int.le_refl 0
  | n + 1, h => by
    have h1 := yd_s_nonpos (n := n) (fun i hi => h i (by omega))
    have h2 := h n (by omega)
    show yd_s n f + f n ≤ 0
    omega
/-- what enters finds a row -/
theorem yh_pos {R mn : Nat} {a : Nat → Nat → Int} {bs : Nat → Nat} {e ρ : Nat} (ha : ∀ c, c ≤ mn → ∀ r, r < R → 0 ≤ a c r) (hb : ∀ i, i < R → bs i ≤ mn) (hd : 0 < yh_d R a bs) (hρ : ρ < R) (he : 0 < a e ρ) : ∃ k, k < R ∧ 0 < yh_T R a bs k e := by
  apply Classical.byContradiction
  intro h
  have hc := yd_cramer hρ (yh_c a bs) (a e)
  have h1 : yd_s R (fun i => yd_c R (yd_u (yh_c a bs) i (a e)) * yh_c a bs i ρ) ≤ 0 := by
    apply yd_s_nonpos
    intro i hi
    have t : yh_T R a bs i e ≤ 0 := by
      apply Int.not_lt.mp
      intro q
      exact h ⟨i, hi, q⟩
    have p : 0 ≤ yh_c a bs i ρ := ha _ (hb i hi) ρ hρ
    exact Int.mul_nonpos_of_nonpos_of_nonneg t p
  have h2 : 0 < yh_d R a bs * a e ρ := Int.mul_pos hd he
  unfold yh_d at h2
  omega
theorem yo_r_some {T : Nat → Nat → Int} {e sd fl R : Nat} : ∀ {n : Nat}, (∃ k, k < n ∧ 0 < T k e) → ∃ r, yo_r T e sd fl R n = some r
  | 0, ⟨k, h, _⟩ => absurd h (Nat.not_lt_zero k)
  | n + 1, ⟨k, h1, h2⟩ => by
    rw [yo_r]
    by_cases c : 0 < T n e
    · rw [if_pos c]
      cases yo_r T e sd fl R n with
      | none => exact ⟨n, rfl⟩
      | some r =>
        by_cases d : yo_c T n r e sd fl R < 0
        · exact ⟨n, if_pos d⟩
        · exact ⟨r, if_neg d⟩
    · rw [if_neg c]
      apply yo_r_some
      refine ⟨k, ?_, h2⟩
      apply Nat.lt_of_le_of_ne (by omega)
      intro q
      subst q
      exact c h2
