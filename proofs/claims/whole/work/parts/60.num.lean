/-! ===== numbers by digits ===== -/
def yy_val (β : Nat) (D : Nat → Nat) : Nat → Nat
  | 0 => 0
  | n + 1 => yy_val β D n + D n * β ^ n
theorem yy_val_lt {β : Nat} {D : Nat → Nat} : ∀ {n : Nat}, (∀ i, i < n → D i < β) → yy_val β D n < β ^ n
  | 0, _ => by show 0 < β ^ 0; exact Nat.lt_of_lt_of_le Nat.zero_lt_one (Nat.le_of_eq (Nat.pow_zero β).symm)
  | n + 1, h => by
    have h1 := yy_val_lt (n := n) (fun i hi => h i (by omega))
    have h2 := h n (by omega)
    show yy_val β D n + D n * β ^ n < β ^ (n + 1)
    have h3 : (D n + 1) * β ^ n ≤ β * β ^ n := Nat.mul_le_mul_right _ h2
    have h4 : β ^ (n + 1) = β * β ^ n := by rw [Nat.pow_succ, Nat.mul_comm]
    rw [Nat.add_mul, Nat.one_mul] at h3
    omega
theorem yy_val_ext {β : Nat} {D E : Nat → Nat} : ∀ {n : Nat}, (∀ i, i < n → D i = E i) → yy_val β D n = yy_val β E n
  | 0, _ => rfl
  | n + 1, h => by
    show yy_val β D n + D n * β ^ n = yy_val β E n + E n * β ^ n
    rw [yy_val_ext (n := n) (fun i hi => h i (by omega)), h n (by omega)]
theorem yy_val_le {β : Nat} {D : Nat → Nat} {n m : Nat} (h : n ≤ m) : yy_val β D n ≤ yy_val β D m := by
  induction m with
  | zero => have : n = 0 := by omega
            subst this; exact Nat.le_refl _
  | succ m ih =>
    by_cases e : n = m + 1
    · subst e; exact Nat.le_refl _
    · exact Nat.le_trans (ih (by omega)) (Nat.le_add_right _ _)
theorem yy_val_top {β : Nat} {D : Nat → Nat} {n : Nat} (h : D n ≠ 0) : β ^ n ≤ yy_val β D (n + 1) := by
  show β ^ n ≤ yy_val β D n + D n * β ^ n
  have : 1 * β ^ n ≤ D n * β ^ n := Nat.mul_le_mul_right _ (Nat.pos_of_ne_zero h)
  omega
theorem yy_val_z {β : Nat} {D : Nat → Nat} {n m : Nat} (h : n ≤ m) (hz : ∀ i, n ≤ i → i < m → D i = 0) : yy_val β D m = yy_val β D n := by
  induction m with
  | zero => have : n = 0 := by omega
            subst this; rfl
  | succ m ih =>
    by_cases e : n = m + 1
    · subst e; rfl
    · show yy_val β D m + D m * β ^ m = _
      rw [ih (by omega) (fun i h1 h2 => hz i h1 (by omega)), hz m (by omega) (by omega)]
      simp
theorem yy_t1 (a b c d e : Nat) (h : a + b * e = c + d) : (a + b * e) * 7 = c * 7 + d * 7 := by grind
theorem yy_t2 (x y P : Nat) (h : x + 3 * y = 5) : x * P + 3 * (y * P) = 5 * P := by grind
