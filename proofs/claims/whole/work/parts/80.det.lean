/-! ===== sums and determinants ===== -/
def yd_s : Nat → (Nat → Int) → Int
  | 0, _ => 0
  | n + 1, f => yd_s n f + f n
theorem yd_s_ext {f g : Nat → Int} : ∀ {n : Nat}, (∀ i, i < n → f i = g i) → yd_s n f = yd_s n g
  | 0, _ => rfl
  | n + 1, h => by
    show yd_s n f + f n = yd_s n g + g n
    rw [yd_s_ext (n := n) (fun i hi => h i (by omega)), h n (by omega)]
theorem yd_s_add (f g : Nat → Int) : ∀ n : Nat, yd_s n (fun i => f i + g i) = yd_s n f + yd_s n g
  | 0 => rfl
  | n + 1 => by
    show yd_s n (fun i => f i + g i) + (f n + g n) = yd_s n f + f n + (yd_s n g + g n)
    rw [yd_s_add f g n]; omega
theorem yd_s_mul (a : Int) (f : Nat → Int) : ∀ n : Nat, yd_s n (fun i => a * f i) = a * yd_s n f
  | 0 => by show (0 : Int) = a * 0; simp
  | n + 1 => by
    show yd_s n (fun i => a * f i) + a * f n = a * (yd_s n f + f n)
    rw [yd_s_mul a f n, Int.mul_add]
theorem yd_s_zero {f : Nat → Int} : ∀ {n : Nat}, (∀ i, i < n → f i = 0) → yd_s n f = 0
  | 0, _ => rfl
  | n + 1, h => by
    show yd_s n f + f n = 0
    rw [yd_s_zero (n := n) (fun i hi => h i (by omega)), h n (by omega)]; rfl
theorem yd_s_one {f : Nat → Int} {k : Nat} : ∀ {n : Nat}, k < n → (∀ i, i < n → i ≠ k → f i = 0) → yd_s n f = f k
  | 0, h, _ => absurd h (Nat.not_lt_zero k)
  | n + 1, hk, h => by
    show yd_s n f + f n = f k
    by_cases e : k = n
    · subst e
      rw [yd_s_zero (fun i hi => h i (by omega) (by omega))]; omega
    · rw [yd_s_one (n := n) (k := k) (by omega) (fun i hi hne => h i (by omega) hne), h n (by omega) (by omega)]; omega
theorem yd_s_two {f : Nat → Int} {k l : Nat} (hkl : k ≠ l) : ∀ {n : Nat}, k < n → l < n → (∀ i, i < n → i ≠ k → i ≠ l → f i = 0) → yd_s n f = f k + f l
  | 0, h, _, _ => absurd h (Nat.not_lt_zero k)
  | n + 1, hk, hl, h => by
    show yd_s n f + f n = f k + f l
    by_cases e : k = n
    · subst e
      rw [yd_s_one (k := l) (by omega) (fun i hi hne => h i (by omega) (by omega) hne)]; omega
    · by_cases e2 : l = n
      · subst e2
        rw [yd_s_one (k := k) (by omega) (fun i hi hne => h i (by omega) hne (by omega))]
      · rw [yd_s_two hkl (n := n) (by omega) (by omega) (fun i hi h1 h2 => h i (by omega) h1 h2), h n (by omega) (by omega) (by omega)]; omega
theorem yd_s_head (f : Nat → Int) : ∀ n : Nat, yd_s (n + 1) f = f 0 + yd_s n (fun i => f (i + 1))
  | 0 => by show (0 : Int) + f 0 = f 0 + 0; omega
  | n + 1 => by
    show yd_s (n + 1) f + f (n + 1) = f 0 + (yd_s n (fun i => f (i + 1)) + f (n + 1))
    rw [yd_s_head f n]; omega
/-- pairs that cancel -/
theorem yd_s_pair {g : Nat → Nat → Int} (h : ∀ j k, j ≤ k → g j k + g (k + 1) j = 0) : ∀ n : Nat, yd_s (n + 1) (fun j => yd_s n (fun k => g j k)) = 0
  | 0 => rfl
  | n + 1 => by
    show yd_s (n + 1) (fun j => yd_s n (fun k => g j k) + g j n) + yd_s (n + 1) (fun k => g (n + 1) k) = 0
    rw [yd_s_add, yd_s_pair h n, Int.zero_add, ← yd_s_add]
    exact yd_s_zero (fun i hi => h i n (by omega))
def yd_g (j : Nat) : Int := if j % 2 = 0 then 1 else -1
theorem yd_g_s (j : Nat) : yd_g (j + 1) = - yd_g j := by
  unfold yd_g
  rcases (by omega : j % 2 = 0 ∨ j % 2 = 1) with h | h
  · rw [if_pos h, if_neg (by omega)]
  · rw [if_pos (show (j + 1) % 2 = 0 by omega), if_neg (show ¬ j % 2 = 0 by omega)]; rfl
theorem yd_g_sq (j : Nat) : yd_g j * yd_g j = 1 := by
  unfold yd_g
  split <;> rfl
def yd_k (j c : Nat) : Nat := if c < j then c else c + 1
def yd_d : Nat → (Nat → Nat → Int) → Int
  | 0, _ => 1
  | n + 1, M => yd_s (n + 1) (fun j => yd_g j * M 0 j * yd_d n (fun r c => M (r + 1) (yd_k j c)))
theorem yd_ext : ∀ (n : Nat) (M M' : Nat → Nat → Int), (∀ r, r < n → ∀ c, c < n → M r c = M' r c) → yd_d n M = yd_d n M'
  | 0, _, _, _ => rfl
  | n + 1, M, M', h => by
    apply yd_s_ext
    intro j hj
    rw [h 0 (by omega) j hj, yd_ext n (fun r c => M (r + 1) (yd_k j c)) (fun r c => M' (r + 1) (yd_k j c)) (fun r hr c hc => h (r + 1) (by omega) _ (by unfold yd_k; split <;> omega))]
/-- one vector told anew -/
def yd_u (v : Nat → Nat → Int) (k : Nat) (x : Nat → Int) : Nat → Nat → Int := fun c => if c = k then x else v c
theorem yd_u_s {v : Nat → Nat → Int} {k : Nat} {x : Nat → Int} : yd_u v k x k = x := if_pos rfl
theorem yd_u_n {v : Nat → Nat → Int} {k c : Nat} {x : Nat → Int} (h : c ≠ k) : yd_u v k x c = v c := if_neg h
theorem yd_u_c {v : Nat → Nat → Int} {k l : Nat} {x y : Nat → Int} (h : k ≠ l) : yd_u (yd_u v k x) l y = yd_u (yd_u v l y) k x := by
  funext c
  unfold yd_u
  by_cases e1 : c = l
  · rw [if_pos e1, if_neg (by omega), if_pos e1]
  · rw [if_neg e1]
    by_cases e2 : c = k
    · rw [if_pos e2, if_pos e2]
    · rw [if_neg e2, if_neg e2, if_neg e1]
theorem yd_u_id {v : Nat → Nat → Int} {k : Nat} : yd_u v k (v k) = v := by
  funext c
  unfold yd_u
  by_cases e : c = k
  · rw [if_pos e, e]
  · rw [if_neg e]
theorem yd_u_u {v : Nat → Nat → Int} {k : Nat} {x y : Nat → Int} : yd_u (yd_u v k x) k y = yd_u v k y := by
  funext c
  unfold yd_u
  by_cases e : c = k
  · rw [if_pos e, if_pos e]
  · rw [if_neg e, if_neg e, if_neg e]
/-- by columns -/
def yd_c (n : Nat) (v : Nat → Nat → Int) : Int := yd_d n (fun r c => v c r)
/-- all but the j-th column, without the first row -/
def yd_t (j : Nat) (v : Nat → Nat → Int) : Nat → Nat → Int := fun c r => v (yd_k j c) (r + 1)
theorem yd_c_s (n : Nat) (v : Nat → Nat → Int) : yd_c (n + 1) v = yd_s (n + 1) (fun j => yd_g j * v j 0 * yd_c n (yd_t j v)) := rfl
theorem yd_t_eq {v : Nat → Nat → Int} {k : Nat} {x : Nat → Int} : yd_t k (yd_u v k x) = yd_t k v := by
  funext c r
  unfold yd_t
  rw [yd_u_n (by unfold yd_k; split <;> omega)]
def yd_p (j k : Nat) : Nat := if k < j then k else k - 1
theorem yd_kp {j k : Nat} (h : j ≠ k) : yd_k j (yd_p j k) = k := by
  unfold yd_k yd_p
  by_cases e : k < j
  · rw [if_pos e, if_pos e]
  · rw [if_neg e, if_neg (by omega)]; omega
theorem yd_kp1 {j k : Nat} (h : j ≠ k) (h2 : j ≠ k + 1) : yd_k j (yd_p j k + 1) = k + 1 := by
  unfold yd_k yd_p
  by_cases e : k < j
  · rw [if_pos e, if_pos (by omega)]
  · rw [if_neg e, if_neg (by omega)]; omega
theorem yd_t_ne {v : Nat → Nat → Int} {j k : Nat} {x : Nat → Int} (h : j ≠ k) : yd_t j (yd_u v k x) = yd_u (yd_t j v) (yd_p j k) (fun r => x (r + 1)) := by
  funext c r
  unfold yd_t
  by_cases e : c = yd_p j k
  · subst e
    rw [yd_u_s]
    have := yd_kp h
    rw [this, yd_u_s]
  · rw [yd_u_n e, yd_u_n]
    unfold yd_k
    unfold yd_p at e
    split <;> split at e <;> omega
theorem yd_c_lin : ∀ (n : Nat) (v : Nat → Nat → Int) (k : Nat), k < n → ∀ (a : Int) (x y : Nat → Int), yd_c n (yd_u v k (fun r => a * x r + y r)) = a * yd_c n (yd_u v k x) + yd_c n (yd_u v k y)
  | 0, _, k, h, _, _, _ => absurd h (Nat.not_lt_zero k)
  | n + 1, v, k, hk, a, x, y => by
    rw [yd_c_s, yd_c_s, yd_c_s, ← yd_s_mul, ← yd_s_add]
    apply yd_s_ext
    intro j hj
    by_cases e : j = k
    · subst e
      rw [yd_u_s, yd_u_s, yd_u_s, yd_t_eq, yd_t_eq, yd_t_eq]
      generalize yd_c n (yd_t j v) = D
      generalize yd_g j = g
      grind
    · rw [yd_u_n e, yd_u_n e, yd_u_n e, yd_t_ne e, yd_t_ne e, yd_t_ne e, yd_c_lin n (yd_t j v) (yd_p j k) (by unfold yd_p; split <;> omega) a (fun r => x (r + 1)) (fun r => y (r + 1))]
      generalize yd_c n (yd_u (yd_t j v) (yd_p j k) fun r => x (r + 1)) = D1
      generalize yd_c n (yd_u (yd_t j v) (yd_p j k) fun r => y (r + 1)) = D2
      generalize yd_g j = g
      grind
theorem yd_c_adj : ∀ (n : Nat) (v : Nat → Nat → Int) (k : Nat), k + 1 < n → v k = v (k + 1) → yd_c n v = 0
  | 0, _, k, h, _ => absurd h (by omega)
  | n + 1, v, k, hk, hv => by
    rw [yd_c_s, yd_s_two (k := k) (l := k + 1) (by omega) (by omega) (by omega)]
    · have e : yd_t k v = yd_t (k + 1) v := by
        funext c r
        unfold yd_t yd_k
        by_cases e1 : c < k
        · rw [if_pos e1, if_pos (by omega)]
        · rw [if_neg e1]
          by_cases e2 : c = k
          · subst e2; rw [if_pos (by omega), hv]
          · rw [if_neg (by omega)]
      rw [e, yd_g_s, hv]
      generalize yd_c n (yd_t (k + 1) v) = D
      generalize yd_g k = g
      grind
    · intro j hj h1 h2
      have : yd_c n (yd_t j v) = 0 := by
        apply yd_c_adj n (yd_t j v) (yd_p j k) (by unfold yd_p; split <;> omega)
        funext r
        unfold yd_t
        have a1 := yd_kp h1
        have a2 := yd_kp1 h1 h2
        rw [a1, a2, hv]
      rw [this]; simp
theorem yd_r_lin : ∀ (n : Nat) (v : Nat → Nat → Int) (k : Nat), k < n → ∀ (a : Int) (x y : Nat → Int), yd_d n (yd_u v k (fun r => a * x r + y r)) = a * yd_d n (yd_u v k x) + yd_d n (yd_u v k y)
  | 0, _, k, h, _, _, _ => absurd h (Nat.not_lt_zero k)
  | n + 1, v, 0, hk, a, x, y => by
    show yd_s _ _ = a * yd_s _ _ + yd_s _ _
    rw [← yd_s_mul, ← yd_s_add]
    apply yd_s_ext
    intro j hj
    show yd_g j * (a * x j + y j) * yd_d n (fun r c => v (r + 1) (yd_k j c)) = a * (yd_g j * x j * yd_d n (fun r c => v (r + 1) (yd_k j c))) + yd_g j * y j * yd_d n (fun r c => v (r + 1) (yd_k j c))
    generalize yd_d n (fun r c => v (r + 1) (yd_k j c)) = D
    generalize yd_g j = g
    grind
  | n + 1, v, k + 1, hk, a, x, y => by
    show yd_s _ _ = a * yd_s _ _ + yd_s _ _
    rw [← yd_s_mul, ← yd_s_add]
    apply yd_s_ext
    intro j hj
    have m : ∀ z : Nat → Int, (fun r c => yd_u v (k + 1) z (r + 1) (yd_k j c)) = yd_u (fun r c => v (r + 1) (yd_k j c)) k (fun c => z (yd_k j c)) := by
      intro z
      funext r c
      unfold yd_u
      by_cases e : r = k
      · subst e; rw [if_pos rfl, if_pos rfl]
      · rw [if_neg (by omega), if_neg e]
    have z0 : ∀ z : Nat → Int, yd_u v (k + 1) z 0 j = v 0 j := fun z => congrFun (yd_u_n (by omega)) j
    rw [m, m, m, z0, z0, z0, yd_r_lin n (fun r c => v (r + 1) (yd_k j c)) k (by omega) a (fun c => x (yd_k j c)) (fun c => y (yd_k j c))]
    generalize yd_d n (yd_u (fun r c => v (r + 1) (yd_k j c)) k fun c => x (yd_k j c)) = D1
    generalize yd_d n (yd_u (fun r c => v (r + 1) (yd_k j c)) k fun c => y (yd_k j c)) = D2
    generalize yd_g j = g
    grind
theorem yd_kk {j i c : Nat} (h : j ≤ i) : yd_k j (yd_k i c) = yd_k (i + 1) (yd_k j c) := by
  unfold yd_k
  by_cases a : c < j
  · rw [if_pos (show c < i by omega), if_pos a, if_pos (by omega)]
  · by_cases b : c < i
    · rw [if_pos b, if_neg a, if_pos (by omega)]
    · rw [if_neg b, if_neg (by omega), if_neg a, if_neg (by omega)]
theorem yd_r_adj : ∀ (n : Nat) (v : Nat → Nat → Int) (k : Nat), k + 1 < n → v k = v (k + 1) → yd_d n v = 0
  | 0, _, k, h, _ => absurd h (by omega)
  | 1, _, k, h, _ => absurd h (by omega)
  | n + 2, v, 0, hk, hv => by
    have e : yd_d (n + 2) v = yd_s (n + 2) (fun j => yd_s (n + 1) (fun i => yd_g j * v 0 j * (yd_g i * v 1 (yd_k j i) * yd_d n (fun r c => v (r + 2) (yd_k j (yd_k i c)))))) := by
      apply yd_s_ext
      intro j hj
      rw [yd_s_mul]
      rfl
    rw [e]
    apply yd_s_pair
    intro j i hji
    have h1 : yd_k j i = i + 1 := if_neg (by omega)
    have h2 : yd_k (i + 1) j = j := if_pos (by omega)
    have h3 : (fun r c => v (r + 2) (yd_k j (yd_k i c))) = (fun r c => v (r + 2) (yd_k (i + 1) (yd_k j c))) := by
      funext r c; rw [yd_kk hji]
    rw [h1, h2, h3, yd_g_s, ← hv]
    generalize yd_d n (fun r c => v (r + 2) (yd_k (i + 1) (yd_k j c))) = D
    generalize yd_g j = g1
    generalize yd_g i = g2
    grind
  | n + 2, v, k + 1, hk, hv => by
    show yd_s _ _ = 0
    apply yd_s_zero
    intro j hj
    have : yd_d (n + 1) (fun r c => v (r + 1) (yd_k j c)) = 0 := by
      apply yd_r_adj (n + 1) _ k (by omega)
      funext c
      show v (k + 1) (yd_k j c) = v (k + 1 + 1) (yd_k j c)
      rw [hv]
    rw [this]; simp
section YD
variable {F : (Nat → Nat → Int) → Int} {n : Nat}
theorem yd_swap (hl : ∀ (v : Nat → Nat → Int) (k : Nat), k < n → ∀ (a : Int) (x y : Nat → Int), F (yd_u v k (fun r => a * x r + y r)) = a * F (yd_u v k x) + F (yd_u v k y)) {i j : Nat} (hi : i < n) (hj : j < n) (hij : i ≠ j)
    (ha : ∀ (v : Nat → Nat → Int), v i = v j → F v = 0) (v : Nat → Nat → Int) (x y : Nat → Int) : F (yd_u (yd_u v i x) j y) = - F (yd_u (yd_u v i y) j x) := by
  have h0 := ha (yd_u (yd_u v i (fun r => 1 * x r + y r)) j (fun r => 1 * x r + y r)) (by rw [yd_u_n hij, yd_u_s, yd_u_s])
  have hx := ha (yd_u (yd_u v i x) j x) (by rw [yd_u_n hij, yd_u_s, yd_u_s])
  have hy := ha (yd_u (yd_u v i y) j y) (by rw [yd_u_n hij, yd_u_s, yd_u_s])
  rw [hl _ j hj, yd_u_c hij, yd_u_c hij (y := y), hl _ i hi, hl _ i hi, ← yd_u_c hij, ← yd_u_c hij, ← yd_u_c hij, ← yd_u_c hij, hx, hy] at h0
  omega
theorem yd_rep (hl : ∀ (v : Nat → Nat → Int) (k : Nat), k < n → ∀ (a : Int) (x y : Nat → Int), F (yd_u v k (fun r => a * x r + y r)) = a * F (yd_u v k x) + F (yd_u v k y))
    (ha : ∀ (v : Nat → Nat → Int) (k : Nat), k + 1 < n → v k = v (k + 1) → F v = 0) : ∀ (d i : Nat) (v : Nat → Nat → Int), i + d + 1 < n → v i = v (i + d + 1) → F v = 0 := by
  intro d
  induction d with
  | zero => intro i v h1 h2; exact ha v i h1 h2
  | succ d ih =>
    intro i v h1 h2
    have e : v = yd_u (yd_u v (i + d + 1) (v (i + d + 1))) (i + d + 1 + 1) (v (i + d + 1 + 1)) := by rw [yd_u_id, yd_u_id]
    rw [e, yd_swap hl (by omega) (by omega) (by omega) (fun w hw => ha w (i + d + 1) (by omega) hw), ih i, Int.neg_zero]
    · omega
    · rw [yd_u_n (by omega), yd_u_n (by omega), yd_u_n (by omega), yd_u_s, h2]
      congr 1
theorem yd_rep2 (hl : ∀ (v : Nat → Nat → Int) (k : Nat), k < n → ∀ (a : Int) (x y : Nat → Int), F (yd_u v k (fun r => a * x r + y r)) = a * F (yd_u v k x) + F (yd_u v k y))
    (ha : ∀ (v : Nat → Nat → Int) (k : Nat), k + 1 < n → v k = v (k + 1) → F v = 0) {i j : Nat} (hi : i < n) (hj : j < n) (hij : i ≠ j) (v : Nat → Nat → Int) (hv : v i = v j) : F v = 0 := by
  rcases Nat.lt_or_ge i j with h | h
  · exact yd_rep hl ha (j - i - 1) i v (by omega) (by rw [show i + (j - i - 1) + 1 = j by omega]; exact hv)
  · exact yd_rep hl ha (i - j - 1) j v (by omega) (by rw [show j + (i - j - 1) + 1 = i by omega]; exact hv.symm)
theorem yd_u0 (hl : ∀ (v : Nat → Nat → Int) (k : Nat), k < n → ∀ (a : Int) (x y : Nat → Int), F (yd_u v k (fun r => a * x r + y r)) = a * F (yd_u v k x) + F (yd_u v k y)) {k : Nat} (hk : k < n) (v : Nat → Nat → Int) : F (yd_u v k (fun _ => 0)) = 0 := by
  have h := hl v k hk 1 (fun _ => 0) (fun _ => 0)
  have e : (fun _ : Nat => (1 : Int) * 0 + 0) = (fun _ => 0) := by funext r; rfl
  rw [e] at h
  omega
theorem yd_usum (hl : ∀ (v : Nat → Nat → Int) (k : Nat), k < n → ∀ (a : Int) (x y : Nat → Int), F (yd_u v k (fun r => a * x r + y r)) = a * F (yd_u v k x) + F (yd_u v k y)) {k : Nat} (hk : k < n) (v : Nat → Nat → Int) (al : Nat → Int) (u : Nat → Nat → Int) :
    ∀ m : Nat, F (yd_u v k (fun r => yd_s m (fun i => al i * u i r))) = yd_s m (fun i => al i * F (yd_u v k (u i)))
  | 0 => yd_u0 hl hk v
  | m + 1 => by
    have e : (fun r => yd_s (m + 1) (fun i => al i * u i r)) = (fun r => al m * u m r + yd_s m (fun i => al i * u i r)) := by
      funext r
      show yd_s m (fun i => al i * u i r) + al m * u m r = _
      omega
    rw [e, hl v k hk, yd_usum hl hk v al u m]
    show _ = yd_s m _ + al m * F (yd_u v k (u m))
    omega
end YD
theorem yd_c_rep {n i j : Nat} {v : Nat → Nat → Int} (hi : i < n) (hj : j < n) (hij : i ≠ j) (hv : v i = v j) : yd_c n v = 0 := yd_rep2 (F := yd_c n) (yd_c_lin n) (yd_c_adj n) hi hj hij v hv
theorem yd_r_rep {n i j : Nat} {v : Nat → Nat → Int} (hi : i < n) (hj : j < n) (hij : i ≠ j) (hv : v i = v j) : yd_d n v = 0 := yd_rep2 (F := yd_d n) (yd_r_lin n) (yd_r_adj n) hi hj hij v hv
theorem yd_c_sw {n i j : Nat} (hi : i < n) (hj : j < n) (hij : i ≠ j) (v : Nat → Nat → Int) (x y : Nat → Int) : yd_c n (yd_u (yd_u v i x) j y) = - yd_c n (yd_u (yd_u v i y) j x) := yd_swap (F := yd_c n) (yd_c_lin n) hi hj hij (fun w hw => yd_c_rep hi hj hij hw) v x y
theorem yd_r_sw {n i j : Nat} (hi : i < n) (hj : j < n) (hij : i ≠ j) (v : Nat → Nat → Int) (x y : Nat → Int) : yd_d n (yd_u (yd_u v i x) j y) = - yd_d n (yd_u (yd_u v i y) j x) := yd_swap (F := yd_d n) (yd_r_lin n) hi hj hij (fun w hw => yd_r_rep hi hj hij hw) v x y
/-- x at place p, what stood below i one place on -/
def yd_y (b : Nat → Nat → Int) (x : Nat → Int) (i p : Nat) : Nat → Nat → Int := fun c => if c = p then x else if c < p then b c else if c ≤ i then b (c - 1) else b c
theorem yd_y_s {n i : Nat} (b : Nat → Nat → Int) (x : Nat → Int) (hi : i < n) : ∀ (d p : Nat), p + d = i → yd_c n (yd_y b x i p) = yd_g d * yd_c n (yd_u b i x) := by
  intro d
  induction d with
  | zero =>
    intro p hp
    have : p = i := by omega
    subst this
    have e : yd_y b x p p = yd_u b p x := by
      funext c
      unfold yd_y yd_u
      by_cases e : c = p
      · rw [if_pos e, if_pos e]
      · rw [if_neg e, if_neg e]
        by_cases e2 : c < p
        · rw [if_pos e2]
        · rw [if_neg e2, if_neg (by omega)]
    rw [e]
    show _ = 1 * _
    omega
  | succ d ih =>
    intro p hp
    have h := ih (p + 1) (by omega)
    have e1 : yd_y b x i p = yd_u (yd_u (yd_y b x i p) p x) (p + 1) (b p) := by
      have a1 : yd_y b x i p p = x := if_pos rfl
      have a2 : yd_y b x i p (p + 1) = b p := by unfold yd_y; rw [if_neg (by omega), if_neg (by omega), if_pos (by omega)]; congr 1
      have := yd_u_id (v := yd_y b x i p) (k := p)
      rw [a1] at this
      rw [this]
      have := yd_u_id (v := yd_y b x i p) (k := p + 1)
      rw [a2] at this
      exact this.symm
    have e2 : yd_u (yd_u (yd_y b x i p) p (b p)) (p + 1) x = yd_y b x i (p + 1) := by
      funext c
      by_cases c1 : c = p + 1
      · subst c1; rw [yd_u_s]; exact (if_pos rfl).symm
      · rw [yd_u_n c1]
        by_cases c2 : c = p
        · subst c2; rw [yd_u_s]; unfold yd_y; rw [if_neg (by omega), if_pos (by omega)]
        · rw [yd_u_n c2]
          unfold yd_y
          rw [if_neg c2, if_neg c1]
          by_cases c3 : c < p
          · rw [if_pos c3, if_pos (by omega)]
          · rw [if_neg c3, if_neg (show ¬ c < p + 1 by omega)]
    rw [e1, yd_c_sw (by omega) (by omega) (by omega), e2, h, yd_g_s]
    grind
/-- Cramer -/
theorem yd_cramer {n ρ : Nat} (hρ : ρ < n) (b : Nat → Nat → Int) (x : Nat → Int) : yd_c n b * x ρ = yd_s n (fun i => yd_c n (yd_u b i x) * b i ρ) := by
  let ht : (Nat → Int) → Nat → Int := fun u r => if r = 0 then u ρ else u (r - 1)
  let w : Nat → Nat → Int := fun c => if c = 0 then ht x else ht (b (c - 1))
  have h0 : yd_c (n + 1) w = 0 := by
    apply yd_r_rep (i := 0) (j := ρ + 1) (by omega) (by omega) (by omega)
    funext c
    show w c 0 = w c (ρ + 1)
    have hh : ∀ u, ht u 0 = ht u (ρ + 1) := by
      intro u
      show (if 0 = 0 then u ρ else u (0 - 1)) = (if ρ + 1 = 0 then u ρ else u (ρ + 1 - 1))
      rw [if_pos rfl, if_neg (by omega), Nat.add_sub_cancel]
    show (if c = 0 then ht x else ht (b (c - 1))) 0 = (if c = 0 then ht x else ht (b (c - 1))) (ρ + 1)
    split
    · exact hh x
    · exact hh _
  rw [yd_c_s, yd_s_head] at h0
  have a0 : yd_g 0 * w 0 0 * yd_c n (yd_t 0 w) = yd_c n b * x ρ := by
    have e : yd_t 0 w = b := by
      funext c r
      show (if yd_k 0 c = 0 then ht x else ht (b (yd_k 0 c - 1))) (r + 1) = b c r
      have : yd_k 0 c = c + 1 := if_neg (by omega)
      rw [this, if_neg (by omega), Nat.add_sub_cancel]
      show (if r + 1 = 0 then b c ρ else b c (r + 1 - 1)) = b c r
      rw [if_neg (by omega), Nat.add_sub_cancel]
    rw [e]
    show 1 * x ρ * yd_c n b = _
    rw [Int.one_mul, Int.mul_comm]
  rw [a0] at h0
  have a1 : yd_s n (fun i => yd_g (i + 1) * w (i + 1) 0 * yd_c n (yd_t (i + 1) w)) = yd_s n (fun i => -1 * (yd_c n (yd_u b i x) * b i ρ)) := by
    apply yd_s_ext
    intro i hi
    have e : yd_t (i + 1) w = yd_y b x i 0 := by
      funext c r
      show (if yd_k (i + 1) c = 0 then ht x else ht (b (yd_k (i + 1) c - 1))) (r + 1) = yd_y b x i 0 c r
      have hr : ∀ u : Nat → Int, ht u (r + 1) = u r := by
        intro u
        show (if r + 1 = 0 then u ρ else u (r + 1 - 1)) = u r
        rw [if_neg (by omega), Nat.add_sub_cancel]
      unfold yd_y
      by_cases c0 : c = 0
      · subst c0
        rw [show yd_k (i + 1) 0 = 0 from if_pos (by omega), if_pos rfl, if_pos rfl]
        exact hr x
      · rw [if_neg c0, if_neg (show ¬ c < 0 by omega)]
        by_cases c1 : c ≤ i
        · rw [show yd_k (i + 1) c = c from if_pos (by omega), if_neg c0, if_pos c1]
          exact hr _
        · rw [show yd_k (i + 1) c = c + 1 from if_neg (by omega), if_neg (by omega), if_neg c1, Nat.add_sub_cancel]
          exact hr _
    have e2 : w (i + 1) 0 = b i ρ := by
      show (if i + 1 = 0 then ht x else ht (b (i + 1 - 1))) 0 = b i ρ
      rw [if_neg (by omega), Nat.add_sub_cancel]
      exact if_pos rfl
    rw [e, e2, yd_y_s b x hi i 0 (by omega), yd_g_s]
    have g := yd_g_sq i
    generalize yd_c n (yd_u b i x) = D
    generalize yd_g i = gg at g ⊢
    have : -gg * b i ρ * (gg * D) = -(gg * gg) * (b i ρ * D) := by grind
    rw [this, g]
    grind
  rw [a1, yd_s_mul] at h0
  omega
/-- the exchange that a pivot is -/
theorem yd_pluck {n k r : Nat} (hk : k < n) (hr : r < n) (hkr : k ≠ r) (b : Nat → Nat → Int) (x y : Nat → Int) :
    yd_c n b * yd_c n (yd_u (yd_u b r y) k x) = yd_c n (yd_u b k x) * yd_c n (yd_u b r y) - yd_c n (yd_u b k y) * yd_c n (yd_u b r x) := by
  have h1 : yd_c n (yd_u (yd_u b r y) k (fun ρ => yd_c n b * x ρ + 0)) = yd_c n b * yd_c n (yd_u (yd_u b r y) k x) := by
    rw [yd_c_lin n _ k hk (yd_c n b) x (fun _ => 0), yd_u0 (F := yd_c n) (yd_c_lin n) hk]; omega
  have h2 : yd_c n (yd_u (yd_u b r y) k (fun ρ => yd_c n b * x ρ + 0)) = yd_c n (yd_u (yd_u b r y) k (fun ρ => yd_s n (fun i => yd_c n (yd_u b i x) * b i ρ))) := by
    apply yd_ext
    intro ρ hρ c hc
    by_cases e : c = k
    · subst e
      rw [yd_u_s, yd_u_s, yd_cramer hρ b x]; omega
    · rw [yd_u_n e, yd_u_n e]
  rw [← h1, h2, yd_usum (F := yd_c n) (yd_c_lin n) hk, yd_s_two (k := k) (l := r) hkr hk hr]
  · have e1 : yd_u (yd_u b r y) k (b k) = yd_u b r y := by
      have := yd_u_id (v := yd_u b r y) (k := k)
      rw [yd_u_n hkr] at this
      exact this
    have e2 : yd_c n (yd_u (yd_u b r y) k (b r)) = - yd_c n (yd_u b k y) := by
      rw [yd_c_sw hr hk (by omega), yd_u_id]
    rw [e1, e2]
    generalize yd_c n (yd_u b k y) = D1
    generalize yd_c n (yd_u b r x) = D2
    grind
  · intro i hi h3 h4
    rw [yd_c_rep (v := yd_u (yd_u b r y) k (b i)) hi hk h3 (by rw [yd_u_n h3, yd_u_n h4, yd_u_s])]
    simp
def yd_f : Nat → Nat
  | 0 => 1
  | n + 1 => (n + 1) * yd_f n
theorem yd_s_abs {f : Nat → Int} {K : Nat} : ∀ {n : Nat}, (∀ i, i < n → (f i).natAbs ≤ K) → (yd_s n f).natAbs ≤ n * K
  | 0, _ => by show (0 : Int).natAbs ≤ _; simp
  | n + 1, h => by
    have h1 := yd_s_abs (n := n) (fun i hi => h i (by omega))
    have h2 := h n (by omega)
    show (yd_s n f + f n).natAbs ≤ _
    rw [Nat.add_mul, Nat.one_mul]
    omega
theorem yd_bd {K : Nat} : ∀ (n : Nat) (M : Nat → Nat → Int), (∀ r, r < n → ∀ c, c < n → (M r c).natAbs ≤ K) → (yd_d n M).natAbs ≤ yd_f n * K ^ n
  | 0, _, _ => by show (1 : Int).natAbs ≤ 1 * K ^ 0; simp
  | n + 1, M, h => by
    have : (yd_d (n + 1) M).natAbs ≤ (n + 1) * (K * (yd_f n * K ^ n)) := by
      apply yd_s_abs
      intro j hj
      have h1 := yd_bd n (fun r c => M (r + 1) (yd_k j c)) (fun r hr c hc => h (r + 1) (by omega) _ (by unfold yd_k; split <;> omega))
      have h2 := h 0 (by omega) j hj
      rw [Int.natAbs_mul, Int.natAbs_mul]
      have h3 : (yd_g j).natAbs = 1 := by unfold yd_g; split <;> rfl
      rw [h3, Nat.one_mul]
      exact Nat.mul_le_mul h2 h1
    refine Nat.le_trans this (Nat.le_of_eq ?_)
    show _ = (n + 1) * yd_f n * K ^ (n + 1)
    rw [Nat.pow_succ]
    generalize K ^ n = P
    generalize yd_f n = Q
    grind
theorem yd_c_bd {K n : Nat} {v : Nat → Nat → Int} (h : ∀ c, c < n → ∀ r, r < n → (v c r).natAbs ≤ K) : (yd_c n v).natAbs ≤ yd_f n * K ^ n := yd_bd n _ (fun r hr c hc => h c hc r hr)
