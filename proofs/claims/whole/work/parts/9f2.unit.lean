/-! ===== determinants with a unit column, with a column of ones ===== -/
theorem yd_g_add (a c : Nat) : yd_g (a + c) = yd_g a * yd_g c := by
  induction c with
  | zero => show yd_g a = yd_g a * 1; rw [Int.mul_one]
  | succ c ih => rw [← Nat.add_assoc, yd_g_s, yd_g_s, ih, Int.mul_neg]
theorem yd_s_skip {F : Nat → Int} {c : Nat} : ∀ {n : Nat}, c ≤ n → F c = 0 → yd_s (n + 1) F = yd_s n (fun j => F (yd_k c j))
  | 0, hc, h => by
    rw [show c = 0 by omega] at h
    show (0 : Int) + F 0 = 0
    rw [h]; rfl
  | n + 1, hc, h => by
    by_cases e : c = n + 1
    · subst e
      show yd_s (n + 1) F + F (n + 1) = _
      rw [h, Int.add_zero]
      exact yd_s_ext (fun j hj => by rw [show yd_k (n + 1) j = j from if_pos hj])
    · show yd_s (n + 1) F + F (n + 1) = yd_s n (fun j => F (yd_k c j)) + F (yd_k c n)
      rw [yd_s_skip (n := n) (by omega) h, show yd_k c n = n + 1 from if_neg (by omega)]
theorem yd_unit : ∀ (r n : Nat) (v : Nat → Nat → Int) (c : Nat), c ≤ n → r ≤ n → yd_c (n + 1) (yd_u v c (yh_e r)) = yd_g (r + c) * yd_c n (fun x y => v (yd_k c x) (yd_k r y))
  | 0, n, v, c, hc, _ => by
    rw [yd_c_s, yd_s_one (k := c) (by omega) (fun j hj ne => ?_)]
    · rw [yd_u_s, yd_t_eq, Nat.zero_add, show yh_e 0 0 = 1 from rfl, Int.mul_one]
      rfl
    · rw [yd_t_ne ne, show (fun x => yh_e 0 (x + 1)) = (fun _ => (0 : Int)) from funext (fun x => if_neg (by omega))]
      rw [yd_u0 (F := yd_c n) (yd_c_lin n) (k := yd_p j c) (by unfold yd_p; split <;> omega), Int.mul_zero]
  | r + 1, 0, v, c, _, hr => absurd hr (by omega)
  | r + 1, n + 1, v, c, hc, hr => by
    rw [yd_c_s, yd_s_skip (c := c) hc (by rw [yd_u_s, show yh_e (r + 1) 0 = 0 from if_neg (by omega), Int.mul_zero, Int.zero_mul]), yd_c_s, ← yd_s_mul]
    refine yd_s_ext (fun j hj => ?_)
    have ne : yd_k c j ≠ c := by unfold yd_k; split <;> omega
    rw [yd_u_n ne, yd_t_ne ne, show (fun x => yh_e (r + 1) (x + 1)) = yh_e r from funext (fun x => by unfold yh_e; by_cases e : x = r; rw [if_pos e, if_pos (by omega)]; rw [if_neg e, if_neg (by omega)])]
    rw [yd_unit r n (yd_t (yd_k c j) v) (yd_p (yd_k c j) c) (by unfold yd_p yd_k; split <;> split <;> omega) (by omega)]
    have ev : (fun x y => yd_t (yd_k c j) v (yd_k (yd_p (yd_k c j) c) x) (yd_k r y)) = yd_t j (fun x y => v (yd_k c x) (yd_k (r + 1) y)) := by
      funext x y
      show v (yd_k (yd_k c j) (yd_k (yd_p (yd_k c j) c) x)) (yd_k r y + 1) = v (yd_k c (yd_k j x)) (yd_k (r + 1) (y + 1))
      have e1 : yd_k (yd_k c j) (yd_k (yd_p (yd_k c j) c) x) = yd_k c (yd_k j x) := by
        by_cases z : j < c
        · rw [show yd_k c j = j from if_pos z, show yd_p j c = c - 1 from if_neg (by omega), yd_kk (i := c - 1) (by omega), show c - 1 + 1 = c by omega]
        · rw [show yd_k c j = j + 1 from if_neg z, show yd_p (j + 1) c = c from if_pos (by omega), yd_kk (j := c) (i := j) (by omega)]
      have e2 : yd_k r y + 1 = yd_k (r + 1) (y + 1) := by unfold yd_k; by_cases z : y < r; rw [if_pos z, if_pos (by omega)]; rw [if_neg z, if_neg (by omega)]
      rw [e1, e2]
    rw [ev]
    have e0 : yd_k (r + 1) 0 = 0 := if_pos (by omega)
    show yd_g (yd_k c j) * v (yd_k c j) 0 * (yd_g (r + yd_p (yd_k c j) c) * _) = yd_g (r + 1 + c) * (yd_g j * v (yd_k c j) (yd_k (r + 1) 0) * _)
    rw [e0]
    have es : yd_g (yd_k c j) * yd_g (r + yd_p (yd_k c j) c) = yd_g (r + 1 + c) * yd_g j := by
      by_cases z : j < c
      · rw [show yd_k c j = j from if_pos z, show yd_p j c = c - 1 from if_neg (by omega), show r + 1 + c = r + (c - 1) + 1 + 1 by omega, yd_g_s, yd_g_s, Int.neg_neg, Int.mul_comm]
      · rw [show yd_k c j = j + 1 from if_neg z, show yd_p (j + 1) c = c from if_pos (by omega), show r + 1 + c = r + c + 1 by omega, yd_g_s, yd_g_s, Int.mul_comm, Int.mul_neg, Int.neg_mul]
    generalize yd_c n (yd_t j (fun x y => v (yd_k c x) (yd_k (r + 1) y))) = X9
    calc yd_g (yd_k c j) * v (yd_k c j) 0 * (yd_g (r + yd_p (yd_k c j) c) * X9) = (yd_g (yd_k c j) * yd_g (r + yd_p (yd_k c j) c)) * (v (yd_k c j) 0 * X9) := by
          rw [Int.mul_assoc, Int.mul_left_comm (v (yd_k c j) 0), ← Int.mul_assoc]
      _ = yd_g (r + 1 + c) * (yd_g j * v (yd_k c j) 0 * X9) := by rw [es, Int.mul_assoc, Int.mul_assoc]
/-- a column of ones -/
def yd_1 : Nat → Int := fun _ => 1
theorem yd_ext_c {n : Nat} {v w : Nat → Nat → Int} (h : ∀ c, c < n → ∀ r, r < n → v c r = w c r) : yd_c n v = yd_c n w := yd_ext n _ _ (fun r hr c hc => h c hc r hr)
theorem yd_ones {n c : Nat} (hc : c ≤ n) (v : Nat → Nat → Int) : yd_c (n + 1) (yd_u v c yd_1) = yd_s (n + 1) (fun r => yd_g (r + c) * yd_c n (fun x y => v (yd_k c x) (yd_k r y))) := by
  have e : yd_c (n + 1) (yd_u v c yd_1) = yd_c (n + 1) (yd_u v c (fun x => yd_s (n + 1) (fun i => 1 * yh_e i x))) := by
    refine yd_ext_c (fun d hd r hr => ?_)
    by_cases z : d = c
    · rw [z, yd_u_s, yd_u_s, yd_s_one (k := r) hr (fun i hi ne => ?_)]
      · show (1 : Int) = 1 * yh_e r r
        rw [show yh_e r r = 1 from if_pos rfl]; rfl
      · rw [show yh_e i r = 0 from if_neg (fun q => ne q.symm), Int.mul_zero]
    · rw [yd_u_n z, yd_u_n z]
  rw [e, yd_usum (F := yd_c (n + 1)) (yd_c_lin (n + 1)) (by omega) v (fun _ => 1) yh_e (n + 1)]
  refine yd_s_ext (fun r hr => ?_)
  rw [Int.one_mul, yd_unit r n v c hc (by omega)]
theorem yd_g_abs (j : Nat) : (yd_g j).natAbs = 1 := by unfold yd_g; split <;> rfl
theorem yd_ones_b {n c K : Nat} (hc : c ≤ n) {v : Nat → Nat → Int} (h : ∀ d, d ≤ n → d ≠ c → ∀ r, r ≤ n → (v d r).natAbs ≤ K) : (yd_c (n + 1) (yd_u v c yd_1)).natAbs ≤ (n + 1) * (yd_f n * K ^ n) := by
  rw [yd_ones hc]
  refine yd_s_abs (fun r hr => ?_)
  rw [Int.natAbs_mul, yd_g_abs, Nat.one_mul]
  refine yd_c_bd (fun x hx y hy => h _ (by unfold yd_k; split <;> omega) (by unfold yd_k; split <;> omega) _ (by unfold yd_k; split <;> omega))
/-- columns may be moved along the ones -/
theorem yd_shift {n c : Nat} (hc : c < n) (h9 : Int) : ∀ (m : Nat), m ≤ n → ∀ (v : Nat → Nat → Int), v c = yd_1 → yd_c n v = yd_c n (fun d r => if d < m ∧ d ≠ c then v d r - h9 else v d r)
  | 0, _, v, _ => yd_ext_c (fun d _ r _ => (if_neg (fun e => absurd e.1 (Nat.not_lt_zero d))).symm)
  | m + 1, hm, v, hv => by
    rw [yd_shift hc h9 m (by omega) v hv]
    by_cases e : m = c
    · refine yd_ext_c (fun d _ r _ => ?_)
      by_cases z : d < m ∧ d ≠ c
      · rw [if_pos z, if_pos ⟨by omega, z.2⟩]
      · rw [if_neg z, if_neg (by omega)]
    · have key : (fun d r => if d < m + 1 ∧ d ≠ c then v d r - h9 else v d r) = yd_u (fun d r => if d < m ∧ d ≠ c then v d r - h9 else v d r) m (fun r => (-h9) * yd_1 r + v m r) := by
        funext d r
        by_cases z : d = m
        · subst z
          rw [yd_u_s, if_pos ⟨by omega, e⟩]
          show v d r - h9 = -h9 * 1 + v d r
          omega
        · rw [yd_u_n z]
          by_cases y : d < m ∧ d ≠ c
          · rw [if_pos y, if_pos ⟨by omega, y.2⟩]
          · rw [if_neg y, if_neg (by omega)]
      rw [key, yd_c_lin n _ m (by omega)]
      have z1 : yd_c n (yd_u (fun d r => if d < m ∧ d ≠ c then v d r - h9 else v d r) m yd_1) = 0 := by
        refine yd_c_rep (i := m) (j := c) (by omega) hc e ?_
        rw [yd_u_s, yd_u_n (fun q => e q.symm)]
        funext r
        rw [if_neg (fun q => q.2 rfl), hv]
      have z2 : yd_u (fun d r => if d < m ∧ d ≠ c then v d r - h9 else v d r) m (v m) = (fun d r => if d < m ∧ d ≠ c then v d r - h9 else v d r) := by
        funext d r
        by_cases z : d = m
        · subst z; rw [yd_u_s, if_neg (by omega)]
        · rw [yd_u_n z]
      rw [z1, Int.mul_zero, Int.zero_add, z2]
/-- what a row beside gets, less the determinant -/
theorem yd_excess {k : Nat} (v : Nat → Nat → Int) : yd_c (k + 1) (yd_u v k yd_1) = yd_c k v - yd_s k (fun i => yd_c k (yd_u v i yd_1) * v i k) := by
  have hb : yd_c (k + 1) (yd_u v k (yh_e k)) = yd_c k v := by
    rw [yd_unit k k v k (Nat.le_refl _) (Nat.le_refl _), yd_g_add, yd_g_sq, Int.one_mul]
    exact yd_ext_c (fun c hc r hr => by rw [show yd_k k c = c from if_pos hc, show yd_k k r = r from if_pos hr])
  have hc := yd_cramer (n := k + 1) (ρ := k) (by omega) (yd_u v k (yh_e k)) yd_1
  rw [hb] at hc
  have hs : yd_s (k + 1) (fun i => yd_c (k + 1) (yd_u (yd_u v k (yh_e k)) i yd_1) * yd_u v k (yh_e k) i k) = yd_s k (fun i => yd_c k (yd_u v i yd_1) * v i k) + yd_c (k + 1) (yd_u v k yd_1) := by
    show yd_s k _ + _ = _
    congr 1
    · refine yd_s_ext (fun i hi => ?_)
      rw [yd_u_n (show i ≠ k by omega), yd_u_c (show k ≠ i by omega), yd_unit k k _ k (Nat.le_refl _) (Nat.le_refl _), yd_g_add, yd_g_sq, Int.one_mul]
      congr 1
      refine yd_ext_c (fun c hc2 r hr => ?_)
      rw [show yd_k k c = c from if_pos hc2, show yd_k k r = r from if_pos hr]
    · dsimp only
      rw [yd_u_u, yd_u_s, show yh_e k k = 1 from if_pos rfl, Int.mul_one]
  rw [hs] at hc
  show _ = _
  have e1 : yd_1 k = 1 := rfl
  rw [e1, Int.mul_one] at hc
  omega
