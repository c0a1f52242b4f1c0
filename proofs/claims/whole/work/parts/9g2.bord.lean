/-! ===== the bordered matrix; rows for columns ===== -/
theorem yd_tr : ∀ (n : Nat) (v : Nat → Nat → Int), yd_c n v = yd_d n v
  | 0, _ => rfl
  | n + 1, v => by
    have e : yd_c (n + 1) v = yd_c (n + 1) (yd_u v 0 (fun x => yd_s (n + 1) (fun i => v 0 i * yh_e i x))) := by
      refine yd_ext_c (fun d hd r hr => ?_)
      by_cases z : d = 0
      · rw [z, yd_u_s, yd_s_one (k := r) hr (fun i hi ne => ?_)]
        · rw [show yh_e r r = 1 from if_pos rfl, Int.mul_one]
        · rw [show yh_e i r = 0 from if_neg (fun q => ne q.symm), Int.mul_zero]
      · rw [yd_u_n z]
    rw [e, yd_usum (F := yd_c (n + 1)) (yd_c_lin (n + 1)) (by omega) v (v 0) yh_e (n + 1)]
    show _ = yd_s (n + 1) (fun j => yd_g j * v 0 j * yd_d n (fun r c => v (r + 1) (yd_k j c)))
    refine yd_s_ext (fun j hj => ?_)
    rw [yd_unit j n v 0 (by omega) (by omega), yd_tr n]
    have e2 : yd_d n (fun x y => v (yd_k 0 x) (yd_k j y)) = yd_d n (fun r c => v (r + 1) (yd_k j c)) := yd_ext n _ _ (fun r _ c _ => by
      show v (yd_k 0 r) (yd_k j c) = v (r + 1) (yd_k j c)
      rw [show yd_k 0 r = r + 1 from if_neg (Nat.not_lt_zero r)])
    rw [e2, Nat.add_zero, ← Int.mul_assoc, Int.mul_comm (v 0 j)]
/-- the system of a support: its columns -/
def yi_M (a : Nat → Nat → Int) (S U k : Nat) : Nat → Nat → Int := fun c r => if c < k then (if r < k then a (yk_e S r) (yk_e U c) else if r = k then 1 else 0) else if c = k then (if r < k then -1 else 0) else if c = k + 1 then (if r = k then 1 else 0) else 0
theorem yi_M_b {a : Nat → Nat → Int} {S U o t : Nat} (hS : S < 64) (hU : U < 64) (ho : o ≤ 6) (ht : t ≤ 6) (hSo : S < 2 ^ o) (hUt : U < 2 ^ t) (hc : yb_c U = yb_c S) (ha : ∀ i, i < o → ∀ j, j < t → (a i j).natAbs ≤ 554344561) : ∀ c r, (yi_M a S U (yb_c S) c r).natAbs ≤ 554344561 := by
  intro c r
  unfold yi_M
  split
  · split
    · exact ha _ (yk_le S hS o ho hSo r (by omega)) _ (yk_le U hU t ht hUt c (by omega))
    · split <;> decide
  · split
    · split <;> decide
    · split
      · split <;> decide
      · decide
theorem yi_e (a : Nat → Nat → Int) (S U k : Nat) : ∀ r, yi_M a S U k (k + 1) r = yh_e k r := by
  intro r
  unfold yi_M yh_e
  rw [if_neg (by omega), if_neg (by omega), if_pos rfl]
/-- the last unknown is the determinant -/
theorem yi_K (a : Nat → Nat → Int) (S U : Nat) : yd_c (yb_c S + 1) (yd_u (yi_M a S U (yb_c S)) (yb_c S) (yh_e (yb_c S))) = yk_m a S U := by
  rw [yd_unit (yb_c S) (yb_c S) _ _ (Nat.le_refl _) (Nat.le_refl _), show yd_g (yb_c S + yb_c S) = 1 from if_pos (by omega), Int.one_mul, yk_mv]
  refine yd_ext_c (fun c hc r hr => ?_)
  rw [show yd_k (yb_c S) c = c from if_pos hc, show yd_k (yb_c S) r = r from if_pos hr]
  unfold yi_M yk_v
  rw [if_pos hc, if_pos hr]
theorem yd_g_odd {j : Nat} (h : j % 2 = 1) : yd_g j = -1 := if_neg (by omega)
/-- the others are the sums of cofactors -/
theorem yi_N (a : Nat → Nat → Int) (S U : Nat) {c : Nat} (hc : c < yb_c S) : yd_c (yb_c S + 1) (yd_u (yi_M a S U (yb_c S)) c (yh_e (yb_c S))) = yk_n a S U c := by
  obtain ⟨k, hk⟩ : ∃ k, k = yb_c S := ⟨_, rfl⟩
  unfold yk_n
  rw [← hk] at hc ⊢
  rw [yd_unit k k _ c (by omega) (Nat.le_refl _)]
  obtain ⟨w, hw⟩ : ∃ w : Nat → Nat → Int, w = fun x y => yi_M a S U k (yd_k c x) y := ⟨_, rfl⟩
  have e1 : yd_c k (fun x y => yi_M a S U k (yd_k c x) (yd_k k y)) = yd_c k w := by
    refine yd_ext_c (fun x _ y hy => ?_)
    rw [hw]
    show yi_M a S U k (yd_k c x) (yd_k k y) = yi_M a S U k (yd_k c x) y
    rw [show yd_k k y = y from if_pos hy]
  obtain ⟨d, hd⟩ : ∃ d, c + d = k - 1 := ⟨k - 1 - c, by omega⟩
  have ys := yd_y_s (n := k) (i := k - 1) w (fun _ => -1) (by omega) d c hd
  have e2 : yd_c k (yd_y w (fun _ => -1) (k - 1) c) = yd_c k (yd_u (yk_v a S U) c (fun _ => -1)) := by
    refine yd_ext_c (fun x hx y hy => ?_)
    unfold yd_y
    by_cases z : x = c
    · rw [if_pos z, z, yd_u_s]
    · rw [if_neg z, yd_u_n z]
      by_cases z2 : x < c
      · rw [if_pos z2, hw]
        show yi_M a S U k (yd_k c x) y = _
        rw [show yd_k c x = x from if_pos z2]
        unfold yi_M yk_v
        rw [if_pos hx, if_pos hy]
      · rw [if_neg z2, if_pos (by omega), hw]
        show yi_M a S U k (yd_k c (x - 1)) y = _
        rw [show yd_k c (x - 1) = x from (if_neg (by omega)).trans (by omega)]
        unfold yi_M yk_v
        rw [if_pos hx, if_pos hy]
  have e3 : yd_c k (yd_u w (k - 1) (fun _ => -1)) = yd_c k w := by
    refine yd_ext_c (fun x hx y hy => ?_)
    by_cases z : x = k - 1
    · rw [z, yd_u_s, hw]
      show (-1 : Int) = yi_M a S U k (yd_k c (k - 1)) y
      rw [show yd_k c (k - 1) = k from (if_neg (by omega)).trans (by omega)]
      unfold yi_M
      rw [if_neg (by omega), if_pos rfl, if_pos hy]
    · rw [yd_u_n z]
  have e4 : yd_c k (yd_u (yk_v a S U) c (fun _ => -1)) = - yd_c k (yd_u (yk_v a S U) c yd_1) := by
    have l := yd_c_lin k (yk_v a S U) c hc (-1) yd_1 (fun _ => 0)
    rw [yd_u0 (F := yd_c k) (yd_c_lin k) hc] at l
    have e : (fun r => -1 * yd_1 r + 0) = (fun _ : Nat => (-1 : Int)) := by funext r; rfl
    rw [e] at l
    rw [l]; omega
  rw [e2, e3, e4] at ys
  have g1 : yd_g (k + c) * yd_g d = -1 := by
    rw [← yd_g_add]; exact yd_g_odd (by omega)
  have g2 := yd_g_sq d
  have e5 : yd_c k w = yd_g d * (yd_g d * yd_c k w) := by rw [← Int.mul_assoc, g2, Int.one_mul]
  rw [e1, e5, ← ys, ← Int.mul_assoc, g1]
  omega
/-- the determinant of the system is their sum -/
theorem yi_D (a : Nat → Nat → Int) (S U : Nat) : yj_D (yb_c S + 1) (yi_M a S U (yb_c S)) = yd_s (yb_c S) (fun c => yk_n a S U c) := by
  unfold yj_D
  have cr := yd_cramer (n := yb_c S + 1) (ρ := yb_c S) (by omega) (yi_M a S U (yb_c S)) (yh_e (yb_c S))
  rw [show yh_e (yb_c S) (yb_c S) = 1 from if_pos rfl, Int.mul_one] at cr
  rw [cr]
  show yd_s (yb_c S) _ + yd_c (yb_c S + 1) (yd_u (yi_M a S U (yb_c S)) (yb_c S) (yh_e (yb_c S))) * yi_M a S U (yb_c S) (yb_c S) (yb_c S) = _
  rw [show yi_M a S U (yb_c S) (yb_c S) (yb_c S) = 0 by unfold yi_M; rw [if_neg (by omega), if_pos rfl, if_neg (by omega)], Int.mul_zero, Int.add_zero]
  refine yd_s_ext (fun c hc => ?_)
  rw [yi_N a S U hc, show yi_M a S U (yb_c S) c (yb_c S) = 1 by unfold yi_M; rw [if_pos hc, if_neg (by omega), if_pos rfl], Int.mul_one]
/-- an unknown, times the determinant -/
def yi_X (a : Nat → Nat → Int) (S U c : Nat) : Int := if c < yb_c S then yk_n a S U c else yk_m a S U
theorem yi_T {a : Nat → Nat → Int} {S U c : Nat} (h6 : yb_c S ≤ 6) (hc : c < yb_c S + 1) : yh_T (yb_c S + 1) (yj_a (yi_M a S U (yb_c S))) (fun i => i) c (yb_c S + 1) = yi_X a S U c := by
  have e : yh_T (yb_c S + 1) (yj_a (yi_M a S U (yb_c S))) (fun i => i) c (yb_c S + 1) = yd_c (yb_c S + 1) (yd_u (yi_M a S U (yb_c S)) c (yh_e (yb_c S))) := by
    unfold yh_T
    refine yd_ext_c (fun x hx y hy => ?_)
    by_cases z : x = c
    · rw [z, yd_u_s, yd_u_s]
      unfold yj_a
      rw [if_pos (by omega)]
      exact yi_e a S U _ y
    · rw [yd_u_n z, yd_u_n z]
      unfold yh_c yj_a
      rw [if_pos (show x < 8 by omega)]
  rw [e]
  unfold yi_X
  by_cases z : c < yb_c S
  · rw [if_pos z]; exact yi_N a S U z
  · rw [if_neg z, show c = yb_c S by omega]; exact yi_K a S U
/-- the way back: one unknown out of those behind it -/
theorem yi_back {R C k9 : Nat} {M : Nat → Nat → Int} {r : Nat} {N : Nat → Int} {s : Int} {X : Nat → Int} (h : yj_r R C M r N) (hs : s = 1 ∨ s = -1) (hr : r < R) (hRC : R ≤ C) (hk : k9 < C) (hk2 : r ≤ k9) (hC : C ≤ 8) (hX : ∀ j, j < R → X j = yh_T R (yj_a M) (fun i => i) j k9) : N (240 + 8 * r + k9) * (s * yj_D R M) - yd_s R (fun j => if r < j then N (240 + 8 * r + j) * (s * X j) else 0) = (s * X r) * N (240 + 8 * r + r) := by
  obtain ⟨bs, s2, q1, q2, q3, q4⟩ := h
  have f := yh_F (R := R) (a := yj_a M) (bs := bs) (bt := fun i => i) (k := r) (c := k9) hr
  rw [yj_id (by omega) (fun _ _ => rfl)] at f
  have g : yd_s R (fun j => yh_T R (yj_a M) (fun i => i) j k9 * yh_T R (yj_a M) bs r j) = yd_s R (fun j => (if j = r then X r * yh_T R (yj_a M) bs r r else 0) + (if r < j then X j * yh_T R (yj_a M) bs r j else 0)) := by
    refine yd_s_ext (fun j hj => ?_)
    rw [← hX j hj]
    by_cases z : j = r
    · rw [if_pos z, if_neg (by omega), z, Int.add_zero]
    · by_cases z2 : r < j
      · rw [if_neg z, if_pos z2, Int.zero_add]
      · rw [if_neg z, if_neg z2]
        have : yh_T R (yj_a M) bs r j = 0 := by
          have := yh_To (a := yj_a M) (bs := bs) hr hj (show r ≠ j by omega)
          rw [q2 j (by omega)] at this
          exact this
        rw [this, Int.mul_zero]; rfl
  rw [g, yd_s_add, yd_s_one (k := r) hr (fun i _ hi => if_neg hi), if_pos rfl] at f
  have e2 : yd_s R (fun j => if r < j then N (240 + 8 * r + j) * (s * X j) else 0) = (s2 * s) * yd_s R (fun j => if r < j then X j * yh_T R (yj_a M) bs r j else 0) := by
    rw [← yd_s_mul]
    refine yd_s_ext (fun j hj => ?_)
    by_cases z : r < j
    · rw [if_pos z, if_pos z, q3 j (by omega) (by omega)]
      rw [Int.mul_assoc, Int.mul_left_comm (yh_T R (yj_a M) bs r j), Int.mul_assoc, Int.mul_comm (yh_T R (yj_a M) bs r j)]
    · rw [if_neg z, if_neg z, Int.mul_zero]
  rw [e2, q3 k9 (by omega) hk, q3 r (Nat.le_refl _) (by omega)]
  rw [show s2 * yh_T R (yj_a M) bs r k9 * (s * yj_D R M) = s2 * s * (yj_D R M * yh_T R (yj_a M) bs r k9) by rw [Int.mul_assoc, Int.mul_left_comm (yh_T R (yj_a M) bs r k9), Int.mul_assoc, Int.mul_comm (yh_T R (yj_a M) bs r k9)], f, ← Int.mul_sub]
  rw [show X r * yh_T R (yj_a M) bs r r + yd_s R (fun j => if r < j then X j * yh_T R (yj_a M) bs r j else 0) - yd_s R (fun j => if r < j then X j * yh_T R (yj_a M) bs r j else 0) = X r * yh_T R (yj_a M) bs r r by omega]
  rw [Int.mul_assoc, Int.mul_assoc, Int.mul_left_comm s2, Int.mul_left_comm s2]
