/-! ===== the members of a set of bits; the class's minors ===== -/
def yk_l (S : Nat) : List Nat := (List.range 6).filter (fun i => Nat.testBit S i)
/-- its r-th member -/
def yk_e (S r : Nat) : Nat := (yk_l S).getD r 0
/-- how many members are below i -/
def yk_x (S i : Nat) : Nat := yb_c (S % 2 ^ i)
theorem yk_e6 : ∀ S, S < 64 → ∀ r, r < yb_c S → yk_e S r < 6 := by decide +kernel
theorem yk_et : ∀ S, S < 64 → ∀ r, r < yb_c S → Nat.testBit S (yk_e S r) = true := by decide +kernel
theorem yb_c6 : ∀ S, S < 64 → yb_c S ≤ 6 := by decide +kernel
theorem yk_ex : ∀ S, S < 64 → ∀ i, i < 6 → Nat.testBit S i = true → yk_e S (yk_x S i) = i := by decide +kernel
theorem yk_xt : ∀ S, S < 64 → ∀ i, i < 6 → Nat.testBit S i = true → yk_x S (i + 1) = yk_x S i + 1 := by decide +kernel
theorem yk_xf : ∀ S, S < 64 → ∀ i, i < 6 → Nat.testBit S i = false → yk_x S (i + 1) = yk_x S i := by decide +kernel
theorem yk_xl : ∀ S, S < 64 → ∀ i, i < 6 → Nat.testBit S i = true → yk_x S i < yb_c S := by decide +kernel
theorem yk_x6 : ∀ S, S < 64 → yk_x S 6 = yb_c S := by decide +kernel
theorem yk_x0 (S : Nat) : yk_x S 0 = 0 := by unfold yk_x; rw [Nat.pow_zero, Nat.mod_one]; rfl
theorem yk_xe : ∀ S, S < 64 → ∀ r, r < yb_c S → yk_x S (yk_e S r) = r := by decide +kernel
/-- a set without a member -/
theorem yk_d6 : ∀ S, S < 64 → ∀ i, i < 6 → Nat.testBit S i = true → 2 ^ i ≤ S := by decide +kernel
theorem yk_dc : ∀ S, S < 64 → ∀ i, i < 6 → Nat.testBit S i = true → yb_c (S - 2 ^ i) + 1 = yb_c S := by decide +kernel
theorem yk_de : ∀ S, S < 64 → ∀ j, j < yb_c S → ∀ c, c < yb_c S - 1 → yk_e (S - 2 ^ yk_e S j) c = yk_e S (yd_k j c) := by decide +kernel
theorem yk_dn : ∀ S, S < 64 → ∀ i, i < 6 → Nat.testBit S i = true → nI S &&& (((1 : Int32) <<< (nI i &&& 31)) ^^^ -1) = nI (S - 2 ^ i) := by decide +kernel
theorem yk_z0 : ∀ S, S < 64 → S ≠ 0 → yb_z S = yk_e S 0 ∧ 0 < yb_c S := by decide +kernel
theorem yk_lo : ∀ S, S < 64 → S ≠ 0 → nI S &&& (nI S - 1) = nI (S - 2 ^ yb_z S) := by decide +kernel
theorem yk_le : ∀ S, S < 64 → ∀ o, o ≤ 6 → S < 2 ^ o → ∀ r, r < yb_c S → yk_e S r < o := by decide +kernel
/-- where a set stands among those of its size -/
def yk_c (S : Nat) : Nat → Nat
  | 0 => 0
  | n + 1 => yk_c S n + if yb_c n = yb_c S then 1 else 0
def yk_r (S : Nat) : Nat := yk_c S S
def yk_st (k : Nat) : Nat := match k with | 0 => 0 | 1 => 1 | 2 => 37 | 3 => 262 | 4 => 662 | 5 => 887 | _ => 923
def yk_se (k : Nat) : Nat := match k with | 0 => 1 | 1 => 6 | 2 => 15 | 3 => 20 | 4 => 15 | 5 => 6 | _ => 1
def yk_p (S T : Nat) : Nat := (yk_st (yb_c S) + yk_r S * yk_se (yb_c S) + yk_r T) * 6
theorem yk_rl : ∀ S, S < 64 → yk_r S < yk_se (yb_c S) := by decide +kernel
theorem yk_ru : ∀ S, S < 64 → ∀ T, T < 64 → yb_c S = yb_c T → yk_r S = yk_r T → S = T := by decide +kernel
theorem yk_stl : ∀ k, k < 7 → ∀ j, j < 7 → k < j → yk_st k + yk_se k * yk_se k ≤ yk_st j := by decide +kernel
theorem yk_sta : ∀ k, k < 7 → yk_st k + yk_se k * yk_se k ≤ 924 := by decide +kernel
theorem yk_pin {S T : Nat} (hS : S < 64) (hT : T < 64) (hc : yb_c T = yb_c S) : yk_st (yb_c S) ≤ yk_st (yb_c S) + yk_r S * yk_se (yb_c S) + yk_r T ∧ yk_st (yb_c S) + yk_r S * yk_se (yb_c S) + yk_r T < yk_st (yb_c S) + yk_se (yb_c S) * yk_se (yb_c S) := by
  have h1 := yk_rl S hS
  have h2 := yk_rl T hT
  rw [hc] at h2
  have h3 : (yk_r S + 1) * yk_se (yb_c S) ≤ yk_se (yb_c S) * yk_se (yb_c S) := Nat.mul_le_mul_right _ h1
  rw [Nat.add_mul, Nat.one_mul] at h3
  omega
theorem yk_pl {S T : Nat} (hS : S < 64) (hT : T < 64) (hc : yb_c T = yb_c S) : yk_p S T + 6 ≤ 5544 := by
  have h1 := yk_pin hS hT hc
  have h2 := yk_sta (yb_c S) (by have := yb_c6 S hS; omega)
  unfold yk_p
  omega
/-- different pairs stand apart -/
theorem yk_pd {S T U V : Nat} (hS : S < 64) (hT : T < 64) (hU : U < 64) (hV : V < 64) (hc : yb_c T = yb_c S) (hd : yb_c V = yb_c U) (ne : ¬ (S = U ∧ T = V)) : yk_p S T + 6 ≤ yk_p U V ∨ yk_p U V + 6 ≤ yk_p S T := by
  have a1 := yk_pin hS hT hc
  have a2 := yk_pin hU hV hd
  have k1 := yb_c6 S hS
  have k2 := yb_c6 U hU
  have key : yk_st (yb_c S) + yk_r S * yk_se (yb_c S) + yk_r T ≠ yk_st (yb_c U) + yk_r U * yk_se (yb_c U) + yk_r V := by
    intro e
    rcases Nat.lt_trichotomy (yb_c S) (yb_c U) with z | z | z
    · have := yk_stl _ (by omega) _ (by omega) z; omega
    · rw [z] at e
      have r1 := yk_rl T hT
      have r2 := yk_rl V hV
      rw [hc, z] at r1
      rw [hd] at r2
      have e2 : yk_r T + yk_se (yb_c U) * yk_r S = yk_r V + yk_se (yb_c U) * yk_r U := by rw [Nat.mul_comm (yk_se (yb_c U)) (yk_r S), Nat.mul_comm (yk_se (yb_c U)) (yk_r U)]; omega
      have e3 := congrArg (fun x => x / yk_se (yb_c U)) e2
      have e4 := congrArg (fun x => x % yk_se (yb_c U)) e2
      rw [Nat.add_mul_div_left _ _ (by omega), Nat.add_mul_div_left _ _ (by omega), Nat.div_eq_of_lt r1, Nat.div_eq_of_lt r2] at e3
      rw [Nat.add_mul_mod_self_left, Nat.add_mul_mod_self_left, Nat.mod_eq_of_lt r1, Nat.mod_eq_of_lt r2] at e4
      exact ne ⟨yk_ru S hS U hU z (by omega), yk_ru T hT V hV (by rw [hc, hd, z]) e4⟩
    · have := yk_stl _ (by omega) _ (by omega) z; omega
  unfold yk_p
  omega
/-- the minor of two sets -/
def yk_m (a : Nat → Nat → Int) (S T : Nat) : Int := yd_d (yb_c S) (fun r c => a (yk_e S r) (yk_e T c))
theorem yk_m0 (a : Nat → Nat → Int) : yk_m a 0 0 = 1 := rfl
theorem yk_ms {a : Nat → Nat → Int} {S T : Nat} (hS : S < 64) (hT : T < 64) (h0 : S ≠ 0) (hc : yb_c T = yb_c S) : yk_m a S T = yd_s (yb_c T) (fun j => yd_g j * a (yk_e S 0) (yk_e T j) * yk_m a (S - 2 ^ yk_e S 0) (T - 2 ^ yk_e T j)) := by
  obtain ⟨z1, z2⟩ := yk_z0 S hS h0
  obtain ⟨k, hk⟩ : ∃ k, yb_c S = k + 1 := ⟨yb_c S - 1, by omega⟩
  have e0 := yk_e6 S hS 0 z2
  have t0 := yk_et S hS 0 z2
  have c1 := yk_dc S hS (yk_e S 0) e0 t0
  unfold yk_m
  rw [hc, hk]
  show yd_s (k + 1) _ = _
  refine yd_s_ext (fun j hj => ?_)
  congr 1
  rw [show yb_c (S - 2 ^ yk_e S 0) = k by omega]
  refine yd_ext k _ _ (fun r hr c hc2 => ?_)
  rw [yk_de S hS 0 z2 r (by omega), show yd_k 0 r = r + 1 from if_neg (Nat.not_lt_zero r), yk_de T hT j (by omega) c (by omega)]
theorem yk_b {a : Nat → Nat → Int} {S T o t : Nat} (hS : S < 64) (hT : T < 64) (hc : yb_c T = yb_c S) (ho : o ≤ 6) (ht : t ≤ 6) (hSo : S < 2 ^ o) (hTt : T < 2 ^ t) (ha : ∀ i, i < o → ∀ j, j < t → (a i j).natAbs ≤ 554344561) : (yk_m a S T).natAbs < 2 ^ 184 := by
  refine Nat.lt_of_le_of_lt (yd_bd (K := 554344561) (yb_c S) _ (fun r hr c hc2 => ha _ (yk_le S hS o ho hSo r hr) _ (yk_le T hT t ht hTt c (by omega)))) ?_
  have : ∀ k, k < 7 → yd_f k * 554344561 ^ k < 2 ^ 184 := by decide +kernel
  exact this _ (by have := yb_c6 S hS; omega)
/-- the columns of two sets -/
def yk_v (a : Nat → Nat → Int) (S T : Nat) : Nat → Nat → Int := fun c r => a (yk_e S r) (yk_e T c)
theorem yk_mv {a : Nat → Nat → Int} {S T : Nat} : yk_m a S T = yd_c (yb_c S) (yk_v a S T) := rfl
/-- the sums of cofactors -/
def yk_n (a : Nat → Nat → Int) (S T c : Nat) : Int := yd_c (yb_c S) (yd_u (yk_v a S T) c yd_1)
theorem yk_ns {a : Nat → Nat → Int} {S T c : Nat} (hS : S < 64) (hT : T < 64) (hc : yb_c T = yb_c S) (hj : c < yb_c T) : yk_n a S T c = yd_s (yb_c S) (fun r => yd_g (r + c) * yk_m a (S - 2 ^ yk_e S r) (T - 2 ^ yk_e T c)) := by
  obtain ⟨k, hk⟩ : ∃ k, yb_c S = k + 1 := ⟨yb_c S - 1, by omega⟩
  unfold yk_n
  rw [hk, yd_ones (by omega)]
  refine yd_s_ext (fun r hr => ?_)
  congr 1
  have e0 := yk_e6 S hS r (by omega)
  have t0 := yk_et S hS r (by omega)
  have c1 := yk_dc S hS (yk_e S r) e0 t0
  unfold yk_m
  rw [show yb_c (S - 2 ^ yk_e S r) = k by omega]
  show yd_d k (fun y x => a (yk_e S (yd_k r y)) (yk_e T (yd_k c x))) = _
  refine yd_ext k _ _ (fun y hy x hx => ?_)
  rw [yk_de S hS r (by omega) y (by omega), yk_de T hT c hj x (by omega)]
theorem yk_nb {a : Nat → Nat → Int} {S T o t c : Nat} (hS : S < 64) (hT : T < 64) (hc : yb_c T = yb_c S) (hj : c < yb_c T) (ho : o ≤ 6) (ht : t ≤ 6) (hSo : S < 2 ^ o) (hTt : T < 2 ^ t) (ha : ∀ i, i < o → ∀ j, j < t → (a i j).natAbs ≤ 554344561) : (yk_n a S T c).natAbs < 2 ^ 160 := by
  obtain ⟨k, hk⟩ : ∃ k, yb_c S = k + 1 := ⟨yb_c S - 1, by omega⟩
  unfold yk_n
  rw [hk]
  refine Nat.lt_of_le_of_lt (yd_ones_b (K := 554344561) (by omega) (fun d hd _ r hr => ha _ (yk_le S hS o ho hSo r (by omega)) _ (yk_le T hT t ht hTt d (by omega)))) ?_
  have : ∀ k, k < 6 → (k + 1) * (yd_f k * 554344561 ^ k) < 2 ^ 160 := by decide +kernel
  exact this _ (by have := yb_c6 S hS; omega)
/-- Cramer: a row's payoff against the sums is the determinant -/
theorem yk_cr {a : Nat → Nat → Int} {S T r : Nat} (hr : r < yb_c S) : yk_m a S T = yd_s (yb_c S) (fun c => yk_n a S T c * a (yk_e S r) (yk_e T c)) := by
  have := yd_cramer (n := yb_c S) (ρ := r) hr (yk_v a S T) yd_1
  rw [show yd_1 r = 1 from rfl, Int.mul_one] at this
  exact this
/-- the excess of a row beside -/
def yk_ex9 (a : Nat → Nat → Int) (S T row : Nat) : Int := yd_s (yb_c T) (fun c => yk_n a S T c * a row (yk_e T c)) - yk_m a S T
theorem yk_exb {a : Nat → Nat → Int} {S T o t row : Nat} (hS : S < 64) (hT : T < 64) (hc : yb_c T = yb_c S) (ho : o ≤ 6) (ht : t ≤ 6) (hSo : S < 2 ^ o) (hTt : T < 2 ^ t) (hrow : row < o) (ha : ∀ i, i < o → ∀ j, j < t → 0 ≤ a i j ∧ (a i j).natAbs ≤ 554344561) : (yk_ex9 a S T row).natAbs < 2 ^ 184 := by
  have k6 := yb_c6 S hS
  obtain ⟨k, hk⟩ : ∃ k, k = yb_c S := ⟨_, rfl⟩
  -- the columns with the row beside below them, the ones last
  have hv : ∀ c r, c < k → r ≤ k → 0 ≤ (if r < k then yk_v a S T c r else a row (yk_e T c)) ∧ (if r < k then yk_v a S T c r else a row (yk_e T c)).natAbs ≤ 554344561 := by
    intro c r hc2 hr
    by_cases z : r < k
    · rw [if_pos z]; exact ha _ (yk_le S hS o ho hSo r (by omega)) _ (yk_le T hT t ht hTt c (by omega))
    · rw [if_neg z]; exact ha _ hrow _ (yk_le T hT t ht hTt c (by omega))
  have e1 : yk_ex9 a S T row = - yd_c (k + 1) (yd_u (fun c r => if r < k then yk_v a S T c r else a row (yk_e T c)) k yd_1) := by
    rw [yd_excess]
    unfold yk_ex9
    rw [hc, yk_mv, ← hk]
    have q1 : yd_c k (fun c r => if r < k then yk_v a S T c r else a row (yk_e T c)) = yd_c k (yk_v a S T) := yd_ext_c (fun c _ r hr => if_pos hr)
    have q2 : yd_s k (fun i => yd_c k (yd_u (fun c r => if r < k then yk_v a S T c r else a row (yk_e T c)) i yd_1) * (fun c r => if r < k then yk_v a S T c r else a row (yk_e T c)) i k) = yd_s k (fun c => yk_n a S T c * a row (yk_e T c)) := by
      refine yd_s_ext (fun i hi => ?_)
      dsimp only
      rw [if_neg (Nat.lt_irrefl k)]
      congr 1
      unfold yk_n
      rw [← hk]
      refine yd_ext_c (fun c _ r hr => ?_)
      by_cases z : c = i
      · rw [z, yd_u_s, yd_u_s]
      · rw [yd_u_n z, yd_u_n z, if_pos hr]
    rw [q1, q2]
    omega
  have e2 := yd_shift (n := k + 1) (c := k) (by omega) 277172280 (k + 1) (Nat.le_refl _) (yd_u (fun c r => if r < k then yk_v a S T c r else a row (yk_e T c)) k yd_1) yd_u_s
  rw [e1, Int.natAbs_neg, e2]
  have e3 : yd_c (k + 1) (fun d r => if d < k + 1 ∧ d ≠ k then yd_u (fun c r => if r < k then yk_v a S T c r else a row (yk_e T c)) k yd_1 d r - 277172280 else yd_u (fun c r => if r < k then yk_v a S T c r else a row (yk_e T c)) k yd_1 d r) = yd_c (k + 1) (yd_u (fun d r => (if r < k then yk_v a S T d r else a row (yk_e T d)) - 277172280) k yd_1) := by
    refine yd_ext_c (fun d hd r hr => ?_)
    by_cases z : d = k
    · subst z; rw [if_neg (fun q => q.2 rfl), yd_u_s, yd_u_s]
    · rw [if_pos ⟨hd, z⟩, yd_u_n z, yd_u_n z]
  rw [e3]
  refine Nat.lt_of_le_of_lt (yd_ones_b (K := 277172281) (Nat.le_refl _) (fun d hd ne r hr => ?_)) ?_
  · have := hv d r (by omega) hr
    omega
  · have : ∀ k, k < 7 → (k + 1) * (yd_f k * 277172281 ^ k) < 2 ^ 184 := by decide +kernel
    exact this k (by omega)
