/-! ===== payoffs: reduced fractions, their multiple, their wholes ===== -/
def yl_D (x : Int) (d : Nat) : Nat := d / Nat.gcd x.natAbs d
def yl_A (x : Int) (d : Nat) : Int := x / ((Nat.gcd x.natAbs d : Nat) : Int)
theorem yl_g0 {x : Int} {d : Nat} (h : 1 ≤ d) : 0 < Nat.gcd x.natAbs d := Nat.gcd_pos_of_pos_right _ h
theorem yl_Dm {x : Int} {d : Nat} : yl_D x d * Nat.gcd x.natAbs d = d := Nat.div_mul_cancel (Nat.gcd_dvd_right _ _)
theorem yl_Am {x : Int} {d : Nat} : yl_A x d * ((Nat.gcd x.natAbs d : Nat) : Int) = x := Int.ediv_mul_cancel (Int.dvd_trans (Int.natCast_dvd_natCast.mpr (Nat.gcd_dvd_left x.natAbs d)) (Int.natAbs_dvd.mpr (Int.dvd_refl x)))
theorem yl_D1 {x : Int} {d : Nat} (h : 1 ≤ d) : 1 ≤ yl_D x d := Nat.div_pos (Nat.gcd_le_right _ h) (yl_g0 h)
theorem yl_Dl {x : Int} {d : Nat} : yl_D x d ≤ d := Nat.div_le_self _ _
theorem yl_Al {x : Int} {d : Nat} (h : 1 ≤ d) : (yl_A x d).natAbs ≤ x.natAbs := by
  have e : x.natAbs = (yl_A x d).natAbs * Nat.gcd x.natAbs d := by
    have := congrArg Int.natAbs (yl_Am (x := x) (d := d))
    rw [Int.natAbs_mul, Int.natAbs_natCast] at this
    exact this.symm
  have g := yl_g0 (x := x) h
  have : (yl_A x d).natAbs * 1 ≤ (yl_A x d).natAbs * Nat.gcd x.natAbs d := Nat.mul_le_mul_left _ g
  omega
/-- the least common multiple -/
def yl_is (D : Nat → Nat) (n mu : Nat) : Prop := 0 < mu ∧ (∀ k, k < n → D k ∣ mu) ∧ ∀ x, (∀ k, k < n → D k ∣ x) → mu ∣ x
theorem yl_is0 (D : Nat → Nat) : yl_is D 0 1 := ⟨by decide, fun k hk => absurd hk (Nat.not_lt_zero k), fun x _ => Nat.one_dvd x⟩
theorem yl_iss {D : Nat → Nat} {n mu : Nat} (h : yl_is D n mu) (hd : 1 ≤ D n) : yl_is D (n + 1) (Nat.lcm mu (D n)) := by
  refine ⟨Nat.lcm_pos h.1 hd, fun k hk => ?_, fun x hx => Nat.lcm_dvd (h.2.2 x (fun k hk => hx k (by omega))) (hx n (by omega))⟩
  by_cases e : k = n
  · rw [e]; exact Nat.dvd_lcm_right _ _
  · exact Nat.dvd_trans (h.2.1 k (by omega)) (Nat.dvd_lcm_left _ _)
theorem yl_uni {D E : Nat → Nat} {n mu nu : Nat} (h : yl_is D n mu) (h2 : yl_is E n nu) (e1 : ∀ k, k < n → ∃ j, j < n ∧ D k = E j) (e2 : ∀ k, k < n → ∃ j, j < n ∧ E k = D j) : mu = nu := by
  refine Nat.dvd_antisymm (h.2.2 nu (fun k hk => ?_)) (h2.2.2 mu (fun k hk => ?_))
  · obtain ⟨j, hj, e⟩ := e1 k hk; rw [e]; exact h2.2.1 j hj
  · obtain ⟨j, hj, e⟩ := e2 k hk; rw [e]; exact h.2.1 j hj
theorem yl_d12 : ∀ d, d < 13 → 1 ≤ d → d ∣ 27720 := by decide
theorem yl_le {D : Nat → Nat} {n mu : Nat} (h : yl_is D n mu) (hD : ∀ k, k < n → 1 ≤ D k ∧ D k ≤ 12) : mu ≤ 27720 := Nat.le_of_dvd (by decide) (h.2.2 27720 (fun k hk => yl_d12 _ (by have := hD k hk; omega) (hD k hk).1))
theorem yl_w_b {a : Int} {mu d : Nat} (ha : a.natAbs ≤ 9999) (hm : mu ≤ 27720) : (a * ((mu / d : Nat) : Int)).natAbs ≤ 277172280 := by
  rw [Int.natAbs_mul, Int.natAbs_natCast]
  exact Nat.le_trans (Nat.mul_le_mul ha (Nat.le_trans (Nat.div_le_self _ _) hm)) (by decide)
/-- the least -/
def yl_min (w : Nat → Nat → Int) (o t : Nat) (le : Int) : Prop := (∃ i j, i < o ∧ j < t ∧ le = w i j) ∧ ∀ i, i < o → ∀ j, j < t → le ≤ w i j
theorem yl_minu {w : Nat → Nat → Int} {o t : Nat} {x y : Int} (h : yl_min w o t x) (h2 : yl_min w o t y) : x = y := by
  obtain ⟨⟨i, j, hi, hj, e⟩, a⟩ := h
  obtain ⟨⟨k, l, hk, hl, e2⟩, c⟩ := h2
  have h3 := a k hk l hl
  have h4 := c i hi j hj
  omega
/-! the class's numbers -/
theorem xx_cdN : ∀ (n x y : Nat), y < n → x < 2 ^ 31 → y < 2 ^ 31 → xx_cd n (nI x) (nI y) = nI (Nat.gcd x y)
  | 0, x, y, h, _, _ => absurd h (Nat.not_lt_zero y)
  | n + 1, x, y, h, hx, hy => by
    show (if nI y = 0 then nI x else xx_cd n (nI y) (nI x - nI x / nI y * nI y)) = _
    by_cases e : y = 0
    · subst e
      rw [if_pos (show nI 0 = 0 from rfl), Nat.gcd_zero_right]
    · have m1 := Nat.mod_lt x (show 0 < y by omega)
      rw [if_neg (nI_ne0 (by omega) hy), pk_rem hx (by omega) hy, xx_cdN n y (x % y) (by omega) hy (by omega), Nat.gcd_comm x y, Nat.gcd_rec y x, Nat.gcd_comm]
theorem xx_m1N {g : Nat} (h : 1 ≤ g) (h2 : g < 2 ^ 31) : xx_m1 (nI g) = nI g := by
  unfold xx_m1
  by_cases e : g = 1
  · subst e; rw [if_neg (by decide)]; rfl
  · rw [if_pos (show (1 : Int32) < nI g from (nI_ltI (a := 1) (b := g) (by decide) h2).mpr (by omega))]
theorem yy_lcmN {D : Nat → Nat} {b : Nat → Int32} : ∀ {n : Nat}, (∀ k, k < n → 1 ≤ D k ∧ D k ≤ 12 ∧ b k = nI (D k)) → ∃ mu, yy_lcm b n = nI mu ∧ yl_is D n mu
  | 0, _ => ⟨1, rfl, yl_is0 D⟩
  | n + 1, h => by
    obtain ⟨mu, e, hi⟩ := yy_lcmN (n := n) (fun k hk => h k (by omega))
    obtain ⟨d1, d2, d3⟩ := h n (by omega)
    have mb := yl_le hi (fun k hk => by have := h k (by omega); omega)
    have g0 : 0 < Nat.gcd mu (D n) := Nat.gcd_pos_of_pos_right _ d1
    have g1 : Nat.gcd mu (D n) ≤ D n := Nat.gcd_le_right _ d1
    refine ⟨Nat.lcm mu (D n), ?_, yl_iss hi d1⟩
    show yy_lcm b n * (b n / xx_m1 (xx_cd 100 (yy_lcm b n) (b n))) = _
    rw [e, d3, xx_cdN 100 mu (D n) (by omega) (by omega) (by omega), xx_m1N g0 (by omega), pk_div (by omega) g0 (by omega), pk_mul]
    congr 1
    rw [← Nat.mul_div_assoc _ (Nat.gcd_dvd_right _ _)]
    rfl
theorem iz_divN {x : Int} {d : Nat} (hx : x.natAbs < 2 ^ 31) (h0 : 0 < d) (hd : d < 2 ^ 31) (hv : ((d : Nat) : Int) ∣ x) : iz x / nI d = iz (x / (d : Int)) := by
  have ed : (nI d).toInt = (d : Int) := iz_toInt (z := (d : Int)) (by omega) (by omega)
  obtain ⟨q, hq⟩ := hv
  have e1 : x / (d : Int) = q := by rw [hq]; exact Int.mul_ediv_cancel_left q (by omega)
  have q1 : q.natAbs ≤ x.natAbs := by
    rw [hq, Int.natAbs_mul, Int.natAbs_natCast]
    exact Nat.le_mul_of_pos_left _ h0
  apply Int32.toInt_inj.mp
  rw [Int32.toInt_div, iz_toInt (by omega) (by omega), ed, e1, iz_toInt (by omega) (by omega), hq, Int.mul_tdiv_cancel_left q (by omega)]
  rw [Int.bmod_def]
  have : q < 2147483648 := by omega
  have : -2147483648 ≤ q := by omega
  omega
/-- the wholes and the least, once some cells are done -/
def yl_do (w : Nat → Nat → Int) (done : Nat → Nat → Prop) (s : (Nat → Int32) × Int32) : Prop := (∀ i j, j < 6 → done i j → s.1 (i * 6 + j) = iz (w i j)) ∧ ∃ v : Int, s.2 = iz v ∧ v ≤ 2147483647 ∧ -277172280 ≤ v ∧ (∀ i j, done i j → v ≤ w i j) ∧ (v = 2147483647 ∨ ∃ i j, done i j ∧ v = w i j)
theorem xx_ws_do {a b : Nat → Int32} {m : Int32} {w : Nat → Nat → Int} {done : Nat → Nat → Prop} {s : (Nat → Int32) × Int32} {i j : Nat} (h : yl_do w done s) (hj : j < 6) (e : a (i * 6 + j) * (m / xx_m1 (b (i * 6 + j))) = iz (w i j)) (hw : (w i j).natAbs ≤ 277172280) (hd : ∀ k l, done k l → l < 6) : yl_do w (fun k l => done k l ∨ (k = i ∧ l = j)) (xx_ws a b m (i * 6 + j) s) := by
  obtain ⟨h1, v, h2, h3, h4, h5, h6⟩ := h
  unfold xx_ws
  rw [e, h2]
  refine ⟨fun k l hl hk => ?_, ?_⟩
  · show upd s.1 (i * 6 + j) (iz (w i j)) (k * 6 + l) = _
    by_cases z : k = i ∧ l = j
    · rw [z.1, z.2, pk_us]
    · rw [pk_un (by omega)]
      exact h1 k l hl (hk.resolve_right z)
  · show ∃ v2 : Int, (if iz (w i j) < iz v then iz (w i j) else iz v) = iz v2 ∧ _
    by_cases z : w i j < v
    · refine ⟨w i j, by rw [if_pos ((iz_lt (by omega) (by omega) (by omega) (by omega)).mpr z)], by omega, by omega, fun k l hk => ?_, Or.inr ⟨i, j, Or.inr ⟨rfl, rfl⟩, rfl⟩⟩
      rcases hk with hk | ⟨e1, e2⟩
      · have := h5 k l hk; omega
      · rw [e1, e2]; exact Int.le_refl _
    · refine ⟨v, by rw [if_neg (fun q => z ((iz_lt (by omega) (by omega) (by omega) (by omega)).mp q))], h3, h4, fun k l hk => ?_, ?_⟩
      · rcases hk with hk | ⟨e1, e2⟩
        · exact h5 k l hk
        · rw [e1, e2]; omega
      · rcases h6 with h6 | ⟨k, l, hk, e9⟩
        · exact Or.inl h6
        · exact Or.inr ⟨k, l, Or.inl hk, e9⟩
theorem yl_do_cg {w : Nat → Nat → Int} {p q : Nat → Nat → Prop} {s : (Nat → Int32) × Int32} (h : yl_do w p s) (e : ∀ i j, p i j ↔ q i j) : yl_do w q s := by
  obtain ⟨h1, v, h2, h3, h4, h5, h6⟩ := h
  refine ⟨fun i j hj hq => h1 i j hj ((e i j).mpr hq), v, h2, h3, h4, fun i j hq => h5 i j ((e i j).mpr hq), ?_⟩
  rcases h6 with h6 | ⟨k, l, hk, e9⟩
  · exact Or.inl h6
  · exact Or.inr ⟨k, l, (e k l).mp hk, e9⟩
theorem xx_wi_do {a b : Nat → Int32} {m : Int32} {w : Nat → Nat → Int} {s : (Nat → Int32) × Int32} {r t : Nat} (ht : t ≤ 6) (e : ∀ j, j < t → a (r * 6 + j) * (m / xx_m1 (b (r * 6 + j))) = iz (w r j) ∧ (w r j).natAbs ≤ 277172280) (h : yl_do w (fun i j => i < r ∧ j < t) s) : ∀ k, k ≤ t → yl_do w (fun i j => (i < r ∧ j < t) ∨ (i = r ∧ j < k)) (xx_wi a b m r k s)
  | 0, _ => yl_do_cg h (fun i j => ⟨fun z => Or.inl z, fun z => z.resolve_right (fun q => absurd q.2 (Nat.not_lt_zero j))⟩)
  | k + 1, hk => by
    have ih := xx_wi_do ht e h k (by omega)
    refine yl_do_cg (xx_ws_do (i := r) (j := k) ih (by omega) (e k (by omega)).1 (e k (by omega)).2 (fun k l hd => by omega)) (fun i j => ?_)
    constructor
    · rintro ((z | z) | z)
      · exact Or.inl z
      · exact Or.inr ⟨z.1, by omega⟩
      · exact Or.inr ⟨z.1, by omega⟩
    · rintro (z | z)
      · exact Or.inl (Or.inl z)
      · by_cases q : j = k
        · exact Or.inr ⟨z.1, q⟩
        · exact Or.inl (Or.inr ⟨z.1, by omega⟩)
theorem xx_wo_do {a b : Nat → Int32} {m : Int32} {w : Nat → Nat → Int} {f : Nat → Int32} {o t : Nat} (ht : t ≤ 6) (e : ∀ i, i < o → ∀ j, j < t → a (i * 6 + j) * (m / xx_m1 (b (i * 6 + j))) = iz (w i j) ∧ (w i j).natAbs ≤ 277172280) : ∀ r, r ≤ o → yl_do w (fun i j => i < r ∧ j < t) (xx_wo a b m t r (f, 2147483647))
  | 0, _ => ⟨fun i j _ h => absurd h.1 (Nat.not_lt_zero i), 2147483647, rfl, Int.le_refl _, by decide, fun i j h => absurd h.1 (Nat.not_lt_zero i), Or.inl rfl⟩
  | r + 1, hr => by
    have ih := xx_wo_do (f := f) ht e r (by omega)
    refine yl_do_cg (xx_wi_do ht (fun j hj => e r (by omega) j hj) ih t (Nat.le_refl _)) (fun i j => ?_)
    constructor
    · rintro (z | z)
      · exact ⟨by omega, z.2⟩
      · exact ⟨by omega, z.2⟩
    · intro z
      by_cases q : i = r
      · exact Or.inr ⟨q, z.2⟩
      · exact Or.inl ⟨by omega, z.2⟩
/-- what makeWhole leaves, out of reduced fractions -/
theorem yl_class {A9 : Nat → Int} {D9 : Nat → Nat} {a b f : Nat → Int32} {o t : Nat} (ho1 : 1 ≤ o) (ho : o ≤ 6) (ht1 : 1 ≤ t) (ht : t ≤ 6) (hA : ∀ c, c < 36 → (A9 c).natAbs ≤ 9999 ∧ a c = iz (A9 c)) (hD : ∀ c, c < 36 → 1 ≤ D9 c ∧ D9 c ≤ 12 ∧ b c = nI (D9 c)) : ∃ mu le, yy_lcm b 36 = nI mu ∧ yl_is D9 36 mu ∧ mu ≤ 27720 ∧ yl_min (fun i j => A9 (i * 6 + j) * ((mu / D9 (i * 6 + j) : Nat) : Int)) o t le ∧ (xx_wo a b (yy_lcm b 36) t o (f, 2147483647)).2 = iz le ∧ le.natAbs ≤ 277172280 ∧ ∀ i, i < o → ∀ j, j < t → (xx_wo a b (yy_lcm b 36) t o (f, 2147483647)).1 (i * 6 + j) = iz (A9 (i * 6 + j) * ((mu / D9 (i * 6 + j) : Nat) : Int)) ∧ (A9 (i * 6 + j) * ((mu / D9 (i * 6 + j) : Nat) : Int)).natAbs ≤ 277172280 := by
  obtain ⟨mu, e, hi⟩ := yy_lcmN (n := 36) hD
  have mb := yl_le hi (fun k hk => by have := hD k hk; omega)
  have key : ∀ i, i < o → ∀ j, j < t → a (i * 6 + j) * (nI mu / xx_m1 (b (i * 6 + j))) = iz (A9 (i * 6 + j) * ((mu / D9 (i * 6 + j) : Nat) : Int)) ∧ (A9 (i * 6 + j) * ((mu / D9 (i * 6 + j) : Nat) : Int)).natAbs ≤ 277172280 := by
    intro i hi2 j hj
    obtain ⟨a1, a2⟩ := hA (i * 6 + j) (by omega)
    obtain ⟨d1, d2, d3⟩ := hD (i * 6 + j) (by omega)
    refine ⟨?_, yl_w_b a1 mb⟩
    rw [a2, d3, xx_m1N d1 (by omega), pk_div (by omega) (by omega) (by omega), nI_iz, iz_mul]
  obtain ⟨h1, v, h2, h3, h4, h5, h6⟩ := xx_wo_do (w := fun i j => A9 (i * 6 + j) * ((mu / D9 (i * 6 + j) : Nat) : Int)) (f := f) ht key o (Nat.le_refl _)
  have hne : v ≠ 2147483647 := fun z => by
    have a1 := h5 0 0 ⟨by omega, by omega⟩
    have a2 := (key 0 (by omega) 0 (by omega)).2
    have a1 : v ≤ A9 (0 * 6 + 0) * ((mu / D9 (0 * 6 + 0) : Nat) : Int) := a1
    omega
  obtain ⟨i, j, ⟨hi2, hj⟩, ev⟩ := h6.resolve_left hne
  have vb : v.natAbs ≤ 277172280 := by rw [ev]; exact (key i hi2 j hj).2
  refine ⟨mu, v, e, hi, mb, ⟨⟨i, j, hi2, hj, ev⟩, fun k hk l hl => h5 k l ⟨hk, hl⟩⟩, by rw [e]; exact h2, vb, fun k hk l hl => ⟨by rw [e]; exact h1 k l (by omega) ⟨hk, hl⟩, (key k hk l hl).2⟩⟩
