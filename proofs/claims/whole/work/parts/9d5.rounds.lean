/-! ===== both rounds are one ===== -/
theorem yr_m_true {w : Nat → Nat → Int} {ob k r : Nat} : ∀ {n : Nat}, yr_m w ob k r n = true → ∀ c, c < n → Nat.testBit ob c = true → w r c < w k c
  | 0, _, c, hc, _ => absurd hc (Nat.not_lt_zero c)
  | n + 1, h, c, hc, hb => by
    have h : (yr_m w ob k r n && (!Nat.testBit ob n || decide (w r n < w k n))) = true := h
    rw [Bool.and_eq_true] at h
    by_cases e : c = n
    · subst e
      have h2 := h.2
      rw [hb] at h2
      exact of_decide_eq_true (by simpa using h2)
    · exact yr_m_true h.1 c (by omega) hb
theorem yr_m_self {w : Nat → Nat → Int} {ob r n : Nat} (h : ∃ c, c < n ∧ Nat.testBit ob c = true) : yr_m w ob r r n = false := by
  obtain ⟨c, hc, hb⟩ := h
  cases z : yr_m w ob r r n
  · rfl
  · exact absurd (yr_m_true z c hc hb) (Int.lt_irrefl _)
theorem yr_ef {w : Nat → Nat → Int} {own ob ot r : Nat} (h : ∃ c, c < ot ∧ Nat.testBit ob c = true) : ∀ k, (Nat.testBit own r && yr_f w own ob ot r k) = yr_e w own ob ot r k
  | 0 => by
    show (Nat.testBit own r && false) = false
    rw [Bool.and_false]
  | k + 1 => by
    have ih := yr_ef (w := w) (own := own) (r := r) h k
    show (Nat.testBit own r && (yr_f w own ob ot r k || (decide (k ≠ r) && Nat.testBit own k && yr_m w ob k r ot))) = (yr_e w own ob ot r k || (Nat.testBit own r && Nat.testBit own k && yr_m w ob k r ot))
    rw [← ih]
    by_cases e : k = r
    · subst e
      rw [yr_m_self h]
      simp
    · rw [decide_eq_true e]
      cases Nat.testBit own r <;> simp
theorem yb_off {f : Nat → Bool} {n k : Nat} (h : n ≤ k) : Nat.testBit (yb_n f n) k = false := Nat.testBit_lt_two_pow (Nat.lt_of_lt_of_le (yb_lt f n) (Nat.pow_le_pow_right (by decide) h))
theorem yr_go_g {m n : Nat} {W : Nat → Nat → Nat → Int} {th9 : Nat → Nat} {S9 : Nat → Bool} (hS : ∀ q, q < 2 → ∀ k, k < yy_cn m n q → S9 (6 * q + k) = Nat.testBit (th9 q) k) (hne : ∀ q, q < 2 → ∃ c, c < yy_cn m n q ∧ Nat.testBit (th9 q) c = true) {j : Nat} (hj : j < 12) : yr_go m n W th9 S9 j = Nat.testBit (yr_g m n W th9 (j / 6)) (j % 6) := by
  have hp : j / 6 < 2 := by omega
  unfold yr_go yr_g
  by_cases z : j % 6 < yy_cn m n (j / 6)
  · have e1 := hS (j / 6) hp (j % 6) z
    rw [show 6 * (j / 6) + j % 6 = j by omega] at e1
    rw [decide_eq_true z, Bool.true_and, e1, yr_ef (hne (1 - j / 6) (by omega))]
    unfold yr_b
    rw [yb_ts _ z]
  · rw [decide_eq_false z, Bool.false_and, Bool.false_and]
    unfold yr_b
    rw [yb_off (by omega)]
theorem yb_c_t : ∀ a, a < 64 → yb_c a = (((((if Nat.testBit a 0 then 1 else 0) + if Nat.testBit a 1 then 1 else 0) + if Nat.testBit a 2 then 1 else 0) + if Nat.testBit a 3 then 1 else 0) + if Nat.testBit a 4 then 1 else 0) + if Nat.testBit a 5 then 1 else 0 := by decide +kernel
theorem yr_n_c {m n : Nat} {W : Nat → Nat → Nat → Int} {th9 : Nat → Nat} {S9 : Nat → Bool} (hm : m ≤ 6) (hn : n ≤ 6) (hS : ∀ q, q < 2 → ∀ k, k < yy_cn m n q → S9 (6 * q + k) = Nat.testBit (th9 q) k) (hne : ∀ q, q < 2 → ∃ c, c < yy_cn m n q ∧ Nat.testBit (th9 q) c = true) : yr_n (yr_go m n W th9 S9) 12 = yb_c (yr_g m n W th9 0) + yb_c (yr_g m n W th9 1) := by
  have g : ∀ {j : Nat}, j < 12 → yr_go m n W th9 S9 j = Nat.testBit (yr_g m n W th9 (j / 6)) (j % 6) := fun hj => yr_go_g hS hne hj
  rw [yb_c_t _ (yr_g64 hm hn), yb_c_t _ (yr_g64 hm hn)]
  have e0 := g (j := 0) (by decide)
  have e1 := g (j := 1) (by decide)
  have e2 := g (j := 2) (by decide)
  have e3 := g (j := 3) (by decide)
  have e4 := g (j := 4) (by decide)
  have e5 := g (j := 5) (by decide)
  have e6 := g (j := 6) (by decide)
  have e7 := g (j := 7) (by decide)
  have e8 := g (j := 8) (by decide)
  have e9 := g (j := 9) (by decide)
  have e10 := g (j := 10) (by decide)
  have e11 := g (j := 11) (by decide)
  simp only [yr_n, e0, e1, e2, e3, e4, e5, e6, e7, e8, e9, e10, e11, Nat.zero_add, Nat.reduceDiv, Nat.reduceMod]
  simp only [Nat.add_assoc]
theorem yr_max {P : Nat → Bool} {v : Nat → Int} : ∀ {n : Nat}, (∃ c, c < n ∧ P c = true) → ∃ c, c < n ∧ P c = true ∧ ∀ k, k < n → P k = true → v k ≤ v c
  | 0, ⟨c, hc, _⟩ => absurd hc (Nat.not_lt_zero c)
  | n + 1, ⟨c, hc, hP⟩ => by
    by_cases h : ∃ c, c < n ∧ P c = true
    · obtain ⟨d, hd, h1, h2⟩ := yr_max (v := v) h
      by_cases e : P n = true ∧ v d < v n
      · refine ⟨n, by omega, e.1, fun k hk hPk => ?_⟩
        by_cases z : k = n
        · rw [z]; exact Int.le_refl _
        · have := h2 k (by omega) hPk
          omega
      · refine ⟨d, by omega, h1, fun k hk hPk => ?_⟩
        by_cases z : k = n
        · subst z; exact Int.not_lt.mp (fun q => e ⟨hPk, q⟩)
        · exact h2 k (by omega) hPk
    · have e : c = n := Classical.byContradiction (fun z => h ⟨c, by omega, hP⟩)
      subst e
      refine ⟨c, by omega, hP, fun k hk hPk => ?_⟩
      by_cases z : k = c
      · rw [z]; exact Int.le_refl _
      · exact absurd ⟨k, by omega, hPk⟩ h
theorem yr_e_no {w : Nat → Nat → Int} {own ob ot r : Nat} : ∀ {n : Nat}, (∀ k, k < n → Nat.testBit own k = true → yr_m w ob k r ot = false) → yr_e w own ob ot r n = false
  | 0, _ => rfl
  | n + 1, h => by
    show (yr_e w own ob ot r n || (Nat.testBit own r && Nat.testBit own n && yr_m w ob n r ot)) = false
    rw [yr_e_no (fun k hk => h k (by omega)), Bool.false_or]
    cases z : Nat.testBit own n
    · rw [Bool.and_false, Bool.false_and]
    · rw [h n (by omega) z, Bool.and_false]
theorem yr_tn_ne {m n : Nat} {W : Nat → Nat → Nat → Int} {th9 : Nat → Nat} (hm : m ≤ 6) (hn : n ≤ 6) (hne : ∀ q, q < 2 → ∃ c, c < yy_cn m n q ∧ Nat.testBit (th9 q) c = true) : ∀ q, q < 2 → ∃ c, c < yy_cn m n q ∧ Nat.testBit (yr_tn m n W th9 q) c = true := by
  intro q hq
  have c6 := yy_cn6 (p := q) hm hn
  obtain ⟨o, ho, hob⟩ := hne (1 - q) (by omega)
  obtain ⟨c, hc, h1, h2⟩ := yr_max (v := fun k => yo_w W q k o) (hne q hq)
  refine ⟨c, hc, ?_⟩
  unfold yr_tn
  rw [yb_ts _ (by omega), h1, Bool.true_and]
  unfold yr_g yr_b
  rw [yb_ts _ hc, yr_e_no (fun k hk hk2 => ?_)]
  · rfl
  · cases z : yr_m (yo_w W q) (th9 (1 - q)) k c (yy_cn m n (1 - q))
    · rfl
    · have a1 := yr_m_true z o ho hob
      have a2 : yo_w W q k o ≤ yo_w W q c o := h2 k hk hk2
      omega
theorem yr_tn_s {m n : Nat} {W : Nat → Nat → Nat → Int} {th9 : Nat → Nat} {S9 : Nat → Bool} (hm : m ≤ 6) (hn : n ≤ 6) (hS : ∀ q, q < 2 → ∀ k, k < yy_cn m n q → S9 (6 * q + k) = Nat.testBit (th9 q) k) (hne : ∀ q, q < 2 → ∃ c, c < yy_cn m n q ∧ Nat.testBit (th9 q) c = true) : ∀ q, q < 2 → ∀ k, k < yy_cn m n q → (S9 (6 * q + k) && !yr_go m n W th9 S9 (6 * q + k)) = Nat.testBit (yr_tn m n W th9 q) k := by
  intro q hq k hk
  have c6 := yy_cn6 (p := q) hm hn
  rw [yr_go_g hS hne (by omega), hS q hq k hk, show (6 * q + k) / 6 = q by omega, show (6 * q + k) % 6 = k by omega]
  unfold yr_tn
  rw [yb_ts _ (by omega)]
theorem yr_tn64 {m n : Nat} {W : Nat → Nat → Nat → Int} {th9 : Nat → Nat} (q : Nat) : yr_tn m n W th9 q < 64 := yb_lt _ 6
