/-! ===== the guess of a quotient's digit (Knuth D), for any base ===== -/
theorem yy_k1 {q V W v t P : Nat} (hP : 0 < P) (h1 : q * V ≤ W) (h2 : v * P ≤ V) (h3 : W < (t + 1) * P) : q * v ≤ t := by
  apply Nat.le_of_lt_succ
  apply Nat.lt_of_mul_lt_mul_right (a := P)
  have : q * v * P ≤ q * V := by rw [Nat.mul_assoc]; exact Nat.mul_le_mul_left q h2
  show q * v * P < (t + 1) * P
  omega
theorem yy_k2 {q V W v t P d k : Nat} (h1 : W < (q + 1) * V) (h2 : V < (v + 1) * P) (h3 : t * P ≤ W) (h4 : d * v ≤ t) (h5 : q + 1 + k ≤ d) : k * v < q + 1 := by
  have hP : 0 < P := by
    apply Nat.pos_of_ne_zero
    intro e
    rw [e, Nat.mul_zero] at h2
    omega
  have a1 : (q + 1) * V ≤ (q + 1) * ((v + 1) * P) := Nat.mul_le_mul_left _ (Nat.le_of_lt h2)
  have a2 : (q + 1 + k) * v ≤ t := Nat.le_trans (Nat.mul_le_mul_right v h5) h4
  have a3 : (q + 1 + k) * v * P ≤ t * P := Nat.mul_le_mul_right P a2
  have a4 : (q + 1 + k) * v * P < (q + 1) * (v + 1) * P := by rw [Nat.mul_assoc (q + 1)]; omega
  have a5 := Nat.lt_of_mul_lt_mul_right a4
  rw [Nat.add_mul (q + 1) k v, Nat.mul_add, Nat.mul_one] at a5
  omega
/-- up to r rounds of the correction: the digit and what is left -/
def yy_gr (β lead second r2 : Nat) : Nat → Nat × Nat → Nat × Nat
  | 0, s => s
  | r + 1, s => if s.2 < β then (if β ≤ s.1 ∨ s.2 * β + r2 < s.1 * second then yy_gr β lead second r2 r (s.1 - 1, s.2 + lead) else yy_gr β lead second r2 r s) else s
/-- what a round keeps: t is the digit times the lead and what is left; the digit is no smaller than the true one -/
theorem yy_gr_inv {β lead second r2 t q : Nat} (hq : q < β) (hlow : q * (lead * β + second) ≤ t * β + r2) (hs : second < β) (hl : lead < β) :
    ∀ (r d left : Nat), d * lead + left = t → q ≤ d → d ≤ β + 1 → (β ≤ d → d * lead + lead ≤ t + lead * (r + 1) ∧ (d - β + 1 ≤ r) ∧ left + (d - β) * lead < β) → d ≤ q + r ∨ (d < β ∧ d * (lead * β + second) ≤ t * β + r2) →
      q ≤ (yy_gr β lead second r2 r (d, left)).1 ∧ (yy_gr β lead second r2 r (d, left)).1 < β ∧ ((yy_gr β lead second r2 r (d, left)).1 = q ∨ (yy_gr β lead second r2 r (d, left)).1 * (lead * β + second) ≤ t * β + r2) := by
  intro r
  induction r with
  | zero =>
    intro d left ht hqd hd1 hbig hdn
    show q ≤ d ∧ d < β ∧ (d = q ∨ _)
    have hdb : d < β := by
      apply Nat.lt_of_not_le
      intro h
      have := (hbig h).2.1
      omega
    refine ⟨hqd, hdb, ?_⟩
    rcases hdn with h | h
    · exact Or.inl (by omega)
    · exact Or.inr h.2
  | succ r ih =>
    intro d left ht hqd hd1 hbig hdn
    rw [yy_gr]
    by_cases hleft : left < β
    · rw [if_pos hleft]
      by_cases hc : β ≤ d ∨ left * β + r2 < d * second
      · rw [if_pos hc]
        have key : q + 1 ≤ d := by
          rcases hc with h | h
          · omega
          · apply Nat.lt_of_not_le
            intro h2
            have h3 : d = q := by omega
            subst h3
            have e1 : d * (lead * β + second) = d * lead * β + d * second := by rw [Nat.mul_add, Nat.mul_assoc]
            have e2 : t * β = d * lead * β + left * β := by rw [← ht, Nat.add_mul]
            omega
        have e3 : (d - 1) * lead + (left + lead) = t := by
          have : d = d - 1 + 1 := by omega
          rw [this, Nat.add_mul, Nat.one_mul] at ht
          omega
        have hnd : d - 1 ≤ q + r ∨ (d - 1 < β ∧ (d - 1) * (lead * β + second) ≤ t * β + r2) := by
          rcases hdn with h | h
          · exact Or.inl (by omega)
          · refine Or.inr ⟨by omega, Nat.le_trans (Nat.mul_le_mul_right _ (by omega)) h.2⟩
        refine ih (d - 1) (left + lead) e3 (by omega) (by omega) (fun hb => ?_) hnd
        obtain ⟨b1, b2, b3⟩ := hbig (by omega)
        have e4 : d - β = (d - 1 - β) + 1 := by omega
        rw [e4, Nat.add_mul, Nat.one_mul] at b3
        refine ⟨?_, by omega, by omega⟩
        have e5 : lead * (r + 1 + 1) = lead * (r + 1) + lead := by rw [Nat.mul_add lead (r + 1) 1, Nat.mul_one]
        have e6 : d * lead = (d - 1) * lead + lead := by
          have : d = d - 1 + 1 := by omega
          rw [this, Nat.add_mul, Nat.one_mul]; simp
        omega
      · rw [if_neg hc]
        have hdb : d < β := by omega
        have hok : d * (lead * β + second) ≤ t * β + r2 := by
          have e1 : d * (lead * β + second) = d * lead * β + d * second := by rw [Nat.mul_add, Nat.mul_assoc]
          have e2 : t * β = d * lead * β + left * β := by rw [← ht, Nat.add_mul]
          omega
        exact ih d left ht hqd hd1 (fun hb => absurd hb (by omega)) (Or.inr ⟨hdb, hok⟩)
    · rw [if_neg hleft]
      have hdb : d < β := by
        apply Nat.lt_of_not_le
        intro h
        have b3 := (hbig h).2.2
        omega
      refine ⟨hqd, hdb, Or.inr ?_⟩
      show d * (lead * β + second) ≤ t * β + r2
      have e1 : d * (lead * β + second) = d * lead * β + d * second := by rw [Nat.mul_add, Nat.mul_assoc]
      have e2 : t * β = d * lead * β + left * β := by rw [← ht, Nat.add_mul]
      have e3 : d * second ≤ β * β := Nat.mul_le_mul (by omega) (by omega)
      have e4 : β * β ≤ left * β := Nat.mul_le_mul_right β (by omega)
      omega
/-- the guess is the true digit or one more -/
theorem yy_guess {β V W lead second P t r2 : Nat} (hβ : 2 ≤ β) (hn : β ≤ 2 * lead) (hlead : lead < β) (hsec : second < β) (hr2 : r2 < β) (hP : 0 < P)
    (hV1 : (lead * β + second) * P ≤ V) (hV2 : V < (lead * β + second + 1) * P) (hW1 : (t * β + r2) * P ≤ W) (hW2 : W < (t * β + r2 + 1) * P) (hWV : W < β * V) :
    W / V ≤ (yy_gr β lead second r2 3 (t / lead, t % lead)).1 ∧ (yy_gr β lead second r2 3 (t / lead, t % lead)).1 ≤ W / V + 1 ∧ (yy_gr β lead second r2 3 (t / lead, t % lead)).1 < β := by
  have hl0 : 0 < lead := by omega
  have hv0 : 0 < lead * β + second := Nat.lt_of_lt_of_le (Nat.mul_pos hl0 (by omega)) (Nat.le_add_right _ _)
  have hV0 : 0 < V := Nat.lt_of_lt_of_le (Nat.mul_pos hv0 hP) hV1
  have hq1 : W / V * V ≤ W := Nat.div_mul_le_self W V
  have hq2 : W < (W / V + 1) * V := by rw [Nat.add_mul, Nat.one_mul, Nat.mul_comm]; exact Nat.lt_mul_div_succ W hV0 |> fun h => by rw [Nat.mul_add, Nat.mul_one] at h; exact h
  have hqb : W / V < β := Nat.div_lt_of_lt_mul (by rw [Nat.mul_comm]; exact hWV)
  generalize W / V = q at hq1 hq2 hqb ⊢
  have hlow : q * (lead * β + second) ≤ t * β + r2 := yy_k1 hP hq1 hV1 hW2
  -- the first two digits alone
  have hV1' : lead * (β * P) ≤ V := by
    have : lead * (β * P) ≤ (lead * β + second) * P := by rw [← Nat.mul_assoc]; exact Nat.mul_le_mul_right P (Nat.le_add_right _ _)
    omega
  have hV2' : V < (lead + 1) * (β * P) := by
    have : (lead * β + second + 1) * P ≤ (lead + 1) * (β * P) := by rw [← Nat.mul_assoc, Nat.add_mul lead 1 β, Nat.one_mul]; exact Nat.mul_le_mul_right P (by omega)
    omega
  have hW1' : t * (β * P) ≤ W := by
    have : t * (β * P) ≤ (t * β + r2) * P := by rw [← Nat.mul_assoc]; exact Nat.mul_le_mul_right P (Nat.le_add_right _ _)
    omega
  have hW2' : W < (t + 1) * (β * P) := by
    have : (t * β + r2 + 1) * P ≤ (t + 1) * (β * P) := by rw [← Nat.mul_assoc, Nat.add_mul t 1 β, Nat.one_mul]; exact Nat.mul_le_mul_right P (by omega)
    omega
  have hqt : q * lead ≤ t := yy_k1 (Nat.mul_pos (by omega) hP) hq1 hV1' hW2'
  have hqd : q ≤ t / lead := (Nat.le_div_iff_mul_le hl0).mpr hqt
  have hdt : t / lead * lead ≤ t := Nat.div_mul_le_self t lead
  have hmod : t / lead * lead + t % lead = t := by rw [Nat.mul_comm]; exact Nat.div_add_mod t lead
  have hml : t % lead < lead := Nat.mod_lt t hl0
  have hd2 : t / lead ≤ q + 2 := by
    apply Nat.le_of_not_lt
    intro h
    have := yy_k2 (k := 2) hq2 hV2' hW1' hdt (by omega)
    omega
  have hd1 : t / lead ≤ β + 1 := by omega
  have hbig : β ≤ t / lead → t / lead * lead + lead ≤ t + lead * (3 + 1) ∧ (t / lead - β + 1 ≤ 3) ∧ t % lead + (t / lead - β) * lead < β := by
    intro hb
    refine ⟨by omega, by omega, ?_⟩
    -- t < (lead + 1) * β
    have h1 : t * (β * P) < β * ((lead + 1) * (β * P)) := by
      have : β * V ≤ β * ((lead + 1) * (β * P)) := Nat.mul_le_mul_left β (Nat.le_of_lt hV2')
      omega
    have h2 : t < β * (lead + 1) := by
      have h9 : t * (β * P) < β * (lead + 1) * (β * P) := by rw [Nat.mul_assoc β]; exact h1
      exact Nat.lt_of_mul_lt_mul_right h9
    have h3 : β * lead + (t / lead - β) * lead = t / lead * lead := by rw [← Nat.add_mul]; congr 1; omega
    rw [Nat.mul_add, Nat.mul_one] at h2
    omega
  have := yy_gr_inv hqb hlow hsec hlead 3 (t / lead) (t % lead) hmod hqd hd1 hbig (Or.inl (by omega))
  obtain ⟨a1, a2, a3⟩ := this
  refine ⟨a1, ?_, a2⟩
  rcases a3 with h | h
  · omega
  · apply Nat.le_of_not_lt
    intro h5
    have h6 := yy_k2 (k := 1) hq2 hV2 hW1 h (by omega)
    have h7 : lead * β + second < q + 1 := by omega
    have h8 : 1 * β ≤ lead * β := Nat.mul_le_mul_right β hl0
    omega
