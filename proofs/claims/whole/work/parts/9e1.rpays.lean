/-! ===== payoffs: the reference's numbers ===== -/
theorem lN_toI9 {n : Nat} (h : n < 2 ^ 63) : (lN n).toInt = (n : Int) := lz_toInt (z := (n : Int)) (by omega) (by omega)
theorem yy_gN {x : Int} {d : Nat} (hx : x.natAbs < 2 ^ 62) (hd : d < 2 ^ 62) (h1 : 1 ≤ d) : yy_g (lz x) (lN d) = lN (Nat.gcd x.natAbs d) := by
  have e1 : (lz x).toInt = x := lz_toInt (by omega) (by omega)
  have e2 := lN_toI9 (n := d) (by omega)
  have g1 : Nat.gcd x.natAbs d ≤ d := Nat.gcd_le_right _ h1
  apply Int64.toInt_inj.mp
  rw [yy_g_toInt _ _ (by rw [e1]; omega) (by rw [e2]; omega), e1, e2, Int.natAbs_natCast, lN_toI9 (by omega)]
theorem lz_divN {x : Int} {d : Nat} (hx : x.natAbs < 2 ^ 62) (h0 : 0 < d) (hd : d < 2 ^ 62) (hv : ((d : Nat) : Int) ∣ x) : lz x / lN d = lz (x / (d : Int)) := by
  have ed := lN_toI9 (n := d) (by omega)
  obtain ⟨q, hq⟩ := hv
  have e1 : x / (d : Int) = q := by rw [hq]; exact Int.mul_ediv_cancel_left q (by omega)
  have q1 : q.natAbs ≤ x.natAbs := by
    rw [hq, Int.natAbs_mul, Int.natAbs_natCast]
    exact Nat.le_mul_of_pos_left _ h0
  apply Int64.toInt_inj.mp
  rw [Int64.toInt_div, lz_toInt (by omega) (by omega), ed, e1, lz_toInt (by omega) (by omega), hq, Int.mul_tdiv_cancel_left q (by omega)]
  rw [Int.bmod_def]
  have : q < 4611686018427387904 := by omega
  have : -4611686018427387904 ≤ q := by omega
  omega
theorem yl_num {x : Int} {d mu : Nat} (h1 : 1 ≤ d) (hm : yl_D x d ∣ mu) : ((d : Nat) : Int) ∣ x * ((mu % d : Nat) : Int) ∧ x * ((mu / d : Nat) : Int) + x * ((mu % d : Nat) : Int) / ((d : Nat) : Int) = yl_A x d * ((mu / yl_D x d : Nat) : Int) := by
  obtain ⟨e, he⟩ := hm
  have d1 := yl_D1 (x := x) h1
  have e9 : mu / yl_D x d = e := by rw [he]; exact Nat.mul_div_cancel_left e d1
  have hA := yl_Am (x := x) (d := d)
  have hD : ((yl_D x d : Nat) : Int) * ((Nat.gcd x.natAbs d : Nat) : Int) = (d : Int) := by rw [← Int.natCast_mul, yl_Dm]
  have hmu : ((mu : Nat) : Int) = ((yl_D x d : Nat) : Int) * (e : Int) := by rw [he, Int.natCast_mul]
  have hx : x * (mu : Int) = yl_A x d * (e : Int) * (d : Int) := by
    rw [hmu, ← hD]
    calc x * (((yl_D x d : Nat) : Int) * (e : Int)) = (yl_A x d * ((Nat.gcd x.natAbs d : Nat) : Int)) * (((yl_D x d : Nat) : Int) * (e : Int)) := by rw [hA]
      _ = yl_A x d * (e : Int) * (((yl_D x d : Nat) : Int) * ((Nat.gcd x.natAbs d : Nat) : Int)) := by
        rw [Int.mul_comm ((yl_D x d : Nat) : Int) (e : Int), Int.mul_assoc, Int.mul_assoc, Int.mul_left_comm ((Nat.gcd x.natAbs d : Nat) : Int), Int.mul_comm ((Nat.gcd x.natAbs d : Nat) : Int)]
  have hs : ((mu : Nat) : Int) = (d : Int) * ((mu / d : Nat) : Int) + ((mu % d : Nat) : Int) := by
    rw [← Int.natCast_mul, ← Int.natCast_add, Nat.div_add_mod]
  have key : x * ((mu % d : Nat) : Int) = (d : Int) * (yl_A x d * (e : Int) - x * ((mu / d : Nat) : Int)) := by
    have h2 : x * (mu : Int) = x * ((d : Int) * ((mu / d : Nat) : Int)) + x * ((mu % d : Nat) : Int) := by rw [← Int.mul_add, ← hs]
    rw [Int.mul_sub, Int.mul_left_comm (d : Int) x, Int.mul_comm (d : Int) (yl_A x d * (e : Int)), ← hx]
    omega
  refine ⟨⟨_, key⟩, ?_⟩
  rw [key, Int.mul_ediv_cancel_left _ (by omega), e9]
  omega
theorem yy_rlN {x : Nat → Int} {d : Nat → Nat} {af bf : Nat → Int32} {p : Nat} (h : ∀ k, k < 36 → (x k).natAbs ≤ 9999 ∧ 1 ≤ d k ∧ d k ≤ 12 ∧ af (36 * p + k) = iz (x k) ∧ bf (36 * p + k) = nI (d k)) : ∀ {n : Nat}, n ≤ 36 → ∃ mu, yy_rl af bf p n = lN mu ∧ yl_is (fun k => yl_D (x k) (d k)) n mu ∧ mu ≤ 27720
  | 0, _ => ⟨1, rfl, yl_is0 _, by decide⟩
  | n + 1, hn => by
    obtain ⟨mu, e, hi, _⟩ := yy_rlN h (n := n) (by omega)
    obtain ⟨b1, b2, b3, b4, b5⟩ := h n (by omega)
    have mb := yl_le hi (fun k hk => by have := h k (by omega); have := yl_D1 (x := x k) this.2.1; have := yl_Dl (x := x k) (d := d k); omega)
    have D1 := yl_D1 (x := x n) b2
    have Dl := yl_Dl (x := x n) (d := d n)
    have ed : yy_d af bf (36 * p + n) = lN (yl_D (x n) (d n)) := by
      unfold yy_d
      rw [b4, b5, iz_l (by omega) (by omega), nI_l (by omega), yy_gN (by omega) (by omega) b2, pk_lDiv (by omega) (yl_g0 b2) (Nat.lt_of_le_of_lt (Nat.gcd_le_right _ b2) (by omega))]
      rfl
    have g0 : 0 < Nat.gcd mu (yl_D (x n) (d n)) := Nat.gcd_pos_of_pos_right _ D1
    have g1 : Nat.gcd mu (yl_D (x n) (d n)) ≤ yl_D (x n) (d n) := Nat.gcd_le_right _ D1
    have hi2 := yl_iss (D := fun k => yl_D (x k) (d k)) hi D1
    refine ⟨_, ?_, hi2, yl_le hi2 (fun k hk => by have := h k (by omega); have := yl_D1 (x := x k) this.2.1; have := yl_Dl (x := x k) (d := d k); omega)⟩
    show yy_rl af bf p n / yy_g (yy_rl af bf p n) (yy_d af bf (36 * p + n)) * yy_d af bf (36 * p + n) = _
    have eg : yy_g (lN mu) (lN (yl_D (x n) (d n))) = lN (Nat.gcd mu (yl_D (x n) (d n))) := by
      have := yy_gN (x := (mu : Int)) (d := yl_D (x n) (d n)) (by rw [Int.natAbs_natCast]; omega) (by omega) D1
      rw [Int.natAbs_natCast] at this
      exact this
    rw [e, ed, eg, pk_lDiv (by omega) g0 (by omega), lN_mul, Nat.div_mul_right_comm (Nat.gcd_dvd_left _ _)]
    rfl
theorem yy_okN {x : Nat → Int} {d : Nat → Nat} {af bf : Nat → Int32} {p : Nat} (h : ∀ k, k < 36 → (x k).natAbs ≤ 9999 ∧ 1 ≤ d k ∧ d k ≤ 12 ∧ af (36 * p + k) = iz (x k) ∧ bf (36 * p + k) = nI (d k)) : yy_ok af bf p := by
  intro k hk
  obtain ⟨b1, b2, b3, b4, b5⟩ := h k hk
  obtain ⟨mu, e, hi, mb⟩ := yy_rlN h (n := k) (by omega)
  have D1 := yl_D1 (x := x k) b2
  have Dl := yl_Dl (x := x k) (d := d k)
  have g9 := yl_g0 (x := x k) b2
  have g8 : Nat.gcd (x k).natAbs (d k) ≤ d k := Nat.gcd_le_right _ b2
  have ed : yy_d af bf (36 * p + k) = lN (yl_D (x k) (d k)) := by
    unfold yy_d
    rw [b4, b5, iz_l (by omega) (by omega), nI_l (by omega), yy_gN (by omega) (by omega) b2, pk_lDiv (by omega) (yl_g0 b2) (Nat.lt_of_le_of_lt (Nat.gcd_le_right _ b2) (by omega))]
    rfl
  refine ⟨?_, ?_, ?_⟩
  · rw [b4, b5, iz_l (by omega) (by omega), nI_l (by omega), yy_gN (by omega) (by omega) b2]
    exact yy_lne0 (by omega) (by omega)
  · have eg : yy_g (lN mu) (lN (yl_D (x k) (d k))) = lN (Nat.gcd mu (yl_D (x k) (d k))) := by
      have := yy_gN (x := (mu : Int)) (d := yl_D (x k) (d k)) (by rw [Int.natAbs_natCast]; omega) (by omega) D1
      rw [Int.natAbs_natCast] at this
      exact this
    have g0 : 0 < Nat.gcd mu (yl_D (x k) (d k)) := Nat.gcd_pos_of_pos_right _ D1
    have g1 : Nat.gcd mu (yl_D (x k) (d k)) ≤ yl_D (x k) (d k) := Nat.gcd_le_right _ D1
    rw [e, ed, eg]
    exact yy_lne0 (by omega) (by omega)
  · rw [b5, nI_l (by omega)]
    exact yy_lne0 (by omega) (by omega)
/-- the wholes and the least, once some cells are done -/
def yl_dp (p : Nat) (w : Nat → Nat → Int) (f0 : Nat → Int64) (done : Nat → Nat → Prop) (s : (Nat → Int64) × Int64) : Prop := (∀ i j, j < 6 → done i j → s.1 (36 * p + 6 * i + j) = lz (w i j)) ∧ (∀ q, (∀ i j, i < 6 → j < 6 → q ≠ 36 * p + 6 * i + j) → s.1 q = f0 q) ∧ ∃ v : Int, s.2 = lz v ∧ v ≤ 9223372036854775807 ∧ -277172280 ≤ v ∧ (∀ i j, done i j → v ≤ w i j) ∧ (v = 9223372036854775807 ∨ ∃ i j, done i j ∧ v = w i j)
theorem yy_rs_do {a b : Nat → Int32} {l9 : Int64} {w : Nat → Nat → Int} {f0 : Nat → Int64} {done : Nat → Nat → Prop} {s : (Nat → Int64) × Int64} {p i j : Nat} (h : yl_dp p w f0 done s) (hi : i < 6) (hj : j < 6) (e : yy_rx a b l9 (36 * p + 6 * i + j) = lz (w i j)) (hw : (w i j).natAbs ≤ 277172280) : yl_dp p w f0 (fun k l => done k l ∨ (k = i ∧ l = j)) (yy_rs a b l9 (36 * p + 6 * i + j) s) := by
  obtain ⟨h1, h7, v, h2, h3, h4, h5, h6⟩ := h
  unfold yy_rs
  rw [e, h2]
  refine ⟨fun k l hl hk => ?_, fun q hq => ?_, ?_⟩
  · show vp_updL s.1 (36 * p + 6 * i + j) (lz (w i j)) (36 * p + 6 * k + l) = _
    by_cases z : k = i ∧ l = j
    · rw [z.1, z.2, pk_uLs]
    · rw [pk_uLn (by omega)]
      exact h1 k l hl (hk.resolve_right z)
  · show vp_updL s.1 (36 * p + 6 * i + j) (lz (w i j)) q = _
    rw [pk_uLn (hq i j hi hj)]
    exact h7 q hq
  · show ∃ v2 : Int, (if lz (w i j) < lz v then lz (w i j) else lz v) = lz v2 ∧ _
    by_cases z : w i j < v
    · refine ⟨w i j, by rw [if_pos ((lz_lt (by omega) (by omega) (by omega) (by omega)).mpr z)], by omega, by omega, fun k l hk => ?_, Or.inr ⟨i, j, Or.inr ⟨rfl, rfl⟩, rfl⟩⟩
      rcases hk with hk | ⟨e1, e2⟩
      · have := h5 k l hk; omega
      · rw [e1, e2]; exact Int.le_refl _
    · refine ⟨v, by rw [if_neg (fun q => z ((lz_lt (by omega) (by omega) (by omega) (by omega)).mp q))], h3, h4, fun k l hk => ?_, ?_⟩
      · rcases hk with hk | ⟨e1, e2⟩
        · exact h5 k l hk
        · rw [e1, e2]; omega
      · rcases h6 with h6 | ⟨k, l, hk, e9⟩
        · exact Or.inl h6
        · exact Or.inr ⟨k, l, Or.inl hk, e9⟩
theorem yl_dp_cg {p : Nat} {w : Nat → Nat → Int} {f0 : Nat → Int64} {u q : Nat → Nat → Prop} {s : (Nat → Int64) × Int64} (h : yl_dp p w f0 u s) (e : ∀ i j, u i j ↔ q i j) : yl_dp p w f0 q s := by
  obtain ⟨h1, h7, v, h2, h3, h4, h5, h6⟩ := h
  refine ⟨fun i j hj hq => h1 i j hj ((e i j).mpr hq), h7, v, h2, h3, h4, fun i j hq => h5 i j ((e i j).mpr hq), ?_⟩
  rcases h6 with h6 | ⟨k, l, hk, e9⟩
  · exact Or.inl h6
  · exact Or.inr ⟨k, l, (e k l).mp hk, e9⟩
theorem yy_ri_do {a b : Nat → Int32} {l9 : Int64} {w : Nat → Nat → Int} {f0 : Nat → Int64} {s : (Nat → Int64) × Int64} {p r t : Nat} (hr : r < 6) (ht : t ≤ 6) (e : ∀ j, j < t → yy_rx a b l9 (36 * p + 6 * r + j) = lz (w r j) ∧ (w r j).natAbs ≤ 277172280) (h : yl_dp p w f0 (fun i j => i < r ∧ j < t) s) : ∀ k, k ≤ t → yl_dp p w f0 (fun i j => (i < r ∧ j < t) ∨ (i = r ∧ j < k)) (yy_ri a b l9 p r k s)
  | 0, _ => yl_dp_cg h (fun i j => ⟨fun z => Or.inl z, fun z => z.resolve_right (fun q => absurd q.2 (Nat.not_lt_zero j))⟩)
  | k + 1, hk => by
    have ih := yy_ri_do hr ht e h k (by omega)
    refine yl_dp_cg (yy_rs_do (i := r) (j := k) ih hr (by omega) (e k (by omega)).1 (e k (by omega)).2) (fun i j => ?_)
    constructor
    · rintro ((z | z) | z)
      · exact Or.inl z
      · exact Or.inr ⟨z.1, by omega⟩
      · exact Or.inr ⟨z.1, by omega⟩
    · rintro (z | z)
      · exact Or.inl (Or.inl z)
      · by_cases q : j = k
        · exact Or.inr ⟨z.1, q⟩
        · exact Or.inl (Or.inr ⟨z.1, by omega⟩)
theorem yy_ro_do {a b : Nat → Int32} {l9 : Int64} {w : Nat → Nat → Int} {f : Nat → Int64} {p o t : Nat} (ho : o ≤ 6) (ht : t ≤ 6) (e : ∀ i, i < o → ∀ j, j < t → yy_rx a b l9 (36 * p + 6 * i + j) = lz (w i j) ∧ (w i j).natAbs ≤ 277172280) : ∀ r, r ≤ o → yl_dp p w f (fun i j => i < r ∧ j < t) (yy_ro a b l9 p t r (f, 9223372036854775807))
  | 0, _ => ⟨fun i j _ h => absurd h.1 (Nat.not_lt_zero i), fun q _ => rfl, 9223372036854775807, rfl, Int.le_refl _, by decide, fun i j h => absurd h.1 (Nat.not_lt_zero i), Or.inl rfl⟩
  | r + 1, hr => by
    have ih := yy_ro_do (f := f) ho ht e r (by omega)
    refine yl_dp_cg (yy_ri_do (by omega) ht (fun j hj => e r (by omega) j hj) ih t (Nat.le_refl _)) (fun i j => ?_)
    constructor
    · rintro (z | z)
      · exact ⟨by omega, z.2⟩
      · exact ⟨by omega, z.2⟩
    · intro z
      by_cases q : i = r
      · exact Or.inr ⟨q, z.2⟩
      · exact Or.inl ⟨by omega, z.2⟩
/-- what changed() leaves of a player, out of raw fractions -/
theorem yl_ref {x : Nat → Int} {d : Nat → Nat} {af bf : Nat → Int32} {f : Nat → Int64} {p o t : Nat} (ho1 : 1 ≤ o) (ho : o ≤ 6) (ht1 : 1 ≤ t) (ht : t ≤ 6) (h : ∀ k, k < 36 → (x k).natAbs ≤ 9999 ∧ 1 ≤ d k ∧ d k ≤ 12 ∧ af (36 * p + k) = iz (x k) ∧ bf (36 * p + k) = nI (d k)) : ∃ mu le, yy_rl af bf p 36 = lN mu ∧ yl_is (fun k => yl_D (x k) (d k)) 36 mu ∧ mu ≤ 27720 ∧ yl_min (fun i j => yl_A (x (6 * i + j)) (d (6 * i + j)) * ((mu / yl_D (x (6 * i + j)) (d (6 * i + j)) : Nat) : Int)) o t le ∧ (yy_ro af bf (yy_rl af bf p 36) p t o (f, 9223372036854775807)).2 = lz le ∧ le.natAbs ≤ 277172280 ∧ (∀ i, i < o → ∀ j, j < t → (yy_ro af bf (yy_rl af bf p 36) p t o (f, 9223372036854775807)).1 (36 * p + 6 * i + j) = lz (yl_A (x (6 * i + j)) (d (6 * i + j)) * ((mu / yl_D (x (6 * i + j)) (d (6 * i + j)) : Nat) : Int)) ∧ (yl_A (x (6 * i + j)) (d (6 * i + j)) * ((mu / yl_D (x (6 * i + j)) (d (6 * i + j)) : Nat) : Int)).natAbs ≤ 277172280) ∧ ∀ q, (∀ i j, i < 6 → j < 6 → q ≠ 36 * p + 6 * i + j) → (yy_ro af bf (yy_rl af bf p 36) p t o (f, 9223372036854775807)).1 q = f q := by
  obtain ⟨mu, e, hi, mb⟩ := yy_rlN h (n := 36) (Nat.le_refl _)
  have key : ∀ i, i < o → ∀ j, j < t → yy_rx af bf (lN mu) (36 * p + 6 * i + j) = lz (yl_A (x (6 * i + j)) (d (6 * i + j)) * ((mu / yl_D (x (6 * i + j)) (d (6 * i + j)) : Nat) : Int)) ∧ (yl_A (x (6 * i + j)) (d (6 * i + j)) * ((mu / yl_D (x (6 * i + j)) (d (6 * i + j)) : Nat) : Int)).natAbs ≤ 277172280 := by
    intro i hi2 j hj
    obtain ⟨b1, b2, b3, b4, b5⟩ := h (6 * i + j) (by omega)
    have Al := yl_Al (x := x (6 * i + j)) b2
    have dv : yl_D (x (6 * i + j)) (d (6 * i + j)) ∣ mu := hi.2.1 (6 * i + j) (by omega)
    obtain ⟨n1, n2⟩ := yl_num b2 dv
    refine ⟨?_, yl_w_b (by omega) mb⟩
    unfold yy_rx
    rw [show 36 * p + 6 * i + j = 36 * p + (6 * i + j) by omega, b4, b5, iz_l (by omega) (by omega), nI_l (by omega), pk_lRem (by omega) (by omega) (by omega), pk_lDiv (by omega) (by omega) (by omega), lN_lz (mu / _), lz_mul, lN_lz (mu % _), lz_mul]
    have mr : mu % d (6 * i + j) < 13 := Nat.lt_of_lt_of_le (Nat.mod_lt _ (by omega)) (by omega)
    have xb : (x (6 * i + j) * ((mu % d (6 * i + j) : Nat) : Int)).natAbs < 2 ^ 62 := by
      rw [Int.natAbs_mul, Int.natAbs_natCast]
      exact Nat.lt_of_le_of_lt (Nat.mul_le_mul b1 (Nat.le_of_lt mr)) (by decide)
    rw [lz_divN xb (by omega) (by omega) n1, lz_add, n2]
  obtain ⟨h1, h7, v, h2, h3, h4, h5, h6⟩ := yy_ro_do (w := fun i j => yl_A (x (6 * i + j)) (d (6 * i + j)) * ((mu / yl_D (x (6 * i + j)) (d (6 * i + j)) : Nat) : Int)) (f := f) ho ht key o (Nat.le_refl _)
  have hne : v ≠ 9223372036854775807 := fun z => by
    have a1 := h5 0 0 ⟨by omega, by omega⟩
    have a2 := (key 0 (by omega) 0 (by omega)).2
    have a1 : v ≤ yl_A (x (6 * 0 + 0)) (d (6 * 0 + 0)) * ((mu / yl_D (x (6 * 0 + 0)) (d (6 * 0 + 0)) : Nat) : Int) := a1
    omega
  obtain ⟨i, j, ⟨hi2, hj⟩, ev⟩ := h6.resolve_left hne
  have vb : v.natAbs ≤ 277172280 := by rw [ev]; exact (key i hi2 j hj).2
  rw [e]
  exact ⟨mu, v, rfl, hi, mb, ⟨⟨i, j, hi2, hj, ev⟩, fun k hk l hl => h5 k l ⟨hk, hl⟩⟩, h2, vb, fun k hk l hl => ⟨h1 k l (by omega) ⟨hk, hl⟩, (key k hk l hl).2⟩, h7⟩
