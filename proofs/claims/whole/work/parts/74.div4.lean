/-! ===== Divider: divideByDigits, divide ===== -/
theorem yy_v0 {β : Nat} {D : Nat → Nat} : yy_val β D 0 = 0 := rfl
/-- one digit below a window -/
def yy_cs (x : Nat) (D : Nat → Nat) : Nat → Nat := fun j => if j = 0 then x else D (j - 1)
theorem yy_cs_val {β x : Nat} {D : Nat → Nat} (n : Nat) : yy_val β (yy_cs x D) (n + 1) = x + β * yy_val β D n := by
  rw [yy_val_cons]
  congr 1
theorem yy_top2 {β : Nat} {D : Nat → Nat} {m : Nat} (h : ∀ i, i < m → D i < β) : (D (m + 1) * β + D m) * β ^ m ≤ yy_val β D (m + 2) ∧ yy_val β D (m + 2) < (D (m + 1) * β + D m + 1) * β ^ m := by
  have h1 := yy_val_lt (β := β) (D := D) (n := m) h
  have e : yy_val β D (m + 2) = yy_val β D m + (D (m + 1) * β + D m) * β ^ m := by
    show yy_val β D m + D m * β ^ m + D (m + 1) * β ^ (m + 1) = _
    rw [Nat.pow_succ]; generalize β ^ m = P; grind
  rw [e, Nat.add_mul _ 1, Nat.one_mul]
  omega
theorem yy_top3 {β : Nat} {D : Nat → Nat} {m : Nat} (h : ∀ i, i < m → D i < β) : ((D (m + 2) * β + D (m + 1)) * β + D m) * β ^ m ≤ yy_val β D (m + 3) ∧ yy_val β D (m + 3) < ((D (m + 2) * β + D (m + 1)) * β + D m + 1) * β ^ m := by
  have h1 := yy_val_lt (β := β) (D := D) (n := m) h
  have e : yy_val β D (m + 3) = yy_val β D m + ((D (m + 2) * β + D (m + 1)) * β + D m) * β ^ m := by
    show yy_val β D m + D m * β ^ m + D (m + 1) * β ^ (m + 1) + D (m + 2) * β ^ (m + 2) = _
    simp only [Nat.pow_succ]; generalize β ^ m = P; grind
  rw [e, Nat.add_mul _ 1, Nat.one_mul]
  omega
/-- the guess over a window is the true digit or one more -/
theorem yy_gw {β sz : Nat} {X Y : Nat → Nat} (hβ : 2 ≤ β) (hs : 2 ≤ sz) (hX : ∀ i, i ≤ sz → X i < β) (hY : ∀ i, i < sz → Y i < β) (hn : β ≤ 2 * Y (sz - 1)) (hW : yy_val β X (sz + 1) < β * yy_val β Y sz) :
    yy_val β X (sz + 1) / yy_val β Y sz ≤ (yy_gr β (Y (sz - 1)) (Y (sz - 2)) (X (sz - 2)) 3 ((X sz * β + X (sz - 1)) / Y (sz - 1), (X sz * β + X (sz - 1)) % Y (sz - 1))).1 ∧ (yy_gr β (Y (sz - 1)) (Y (sz - 2)) (X (sz - 2)) 3 ((X sz * β + X (sz - 1)) / Y (sz - 1), (X sz * β + X (sz - 1)) % Y (sz - 1))).1 ≤ yy_val β X (sz + 1) / yy_val β Y sz + 1 ∧ (yy_gr β (Y (sz - 1)) (Y (sz - 2)) (X (sz - 2)) 3 ((X sz * β + X (sz - 1)) / Y (sz - 1), (X sz * β + X (sz - 1)) % Y (sz - 1))).1 < β := by
  obtain ⟨m, rfl⟩ : ∃ m, sz = m + 2 := ⟨sz - 2, by omega⟩
  have a := yy_top2 (β := β) (D := Y) (m := m) (fun i hi => hY i (by omega))
  have b := yy_top3 (β := β) (D := X) (m := m) (fun i hi => hX i (by omega))
  exact yy_guess hβ hn (hY (m + 1) (by omega)) (hY m (by omega)) (hX m (by omega)) (Nat.pow_pos (by omega)) a.1 a.2 b.1 b.2 hW
/-- what is left after the true digit -/
theorem yy_dg {W V G r P : Nat} (hV : 0 < V) (h1 : W / V ≤ G) (h2 : G ≤ W / V + 1) (hP : V ≤ P) (h : r + G * V = W + (if W < G * V then P else 0)) :
    (W < G * V → G - 1 = W / V ∧ (r + V) % P = W % V) ∧ (¬ W < G * V → G = W / V ∧ r = W % V) := by
  have e := Nat.div_add_mod W V
  have hm := Nat.mod_lt W hV
  generalize W / V = q at *
  generalize W % V = s at *
  constructor
  · intro h5
    rw [if_pos h5] at h
    have h6 : G = q + 1 := by
      rcases Nat.lt_or_ge q G with h7 | h7
      · omega
      · have : G = q := by omega
        subst this
        rw [Nat.mul_comm] at h5
        omega
    subst h6
    refine ⟨by omega, ?_⟩
    have e2 : r + V = s + P := by rw [Nat.add_mul, Nat.one_mul, Nat.mul_comm q V] at h; omega
    rw [e2, Nat.add_mod_right, Nat.mod_eq_of_lt (by omega)]
  · intro h5
    rw [if_neg h5] at h
    have h6 : G = q := by
      rcases Nat.lt_or_ge q G with h7 | h7
      · have h8 : (q + 1) * V ≤ G * V := Nat.mul_le_mul_right V h7
        rw [Nat.add_mul, Nat.one_mul, Nat.mul_comm q V] at h8
        omega
      · omega
    subst h6
    refine ⟨rfl, ?_⟩
    rw [Nat.mul_comm] at h
    omega
/-- a top digit that is 0 -/
theorem yy_tz {β : Nat} {D : Nat → Nat} {n : Nat} (h : yy_val β D (n + 1) < β ^ n) : D n = 0 ∧ yy_val β D (n + 1) = yy_val β D n := by
  have e : yy_val β D (n + 1) = yy_val β D n + D n * β ^ n := rfl
  have h0 : D n = 0 := by
    apply Nat.eq_zero_of_not_pos
    intro q
    have : 1 * β ^ n ≤ D n * β ^ n := Nat.mul_le_mul_right _ q
    omega
  refine ⟨h0, ?_⟩
  rw [e, h0]; simp
theorem yy_us {S E x y : Nat} (hS : 0 < S) (hE : 0 < E) : ((y * E + x / S) % (S * E)) * S + x % S = x + (y % S) * (S * E) ∨ S * E ≤ x := by
  rcases Nat.lt_or_ge x (S * E) with h | h
  · left
    have ex := Nat.div_add_mod x S
    have ey := Nat.div_add_mod y S
    have ha : x / S < E := Nat.div_lt_of_lt_mul h
    have hd : y % S < S := Nat.mod_lt y hS
    generalize x / S = a at *
    generalize x % S = b at *
    generalize y / S = c at *
    generalize y % S = d at *
    have e1 : y * E + a = (d * E + a) + S * E * c := by rw [← ey]; grind
    have h2 : d * E + a < S * E := by
      have : (d + 1) * E ≤ S * E := Nat.mul_le_mul_right E hd
      rw [Nat.add_mul, Nat.one_mul] at this
      omega
    rw [e1, Nat.add_mul_mod_self_left, Nat.mod_eq_of_lt h2, ← ex]
    grind
  · exact Or.inr h
theorem yy_uv {S E : Nat} {X U : Nat → Nat} (hS : 0 < S) (hE : 0 < E) : ∀ n, (∀ j, j ≤ n → X j < S * E) → (∀ j, j < n → U j = (X (j + 1) * E + X j / S) % (S * E)) → yy_val (S * E) U n * S + X 0 % S = yy_val (S * E) X n + (X n % S) * (S * E) ^ n := by
  intro n
  induction n with
  | zero => intro _ _; show 0 * S + _ = 0 + _ * _; simp
  | succ n ih =>
    intro hX hU
    have h1 := ih (fun j hj => hX j (by omega)) (fun j hj => hU j (by omega))
    have h2 := (yy_us (y := X (n + 1)) (x := X n) hS hE).resolve_right (by have := hX n (by omega); omega)
    show (yy_val (S * E) U n + U n * (S * E) ^ n) * S + _ = yy_val (S * E) X n + X n * (S * E) ^ n + _
    rw [hU n (by omega), Nat.pow_succ]
    generalize (X (n + 1) * E + X n / S) % (S * E) = Z at *
    generalize (S * E) ^ n = P at *
    grind
/-- a window shifted back -/
theorem yy_uz {S E R n : Nat} {X U : Nat → Nat} (hS : 0 < S) (hE : 0 < E) (hn : 0 < n) (hX : ∀ j, j ≤ n → X j < S * E) (h0 : X n = 0) (hv : yy_val (S * E) X n = R * S) (hU : ∀ j, j < n → U j = (X (j + 1) * E + X j / S) % (S * E)) : yy_val (S * E) U n = R := by
  have h := yy_uv hS hE n hX hU
  rw [h0, Nat.zero_mod, Nat.zero_mul, Nat.add_zero, hv] at h
  have h1 : X 0 % S = 0 := by
    obtain ⟨m, rfl⟩ : ∃ m, n = m + 1 := ⟨n - 1, by omega⟩
    rw [yy_val_cons] at hv
    have : X 0 % S = (X 0 + S * E * yy_val (S * E) (fun j => X (j + 1)) m) % S := by rw [Nat.mul_assoc, Nat.add_mul_mod_self_left]
    rw [this, hv, Nat.mul_mod_left]
  rw [h1, Nat.add_zero] at h
  exact Nat.eq_of_mul_eq_mul_right hS h
def yy_qt (u w : Int) : Int := u.sign * w.sign * ((u.natAbs / w.natAbs : Nat) : Int)
def yy_rm (u w : Int) : Int := u.sign * ((u.natAbs % w.natAbs : Nat) : Int)
theorem yy_sna (u : Int) : u.sign * (u.natAbs : Int) = u := Int.sign_mul_natAbs u
theorem yy_rm_abs (u : Int) (n : Nat) (hn : n ≤ u.natAbs) : (u.sign * (n : Int)).natAbs = n := by
  rcases Int.lt_trichotomy u 0 with h | h | h
  · rw [Int.sign_eq_neg_one_of_neg h]; omega
  · subst h; simp at hn; subst hn; rfl
  · rw [Int.sign_eq_one_of_pos h]; omega
theorem yy_rm_sign (u : Int) (n : Nat) (h0 : u.sign * (n : Int) ≠ 0) : u.sign = (u.sign * (n : Int)).sign := by
  rcases Int.lt_trichotomy u 0 with h | h | h
  · rw [Int.sign_eq_neg_one_of_neg h] at h0 ⊢
    rw [Int.sign_eq_neg_one_of_neg (by omega)]
  · subst h; exact absurd (by show (0 : Int) * _ = 0; simp) h0
  · rw [Int.sign_eq_one_of_pos h] at h0 ⊢
    rw [Int.sign_eq_one_of_pos (by omega)]
theorem yy_qt_abs (u w : Int) : (yy_qt u w).natAbs = u.natAbs / w.natAbs := by
  unfold yy_qt
  rcases Int.lt_trichotomy u 0 with h | h | h
  · rcases Int.lt_trichotomy w 0 with g | g | g
    · rw [Int.sign_eq_neg_one_of_neg h, Int.sign_eq_neg_one_of_neg g]; generalize u.natAbs / w.natAbs = q; omega
    · subst g; simp
    · rw [Int.sign_eq_neg_one_of_neg h, Int.sign_eq_one_of_pos g]; generalize u.natAbs / w.natAbs = q; omega
  · subst h; simp
  · rcases Int.lt_trichotomy w 0 with g | g | g
    · rw [Int.sign_eq_one_of_pos h, Int.sign_eq_neg_one_of_neg g]; generalize u.natAbs / w.natAbs = q; omega
    · subst g; simp
    · rw [Int.sign_eq_one_of_pos h, Int.sign_eq_one_of_pos g]; generalize u.natAbs / w.natAbs = q; omega
theorem yy_qt_sign (u w : Int) (h0 : yy_qt u w ≠ 0) : u.sign * w.sign = (yy_qt u w).sign := by
  unfold yy_qt at h0 ⊢
  rcases Int.lt_trichotomy u 0 with h | h | h
  · rcases Int.lt_trichotomy w 0 with g | g | g
    · rw [Int.sign_eq_neg_one_of_neg h, Int.sign_eq_neg_one_of_neg g] at h0 ⊢; generalize u.natAbs / w.natAbs = q at h0 ⊢; rw [Int.sign_eq_one_of_pos (a := -1 * -1 * _) (by omega)]; rfl
    · subst g; exact absurd (by simp) h0
    · rw [Int.sign_eq_neg_one_of_neg h, Int.sign_eq_one_of_pos g] at h0 ⊢; generalize u.natAbs / w.natAbs = q at h0 ⊢; rw [Int.sign_eq_neg_one_of_neg (a := -1 * 1 * _) (by omega)]; rfl
  · subst h; exact absurd (by simp) h0
  · rcases Int.lt_trichotomy w 0 with g | g | g
    · rw [Int.sign_eq_one_of_pos h, Int.sign_eq_neg_one_of_neg g] at h0 ⊢; generalize u.natAbs / w.natAbs = q at h0 ⊢; rw [Int.sign_eq_neg_one_of_neg (a := 1 * -1 * _) (by omega)]; rfl
    · subst g; exact absurd (by simp) h0
    · rw [Int.sign_eq_one_of_pos h, Int.sign_eq_one_of_pos g] at h0 ⊢; generalize u.natAbs / w.natAbs = q at h0 ⊢; rw [Int.sign_eq_one_of_pos (a := 1 * 1 * _) (by omega)]; rfl
/-- a Divider at b, as its constructor lays it -/
def xx_dv (B : xx_H) (b c : Nat) : Prop := ∃ f g, B.2 b = xx_o 1 [.ref (b + 1), .ref (b + 2), .ref (b + 3), .ref (b + 5), .ref (b + 7), .ref c] ∧ B.2 (b + 1) = xx_i 15 f ∧ B.2 (b + 2) = xx_i 15 g
theorem xx_dv.to {B C : xx_H} {b c : Nat} (h : xx_dv B b c) (h0 : C.2 b = B.2 b) (h1 : C.2 (b + 1) = B.2 (b + 1)) (h2 : C.2 (b + 2) = B.2 (b + 2)) : xx_dv C b c := by
  obtain ⟨f, g, g1, g2, g3⟩ := h
  exact ⟨f, g, h0.trans g1, h1.trans g2, h2.trans g3⟩
/-- the window one place lower -/
theorem yy_wstep {β n m VV XX Wv Zv q r x P NN : Nat} (h : XX + x * P + P * β * Wv + P * β * Zv * VV = NN) (hW : x + β * Wv = q * VV + r) : XX + P * r + P * (q + β * Zv) * VV = NN := by
  have e : P * (x + β * Wv) = P * (q * VV + r) := by rw [hW]
  rw [← h]
  grind
theorem yy_iz0 (u w : Int) (h : iz (u.sign * w.sign) = 0) : u.sign * w.sign = 0 := by
  have h9 := congrArg Int32.toInt h
  have e : (iz (u.sign * w.sign)).toInt = u.sign * w.sign := by
    rcases Int.lt_trichotomy u 0 with a | a | a <;> rcases Int.lt_trichotomy w 0 with b | b | b <;> first | subst a | rw [Int.sign_eq_neg_one_of_neg a] | rw [Int.sign_eq_one_of_pos a]
    all_goals first | subst b | rw [Int.sign_eq_neg_one_of_neg b] | rw [Int.sign_eq_one_of_pos b]
    all_goals decide
  rw [e] at h9
  exact h9.trans (by decide)
theorem yy_len {f g : Nat → Int32} {la lb m n : Nat} (h1 : yy_dig f la m) (h2 : yy_dig g lb n) (h : la < lb) : m < n := by
  have a := h1.lt
  obtain ⟨k, rfl⟩ : ∃ k, lb = k + 1 := ⟨lb - 1, by omega⟩
  have b := h2.ge
  have c : yB ^ la ≤ yB ^ k := Nat.pow_le_pow_right (by decide) (by omega)
  omega
set_option maxRecDepth 100000 in
theorem l_X1_ds {G : xx_G} {l : Launch} {A : xx_H} {b c x z sz sh pl NN : Nat} {t0 t1 : Value} {way : Int32} {g : Nat → Int32} {X Y : Nat → Nat} {v : Nat} {Q : Option Value ⊕ String → xx_H → Prop} (hb : A.2 b = xx_o 1 [.ref (b + 1), .ref (b + 2), .ref (b + 3), .ref (b + 5), .ref (b + 7), .ref c]) (hy : A.2 (b + 2) = xx_i 15 g) (hz : A.2 z = xx_o 0 [t0, t1, .ref (z + 1)]) (n2 : z + 2 ≤ b ∨ b + 3 ≤ z) (hs : 2 ≤ sz) (hp : pl + sz ≤ 15) (hX : ∀ i, i < pl + sz → X i < yB) (hY : ∀ i, i < sz → Y i < yB ∧ g i = nI (Y i)) (hn : yB ≤ 2 * Y (sz - 1)) (k : ∀ (B : xx_H) (f1 h1 : Nat → Int32) (Wd Z : Nat → Nat), B.1 = A.1 → B.2 (b + 1) = xx_i 15 f1 → B.2 (z + 1) = xx_i 14 h1 → (∀ j, j < 0 → f1 j = nI (X j)) → (∀ j, j < sz → Wd j < yB ∧ f1 (0 + j) = nI (Wd j)) → (0 < pl → f1 (0 + sz) = nI 0) → yy_val yB Wd sz < yy_val yB Y sz → (∀ j, 0 ≤ j → j < pl → Z j < yB ∧ h1 j = nI (Z j)) → yy_val yB X 0 + yB ^ 0 * yy_val yB Wd sz + yB ^ 0 * yy_val yB (yy_sh Z 0) (pl - 0) * yy_val yB Y sz = NN → (∀ q, q ≠ b + 1 → q ≠ z + 1 → B.2 q = A.2 q) → xx_X G l mX1_divideByDigits 2 0 0 117 [(0, .ref b), (1, .ref x), (3, .ref z), (4, .int way), (5, .int (nI sz)), (6, .int (nI pl)), (7, .int (nI sh))] [] B Q) :
    ∀ (n : Nat), n ≤ pl → ∀ (B : xx_H) (f1 h1 : Nat → Int32) (Wd Z : Nat → Nat), B.1 = A.1 → B.2 (b + 1) = xx_i 15 f1 → B.2 (z + 1) = xx_i 14 h1 → (∀ j, j < n → f1 j = nI (X j)) → (∀ j, j < sz → Wd j < yB ∧ f1 (n + j) = nI (Wd j)) → (n < pl → f1 (n + sz) = nI 0) → yy_val yB Wd sz < yy_val yB Y sz → (∀ j, n ≤ j → j < pl → Z j < yB ∧ h1 j = nI (Z j)) → yy_val yB X n + yB ^ n * yy_val yB Wd sz + yB ^ n * yy_val yB (yy_sh Z n) (pl - n) * yy_val yB Y sz = NN → (∀ q, q ≠ b + 1 → q ≠ z + 1 → B.2 q = A.2 q) → xx_X G l mX1_divideByDigits 2 0 0 59 [(0, .ref b), (1, .ref x), (2, .ref v), (3, .ref z), (4, .int way), (5, .int (nI sz)), (6, .int (nI pl)), (7, .int (nI sh)), (8, .int (nI n + (-1)))] [] B Q := by
  intro n
  induction n with
  | zero =>
    intro hn9 B f1 h1 Wd Z y1 y2 y3 y4 y5 y6 y7 y8 y9 y0
    refine xx_clv (lv2 := [(0, .ref b), (1, .ref x), (2, .ref v), (3, .ref z), (4, .int way), (5, .int (nI sz)), (6, .int (nI pl)), (7, .int (nI sh)), (8, .int (-1))]) rfl ?_
    refine xx_iload dX1_divideByDigits_59 rfl ?_
    refine xx_if_lt (tgt := 117) dX1_divideByDigits_61 (by decide) (fun j61 => ?_) (fun h => absurd (by decide) h)
    refine xx_less [0, 1, 3, 4, 5, 6, 7] ?_
    refine xx_clv (lv2 := [(0, .ref b), (1, .ref x), (3, .ref z), (4, .int way), (5, .int (nI sz)), (6, .int (nI pl)), (7, .int (nI sh))]) rfl ?_
    exact k B f1 h1 Wd Z y1 y2 y3 y4 y5 y6 y7 y8 y9 y0
  | succ n ih =>
    intro hn9 B f1 h1 Wd Z y1 y2 y3 y4 y5 y6 y7 y8 y9 y0
    have hb2 := (y0 b (by omega) (by omega)).trans hb
    have hy2 := (y0 (b + 2) (by omega) (by omega)).trans hy
    have hz2 := (y0 z (by omega) (by omega)).trans hz
    have wX : ∀ i, i ≤ sz → yy_cs (X n) Wd i < yB ∧ f1 (n + i) = nI (yy_cs (X n) Wd i) := by
      intro i hi
      unfold yy_cs
      by_cases e : i = 0
      · subst e; rw [if_pos rfl]; exact ⟨hX n (by omega), y4 n (by omega)⟩
      · rw [if_neg e]
        have := y5 (i - 1) (by omega)
        rw [show n + 1 + (i - 1) = n + i by omega] at this
        exact this
    have wW : yy_val yB (yy_cs (X n) Wd) (sz + 1) = X n + yB * yy_val yB Wd sz := yy_cs_val sz
    have wV0 : 0 < yy_val yB Y sz := Nat.lt_of_le_of_lt (Nat.zero_le _) y7
    have wVP : yy_val yB Y sz < yB ^ sz := yy_val_lt (fun i hi => (hY i hi).1)
    have wL : yy_val yB (yy_cs (X n) Wd) (sz + 1) < yB * yy_val yB Y sz := by
      rw [wW]
      have a1 : yB * (yy_val yB Wd sz + 1) ≤ yB * yy_val yB Y sz := Nat.mul_le_mul_left _ y7
      have a2 := hX n (by omega)
      rw [Nat.mul_add] at a1
      omega
    obtain ⟨g1, g2, g3⟩ := yy_gw (β := yB) (by decide) hs (fun i hi => (wX i hi).1) (fun i hi => (hY i hi).1) hn wL
    have hG := c_X1_guess (G := G) (l := l) (A := B) hb2 y2 hy2 (by omega) (by omega) (show n + sz < 15 by omega) wX hY hs hn
    generalize hGd : (yy_gr yB (Y (sz - 1)) (Y (sz - 2)) (yy_cs (X n) Wd (sz - 2)) 3 ((yy_cs (X n) Wd sz * yB + yy_cs (X n) Wd (sz - 1)) / Y (sz - 1), (yy_cs (X n) Wd sz * yB + yy_cs (X n) Wd (sz - 1)) % Y (sz - 1))).1 = Gd at g1 g2 g3 hG
    have g3 : Gd < 2147483648 := g3
    -- what both ways end in
    have J : ∀ (C : xx_H) (f2 : Nat → Int32) (R : Nat → Nat), C.1 = B.1 → C.2 (b + 1) = xx_i 15 f2 → (∀ j, j ≤ sz → R j < yB ∧ f2 (n + j) = nI (R j)) → (∀ j, j < n ∨ n + sz < j → f2 j = f1 j) → yy_val yB R (sz + 1) = yy_val yB (yy_cs (X n) Wd) (sz + 1) % yy_val yB Y sz → (∀ q, q ≠ b + 1 → C.2 q = B.2 q) → xx_X G l mX1_divideByDigits 2 0 0 101 [(0, .ref b), (1, .ref x), (2, .ref v), (3, .ref z), (4, .int way), (5, .int (nI sz)), (6, .int (nI pl)), (7, .int (nI sh)), (8, .int (nI n)), (9, .long (lN (yy_val yB (yy_cs (X n) Wd) (sz + 1) / yy_val yB Y sz)))] [] C Q := by
      intro C f2 R k1 k2 k3 k4 k5 k6
      have hz3 := (k6 z (by omega)).trans hz2
      have hh3 := (k6 (z + 1) (by omega)).trans y3
      have hqb : yy_val yB (yy_cs (X n) Wd) (sz + 1) / yy_val yB Y sz < yB := Nat.div_lt_of_lt_mul (by rw [Nat.mul_comm]; exact wL)
      have hml := Nat.mod_lt (yy_val yB (yy_cs (X n) Wd) (sz + 1)) wV0
      obtain ⟨r1, r2⟩ := yy_tz (β := yB) (D := R) (n := sz) (by rw [k5]; omega)
      have hdm := Nat.div_add_mod (yy_val yB (yy_cs (X n) Wd) (sz + 1)) (yy_val yB Y sz)
      rw [r2] at k5
      rw [← k5] at hdm hml
      generalize hq0 : yy_val yB (yy_cs (X n) Wd) (sz + 1) / yy_val yB Y sz = q0 at *
      rw [wW] at hdm
      have hqb : q0 < 2147483648 := hqb
      refine xx_aload_n dX1_divideByDigits_101 rfl ?_
      refine xx_get xx_c0 dX1_divideByDigits_102 wf_X1_60 (j := 2) (by decide) hz3 rfl ?_
      refine xx_iload dX1_divideByDigits_105 rfl ?_
      refine xx_lload dX1_divideByDigits_107 rfl ?_
      refine xx_l2i dX1_divideByDigits_109 ?_
      refine xx_eqi (y := nI q0) (lN_i _) ?_
      refine xx_iast dX1_divideByDigits_110 hh3 (vp_in_nI (by omega) (by decide)) (xx_gu fun D z1 d1 o1 => ?_)
      rw [nI_clamp (by omega)] at d1
      refine xx_iinc (v := nI n + (-1)) dX1_divideByDigits_111 rfl rfl (by decide) ?_
      refine xx_goto (tgt := 59) dX1_divideByDigits_114 (by decide) ?_
      refine xx_less [0, 1, 2, 3, 4, 5, 6, 7, 8] ?_
      refine xx_clv (lv2 := [(0, .ref b), (1, .ref x), (2, .ref v), (3, .ref z), (4, .int way), (5, .int (nI sz)), (6, .int (nI pl)), (7, .int (nI sh)), (8, .int (nI n + (-1)))]) rfl ?_
      refine ih (by omega) D f2 (upd h1 n (nI q0)) R (yy_ud Z n q0) (by omega) ((o1 (b + 1) (by omega)).trans k2) d1 (fun j hj => (k4 j (by omega)).trans (y4 j (by omega))) (fun j hj => k3 j (by omega)) (fun _ => by rw [(k3 sz (Nat.le_refl _)).2, r1]) hml (fun j h5 h6 => ?_) ?_ (fun q h5 h6 => (o1 q h6).trans ((k6 q h5).trans (y0 q h5 h6)))
      · by_cases e9 : j = n
        · subst e9; rw [pk_us, yy_ud_s]; exact ⟨hqb, rfl⟩
        · rw [pk_un e9, yy_ud_n e9]; exact y8 j (by omega) h6
      · have e1 : pl - n = pl - (n + 1) + 1 := by omega
        rw [e1, yy_sh_cons, yy_ud_s]
        have e2 : yy_val yB (yy_sh (yy_ud Z n q0) (n + 1)) (pl - (n + 1)) = yy_val yB (yy_sh Z (n + 1)) (pl - (n + 1)) := yy_val_ext (fun i _ => yy_ud_n (by omega))
        rw [e2]
        have e3 : yy_val yB X (n + 1) = yy_val yB X n + X n * yB ^ n := rfl
        rw [e3, Nat.pow_succ] at y9
        exact yy_wstep (n := 0) (m := 0) y9 (by rw [Nat.mul_comm q0]; exact hdm.symm)
    refine xx_clv (lv2 := [(0, .ref b), (1, .ref x), (2, .ref v), (3, .ref z), (4, .int way), (5, .int (nI sz)), (6, .int (nI pl)), (7, .int (nI sh)), (8, .int (nI n))]) (by rw [pk_m1]) ?_
    refine xx_iload dX1_divideByDigits_59 rfl ?_
    refine xx_if_lt (tgt := 117) dX1_divideByDigits_61 (by decide) (fun h => absurd h (nI_pos (by omega))) (fun j61 => ?_)
    refine xx_aload_n dX1_divideByDigits_64 rfl ?_
    refine xx_iload dX1_divideByDigits_65 rfl ?_
    refine xx_iload dX1_divideByDigits_67 rfl ?_
    refine xx_callV (N := mX1_guess) (vs := [.int (nI n), .int (nI sz)]) (b := b) (rest := []) (d2 := 1) (c2 := 0) (s2 := 0) (c3 := 0) (s3 := 0) dX1_divideByDigits_69 wm_X1_92 wi_X1_guess wv_X1_guess (k := 1) rfl (by decide) hb2 nX1_guess ⟨pX1_guess, Nat.le_of_ble_eq_true rfl, by decide, Nat.le_of_ble_eq_true rfl, by decide, by decide⟩ (hG) (fun v9 B9 hC => ?_) (fun E9 B9 hC => absurd hC.1 (by simp))
    obtain ⟨hv9, rfl⟩ := hC
    cases hv9
    refine xx_cst (st2 := [.long (lN Gd)]) rfl ?_
    refine xx_lstore dX1_divideByDigits_72 (by decide) ?_
    refine xx_clv (lv2 := [(0, .ref b), (1, .ref x), (2, .ref v), (3, .ref z), (4, .int way), (5, .int (nI sz)), (6, .int (nI pl)), (7, .int (nI sh)), (8, .int (nI n)), (9, .long (lN Gd))]) rfl ?_
    refine xx_aload_n dX1_divideByDigits_74 rfl ?_
    refine xx_lload dX1_divideByDigits_75 rfl ?_
    refine xx_iload dX1_divideByDigits_77 rfl ?_
    refine xx_iload dX1_divideByDigits_79 rfl ?_
    refine xx_callV (N := mX1_takeAway) (vs := [.long (lN Gd), .int (nI n), .int (nI sz)]) (b := b) (rest := []) (d2 := 0) (c2 := 0) (s2 := 0) (c3 := 0) (s3 := 0) dX1_divideByDigits_81 wm_X1_96 wi_X1_takeAway wv_X1_takeAway (k := 1) rfl (by decide) hb2 nX1_takeAway ⟨pX1_takeAway, Nat.le_of_ble_eq_true rfl, by decide, Nat.le_of_ble_eq_true rfl, by decide, by decide⟩ (c_X1_takeAway (dg := Gd) hb2 y2 hy2 (by omega) (by omega) (show n + sz < 15 by omega) wX hY g3) (fun v9 C hC => ?_) (fun E9 B9 hC => absurd hC.1 (by simp))
    obtain ⟨hv9, k1, ⟨f2, R, k2, k3, k4, k5⟩, k6⟩ := hC
    cases hv9
    refine xx_cst (st2 := [.int (if yy_val yB (yy_cs (X n) Wd) (sz + 1) < Gd * yy_val yB Y sz then 1 else 0)]) rfl ?_
    obtain ⟨w1, w2⟩ := yy_dg wV0 g1 g2 (P := yB ^ (sz + 1)) (by rw [Nat.pow_succ]; have : yB ^ sz * 1 ≤ yB ^ sz * yB := Nat.mul_le_mul_left _ (by decide); omega) k5
    have hb3 := (k6 b (by omega)).trans hb2
    have hy3 := (k6 (b + 2) (by omega)).trans hy2
    refine xx_if_eq (tgt := 101) dX1_divideByDigits_84 (by decide) (fun j84 => ?_) (fun j84 => ?_)
    · have hge : ¬ yy_val yB (yy_cs (X n) Wd) (sz + 1) < Gd * yy_val yB Y sz := by
        intro q; rw [if_pos q] at j84; exact absurd j84 (by decide)
      obtain ⟨w3, w4⟩ := w2 hge
      rw [w3]
      exact J C f2 R k1 k2 k3 k4 w4 k6
    · refine xx_lload dX1_divideByDigits_87 rfl ?_
      refine xx_lconst (v := 1) dX1_divideByDigits_89 (by decide) ?_
      have hlt : yy_val yB (yy_cs (X n) Wd) (sz + 1) < Gd * yy_val yB Y sz := by
        apply Classical.byContradiction; intro q; exact j84 (if_neg q)
      obtain ⟨w3, w4⟩ := w1 hlt
      have hG1 : 1 ≤ Gd := by apply Nat.pos_of_ne_zero; intro q; rw [q, Nat.zero_mul] at hlt; omega
      refine xx_lsub dX1_divideByDigits_90 ?_
      refine xx_eql (y := lN (Gd - 1)) (lN_sub (a := Gd) (b := 1) (by omega)) ?_
      refine xx_lstore dX1_divideByDigits_91 (by decide) ?_
      refine xx_clv (lv2 := [(0, .ref b), (1, .ref x), (2, .ref v), (3, .ref z), (4, .int way), (5, .int (nI sz)), (6, .int (nI pl)), (7, .int (nI sh)), (8, .int (nI n)), (9, .long (lN (Gd - 1)))]) rfl ?_
      refine xx_aload_n dX1_divideByDigits_93 rfl ?_
      refine xx_iload dX1_divideByDigits_94 rfl ?_
      refine xx_iload dX1_divideByDigits_96 rfl ?_
      refine xx_callV (N := mX1_putBack) (vs := [.int (nI n), .int (nI sz)]) (b := b) (rest := []) (d2 := 0) (c2 := 0) (s2 := 0) (c3 := 0) (s3 := 0) dX1_divideByDigits_98 wm_X1_100 wi_X1_putBack wv_X1_putBack (k := 1) rfl (by decide) hb3 nX1_putBack ⟨pX1_putBack, Nat.le_of_ble_eq_true rfl, by decide, Nat.le_of_ble_eq_true rfl, by decide, by decide⟩ (c_X1_putBack hb3 k2 hy3 (by omega) (by omega) (show n + sz < 15 by omega) k3 hY) (fun v9 D hC => ?_) (fun E9 B9 hC => absurd hC.1 (by simp))
      obtain ⟨hv8, m1, ⟨f3, R3, m2, m3, m4, m5⟩, m6⟩ := hC
      cases hv8
      refine xx_cst (st2 := []) rfl ?_
      refine xx_clv (lv2 := [(0, .ref b), (1, .ref x), (2, .ref v), (3, .ref z), (4, .int way), (5, .int (nI sz)), (6, .int (nI pl)), (7, .int (nI sh)), (8, .int (nI n)), (9, .long (lN (Gd - 1)))]) rfl ?_
      rw [w3]
      exact J D f3 R3 (m1.trans k1) m2 m3 (fun j hj => (m4 j hj).trans (k4 j hj)) (m5.trans w4) (fun q hq => (m6 q hq).trans (k6 q hq))
set_option maxRecDepth 100000 in
theorem l_X1_un {G : xx_G} {l : Launch} {A : xx_H} {b c x sz sh : Nat} {t0 t1 : Value} {f : Nat → Int32} {X : Nat → Nat} {Q : Option Value ⊕ String → xx_H → Prop} (hb : A.2 b = xx_o 1 [.ref (b + 1), .ref (b + 2), .ref (b + 3), .ref (b + 5), .ref (b + 7), .ref c]) (hr : A.2 (b + 1) = xx_i 15 f) (hx : A.2 x = xx_o 0 [t0, t1, .ref (x + 1)]) (n1 : x + 2 ≤ b ∨ b + 3 ≤ x) (hs : sz ≤ 14) (hsh : sh ≤ 30) (hX : ∀ i, i ≤ sz → X i < yB ∧ f i = nI (X i)) (k : ∀ (B : xx_H) (g1 : Nat → Int32), B.1 = A.1 → B.2 (x + 1) = xx_i 14 g1 → (∀ j, j < sz → g1 j = nI ((X (j + 1) * 2 ^ 31 + X j) / 2 ^ sh % 2147483648)) → (∀ q, q ≠ x + 1 → B.2 q = A.2 q) → xx_X G l mX1_divideByDigits 2 0 0 182 [(1, .ref x), (5, .int (nI sz))] [] B Q) :
    ∀ (n i : Nat), i + n = sz → ∀ (B : xx_H) (g1 : Nat → Int32), B.1 = A.1 → B.2 (x + 1) = xx_i 14 g1 → (∀ j, j < i → g1 j = nI ((X (j + 1) * 2 ^ 31 + X j) / 2 ^ sh % 2147483648)) → (∀ q, q ≠ x + 1 → B.2 q = A.2 q) → xx_X G l mX1_divideByDigits 2 0 0 128 [(0, .ref b), (1, .ref x), (5, .int (nI sz)), (7, .int (nI sh)), (8, .int (nI i))] [] B Q := by
  intro n
  induction n with
  | zero =>
    intro i hi B g1 y1 y2 y3 y4
    have : i = sz := by omega
    subst this
    refine xx_iload dX1_divideByDigits_128 rfl ?_
    refine xx_iload dX1_divideByDigits_130 rfl ?_
    refine xx_icmp_ge (tgt := 182) dX1_divideByDigits_132 (by decide) (fun j132 => ?_) (fun h => absurd (Int32.le_refl _) h)
    refine xx_less [1, 5] ?_
    refine xx_clv (lv2 := [(1, .ref x), (5, .int (nI i))]) rfl ?_
    exact k B g1 y1 y2 y3 y4
  | succ n ih =>
    intro i hi B g1 y1 y2 y3 y4
    have hb2 := (y4 b (by omega)).trans hb
    have hr2 := (y4 (b + 1) (by omega)).trans hr
    have hx2 := (y4 x (by omega)).trans hx
    obtain ⟨p1, q1⟩ := hX i (by omega)
    have p1 : X i < 2147483648 := p1
    obtain ⟨p2, q2⟩ := hX (i + 1) (by omega)
    have p2 : X (i + 1) < 2147483648 := p2
    have hdv : (X (i + 1) * 2 ^ 31 + X i) / 2 ^ sh ≤ X (i + 1) * 2 ^ 31 + X i := Nat.div_le_self _ _
    refine xx_iload dX1_divideByDigits_128 rfl ?_
    refine xx_iload dX1_divideByDigits_130 rfl ?_
    refine xx_icmp_ge (tgt := 182) dX1_divideByDigits_132 (by decide) (fun h => absurd h (nI_ge (by omega) (by omega))) (fun j132 => ?_)
    refine xx_aload_n dX1_divideByDigits_135 rfl ?_
    refine xx_get xx_c1 dX1_divideByDigits_136 wf_X1_9 (j := 0) (by decide) hb2 rfl ?_
    refine xx_iload dX1_divideByDigits_139 rfl ?_
    refine xx_iconst (v := 1) dX1_divideByDigits_141 (by decide) ?_
    refine xx_iadd dX1_divideByDigits_142 ?_
    refine xx_eqi (y := nI (i + 1)) (nI_add i 1) ?_
    refine xx_iald dX1_divideByDigits_143 hr2 (vp_in_nI (by omega) (by decide)) ?_
    refine xx_eqi (y := nI (X (i + 1))) (by rw [nI_clamp (by omega)]; exact q2) ?_
    refine xx_i2l dX1_divideByDigits_144 ?_
    refine xx_eql (y := lN (X (i + 1))) (nI_l (by omega)) ?_
    refine xx_bipush (v := 31) dX1_divideByDigits_145 (by decide) ?_
    refine xx_lshl dX1_divideByDigits_147 ?_
    refine xx_eql (y := lN ((X (i + 1)) * 2 ^ 31)) (wb_shl (X (i + 1)) (k := 31) (by omega)) ?_
    refine xx_aload_n dX1_divideByDigits_148 rfl ?_
    refine xx_get xx_c1 dX1_divideByDigits_149 wf_X1_9 (j := 0) (by decide) hb2 rfl ?_
    refine xx_iload dX1_divideByDigits_152 rfl ?_
    refine xx_iald dX1_divideByDigits_154 hr2 (vp_in_nI (by omega) (by decide)) ?_
    refine xx_eqi (y := nI (X i)) (by rw [nI_clamp (by omega)]; exact q1) ?_
    refine xx_i2l dX1_divideByDigits_155 ?_
    refine xx_eql (y := lN (X i)) (nI_l (by omega)) ?_
    refine xx_lor dX1_divideByDigits_156 ?_
    refine xx_eql (y := lN (X (i + 1) * 2 ^ 31 + X i)) (yy_lor2 (by omega) (by omega)) ?_
    refine xx_lstore dX1_divideByDigits_157 (by decide) ?_
    refine xx_clv (lv2 := [(0, .ref b), (1, .ref x), (5, .int (nI sz)), (7, .int (nI sh)), (8, .int (nI i)), (9, .long (lN (X (i + 1) * 2 ^ 31 + X i)))]) rfl ?_
    refine xx_aload_n dX1_divideByDigits_159 rfl ?_
    refine xx_get xx_c0 dX1_divideByDigits_160 wf_X1_60 (j := 2) (by decide) hx2 rfl ?_
    refine xx_iload dX1_divideByDigits_163 rfl ?_
    refine xx_lload dX1_divideByDigits_165 rfl ?_
    refine xx_iload dX1_divideByDigits_167 rfl ?_
    refine xx_lshr dX1_divideByDigits_169 ?_
    refine xx_eql (y := lN ((X (i + 1) * 2 ^ 31 + X i) / 2 ^ sh)) (yy_lshr (by omega) (by omega)) ?_
    refine xx_ldc2 (v := 2147483647) dX1_divideByDigits_170 wk_X1_103 ?_
    refine xx_land dX1_divideByDigits_173 ?_
    refine xx_eql (y := lN (((X (i + 1) * 2 ^ 31 + X i) / 2 ^ sh) % 2147483648)) (yy_and31 (by omega)) ?_
    refine xx_l2i dX1_divideByDigits_174 ?_
    refine xx_eqi (y := nI (((X (i + 1) * 2 ^ 31 + X i) / 2 ^ sh) % 2147483648)) (lN_i _) ?_
    refine xx_iast dX1_divideByDigits_175 y2 (vp_in_nI (by omega) (by decide)) (xx_gu fun C z1 h1 o1 => ?_)
    rw [nI_clamp (by omega)] at h1
    refine xx_iinc (v := nI (i + 1)) dX1_divideByDigits_176 rfl (nI_1 i) (by decide) ?_
    refine xx_goto (tgt := 128) dX1_divideByDigits_179 (by decide) ?_
    refine xx_less [0, 1, 5, 7, 8] ?_
    refine xx_clv (lv2 := [(0, .ref b), (1, .ref x), (5, .int (nI sz)), (7, .int (nI sh)), (8, .int (nI (i + 1)))]) rfl ?_
    refine ih (i + 1) (by omega) C _ (by omega) h1 (fun j hj => ?_) (fun q hq => (o1 q hq).trans (y4 q hq))
    by_cases e : j = i
    · subst e; rw [pk_us]
    · rw [pk_un e]; exact y3 j (by omega)
theorem yy_q0 (u w : Int) (h : u.sign * w.sign = 0 ∨ u.natAbs < w.natAbs) : yy_qt u w = 0 ∧ yy_rm u w = u := by
  unfold yy_qt yy_rm
  rcases h with h | h
  · rw [h]
    refine ⟨by simp, ?_⟩
    rcases Int.mul_eq_zero.mp h with h | h
    · have := Int.sign_eq_zero_iff_zero.mp h
      subst this; rfl
    · have := Int.sign_eq_zero_iff_zero.mp h
      subst this
      show u.sign * ((u.natAbs % 0 : Nat) : Int) = u
      rw [Nat.mod_zero]; exact yy_sna u
  · rw [Nat.div_eq_of_lt h, Nat.mod_eq_of_lt h]
    exact ⟨by simp, yy_sna u⟩
theorem xx_o_len {q1 q2 : Value} {a b x y : Nat} (h : xx_o 0 [q1, .int (nI a), .ref x] = xx_o 0 [q2, .int (nI b), .ref y]) (ha : a ≤ 14) (hb : b ≤ 14) : a = b := by
  have h9 : Value.int (nI a) = Value.int (nI b) := congrFun (congrArg (fun c : xx_C => c.2.2) h) 1
  have : nI a = nI b := by injection h9
  exact (nI_eq (by omega) (by omega)).mp this
theorem yy_nrm {top sh P vlow : Nat} (h1 : 2 ^ (30 - sh) ≤ top) (h2 : top < 2 ^ (31 - sh)) (hs : sh ≤ 30) (hlow : vlow < P) : 2 ^ 30 * P ≤ (vlow + top * P) * 2 ^ sh ∧ (vlow + top * P) * 2 ^ sh < 2 ^ 31 * P := by
  have e1 : 2 ^ 30 = 2 ^ (30 - sh) * 2 ^ sh := by rw [← Nat.pow_add]; congr 1; omega
  have e2 : 2 ^ 31 = 2 ^ (31 - sh) * 2 ^ sh := by rw [← Nat.pow_add]; congr 1; omega
  have hp : 0 < 2 ^ sh := Nat.two_pow_pos sh
  constructor
  · rw [e1]
    have a1 : 2 ^ (30 - sh) * P ≤ vlow + top * P := by
      have := Nat.mul_le_mul_right P h1
      omega
    have a2 := Nat.mul_le_mul_right (2 ^ sh) a1
    have a3 : 2 ^ (30 - sh) * 2 ^ sh * P = 2 ^ (30 - sh) * P * 2 ^ sh := by rw [Nat.mul_assoc, Nat.mul_comm (2 ^ sh) P, ← Nat.mul_assoc]
    omega
  · rw [e2]
    have a1 : vlow + top * P < 2 ^ (31 - sh) * P := by
      have := Nat.mul_le_mul_right P h2
      rw [Nat.succ_mul] at this
      omega
    have a2 := Nat.mul_lt_mul_of_pos_right a1 hp
    have a3 : 2 ^ (31 - sh) * 2 ^ sh * P = 2 ^ (31 - sh) * P * 2 ^ sh := by rw [Nat.mul_assoc, Nat.mul_comm (2 ^ sh) P, ← Nat.mul_assoc]
    omega
theorem yy_setup {lb sh wv : Nat} {V Y : Nat → Nat} (h2 : 2 ≤ lb) (hV : ∀ i, i < lb → V i < yB) (hY : ∀ i, i < lb + 1 → Y i < yB) (k3 : 2 ^ (30 - sh) ≤ V (lb - 1)) (k4 : V (lb - 1) < 2 ^ (31 - sh)) (hsh : sh ≤ 30) (eV : wv = yy_val yB V lb) (m5 : yy_val yB Y (lb + 1) = yy_val yB V lb * 2 ^ sh) : yB ≤ 2 * Y (lb - 1) ∧ wv * 2 ^ sh = yy_val yB Y lb ∧ yB ^ (lb - 1) ≤ wv := by
  obtain ⟨m, rfl⟩ : ∃ m, lb = m + 1 := ⟨lb - 1, by omega⟩
  rw [Nat.add_sub_cancel] at k3 k4 ⊢
  have hvl := yy_val_lt (β := yB) (D := V) (n := m) (fun i hi => hV i (by omega))
  have hyl := yy_val_lt (β := yB) (D := Y) (n := m) (fun i hi => hY i (by omega))
  have eV2 : wv = yy_val yB V m + V m * yB ^ m := eV
  obtain ⟨r1, r2⟩ := yy_nrm k3 k4 hsh hvl
  rw [← eV2] at r1 r2
  rw [← eV] at m5
  have hPP : yB ^ (m + 1) = 2 ^ 31 * yB ^ m := by rw [Nat.pow_succ, Nat.mul_comm]
  obtain ⟨y1, y2⟩ := yy_tz (β := yB) (D := Y) (n := m + 1) (by rw [m5, hPP]; exact r2)
  rw [m5] at y2
  refine ⟨?_, y2, ?_⟩
  · have e9 : yy_val yB Y (m + 1) = yy_val yB Y m + Y m * yB ^ m := rfl
    rw [y2, e9] at r1
    have h8 : 2 ^ 30 ≤ Y m := by
      apply Nat.le_of_not_lt
      intro h7
      have h6 : (Y m + 1) * yB ^ m ≤ 2 ^ 30 * yB ^ m := Nat.mul_le_mul_right _ h7
      rw [Nat.add_mul, Nat.one_mul] at h6
      omega
    show 2147483648 ≤ _
    omega
  · rw [eV2]
    have h9 : 1 * yB ^ m ≤ V m * yB ^ m := Nat.mul_le_mul_right _ (Nat.lt_of_lt_of_le (Nat.two_pow_pos _) k3)
    omega
theorem yy_setwin {la lb sh uv wv : Nat} {R : Nat → Nat} (hle : lb ≤ la) (h2 : 2 ≤ lb) (hul : uv < yB ^ la) (hvg : yB ^ (lb - 1) ≤ wv) (o5 : yy_val yB R (la + 1) = uv * 2 ^ sh) : uv * 2 ^ sh = yy_val yB R (la - lb + 1) + yB ^ (la - lb + 1) * yy_val yB (yy_sh R (la - lb + 1)) lb ∧ yy_val yB (yy_sh R (la - lb + 1)) lb < wv * 2 ^ sh := by
  obtain ⟨p, rfl⟩ : ∃ p, la = p + lb := ⟨la - lb, by omega⟩
  rw [Nat.add_sub_cancel]
  have hsplit := yy_split (β := yB) R (p + 1) lb
  rw [show p + 1 + lb = p + lb + 1 by omega, o5] at hsplit
  refine ⟨hsplit, ?_⟩
  apply Nat.lt_of_mul_lt_mul_left (a := yB ^ (p + 1))
  have h9 : yB ^ (p + lb) * 2 ^ sh ≤ yB ^ (p + 1) * (wv * 2 ^ sh) := by
    rw [← Nat.mul_assoc]
    apply Nat.mul_le_mul_right
    rw [show p + lb = p + 1 + (lb - 1) by omega, Nat.pow_add]
    exact Nat.mul_le_mul_left _ hvg
  have h8 := Nat.mul_lt_mul_of_pos_right hul (Nat.two_pow_pos sh)
  omega
theorem yy_fin {sh r n : Nat} {W : Nat → Nat} {f : Nat → Int32} (hsh : sh ≤ 30) (hn : 0 < n) (hp : ∀ i, i ≤ n → yy_pad W n i < yB ∧ f i = nI (yy_pad W n i)) (hv : yy_val yB W n = r * 2 ^ sh) : yy_val yB (fun j => (yy_pad W n (j + 1) * 2 ^ 31 + yy_pad W n j) / 2 ^ sh % 2147483648) n = r := by
  have hsp := Nat.two_pow_pos sh
  have hE : yB = 2 ^ sh * 2 ^ (31 - sh) := by rw [← Nat.pow_add, show sh + (31 - sh) = 31 by omega]
  have hU : ∀ j, j < n → (yy_pad W n (j + 1) * 2 ^ 31 + yy_pad W n j) / 2 ^ sh % 2147483648 = (yy_pad W n (j + 1) * 2 ^ (31 - sh) + yy_pad W n j / 2 ^ sh) % (2 ^ sh * 2 ^ (31 - sh)) := by
    intro j hj
    have e0 : (2 ^ 31 : Nat) = 2 ^ sh * 2 ^ (31 - sh) := by rw [← Nat.pow_add, show sh + (31 - sh) = 31 by omega]
    have e1 : yy_pad W n (j + 1) * 2 ^ 31 = 2 ^ sh * (yy_pad W n (j + 1) * 2 ^ (31 - sh)) := by
      rw [e0]; generalize 2 ^ sh = S; generalize 2 ^ (31 - sh) = S2; grind
    rw [e1, Nat.mul_add_div hsp]
    exact congrArg (fun z => _ % z) hE
  have hv2 : yy_val (2 ^ sh * 2 ^ (31 - sh)) (yy_pad W n) n = r * 2 ^ sh := by rw [← hE, yy_pad_val (Nat.le_refl n)]; exact hv
  have h9 := yy_uz (S := 2 ^ sh) (E := 2 ^ (31 - sh)) (R := r) (n := n) (X := yy_pad W n) (U := fun j => (yy_pad W n (j + 1) * 2 ^ 31 + yy_pad W n j) / 2 ^ sh % 2147483648) hsp (Nat.two_pow_pos _) hn (fun j hj => by rw [← hE]; exact (hp j hj).1) (if_neg (Nat.lt_irrefl n)) hv2 hU
  rw [← hE] at h9
  exact h9
set_option maxRecDepth 100000 in
theorem c_X1_dtail {G : xx_G} {l : Launch} {A : xx_H} {b c x z la lb pl sh : Nat} {u w : Int} {way s0 n0 : Int32} {f1 gy gx h1 : Nat → Int32} {Wd Z : Nat → Nat} (hb4 : A.2 b = xx_o 1 [.ref (b + 1), .ref (b + 2), .ref (b + 3), .ref (b + 5), .ref (b + 7), .ref c]) (y2 : A.2 (b + 1) = xx_i 15 f1) (hy4 : A.2 (b + 2) = xx_i 15 gy) (hx4 : A.2 x = xx_o 0 [.int (iz u.sign), .int (nI la), .ref (x + 1)]) (hg4 : A.2 (x + 1) = xx_i 14 gx) (hz4 : A.2 z = xx_o 0 [.int s0, .int n0, .ref (z + 1)]) (y3 : A.2 (z + 1) = xx_i 14 h1) (n1 : x + 2 ≤ b ∨ b + 3 ≤ x) (n2 : z + 2 ≤ b ∨ b + 3 ≤ z) (n4 : x + 2 ≤ z ∨ z + 2 ≤ x) (hlv : lb ≤ 14) (hl0 : 0 < lb) (hsh : sh ≤ 30) (hpl : pl ≤ 14) (y5 : ∀ j, j < lb → Wd j < yB ∧ f1 (0 + j) = nI (Wd j)) (y6 : f1 (0 + lb) = nI 0) (y8 : ∀ j, j < pl → Z j < yB ∧ h1 j = nI (Z j)) (yq : u.natAbs / w.natAbs = yy_val yB Z pl) (yr : yy_val yB Wd lb = (u.natAbs % w.natAbs) * 2 ^ sh) (hw : yy_qt u w ≠ 0 → way = iz (yy_qt u w).sign) : xx_X G l mX1_divideByDigits 2 0 0 117 [(0, .ref b), (1, .ref x), (3, .ref z), (4, .int way), (5, .int (nI lb)), (6, .int (nI pl)), (7, .int (nI sh))] [] A (fun q B => q = .inl none ∧ B.1 = A.1 ∧ xx_dv B b c ∧ xx_bg B x (yy_rm u w) ∧ xx_bg B z (yy_qt u w) ∧ ∀ q, q ≠ b + 1 → q ≠ x → q ≠ x + 1 → q ≠ z → q ≠ z + 1 → B.2 q = A.2 q) := by
  refine xx_aload_n dX1_divideByDigits_117 rfl ?_
  refine xx_iload dX1_divideByDigits_118 rfl ?_
  refine xx_iload dX1_divideByDigits_120 rfl ?_
  refine xx_callV (N := mX0_trim) (vs := [.int (nI pl), .int way]) (b := z) (rest := []) (d2 := 0) (c2 := 0) (s2 := 0) (c3 := 0) (s3 := 0) dX1_divideByDigits_122 wm_X1_75 wi_X0_trim wv_X0_trim (k := 0) rfl (by decide) hz4 nX0_trim ⟨pX0_trim, Nat.le_of_ble_eq_true rfl, by decide, Nat.le_of_ble_eq_true rfl, by decide, by decide⟩ (c_trim (v := yy_qt u w) hz4 y3 hpl y8 ((yy_qt_abs u w).trans yq) hw) (fun v9 D hC => ?_) (fun E9 B9 hC => absurd hC.1 (by simp))
  obtain ⟨hv7, t1, t2, t3⟩ := hC
  cases hv7
  refine xx_cst (st2 := []) rfl ?_
  refine xx_iconst (v := 0) dX1_divideByDigits_125 (by decide) ?_
  refine xx_istore dX1_divideByDigits_126 (by decide) ?_
  refine xx_clv (lv2 := [(0, .ref b), (1, .ref x), (3, .ref z), (4, .int way), (5, .int (nI lb)), (6, .int (nI pl)), (7, .int (nI sh)), (8, .int 0)]) rfl ?_
  have hb5 := (t3 b (by omega)).trans hb4
  have hx5 := (t3 x (by omega)).trans hx4
  have hg5 := (t3 (x + 1) (by omega)).trans hg4
  have hr5 := (t3 (b + 1) (by omega)).trans y2
  have hpd : ∀ i, i ≤ lb → yy_pad Wd lb i < yB ∧ f1 i = nI (yy_pad Wd lb i) := by
    intro i hi
    unfold yy_pad
    by_cases e : i < lb
    · rw [if_pos e]; have := y5 i e; rw [Nat.zero_add] at this; exact this
    · have : i = lb := by omega
      subst this
      rw [if_neg e]
      have := y6
      rw [Nat.zero_add] at this
      exact ⟨by decide, this⟩
  refine xx_less [0, 1, 5, 7, 8] ?_
  refine xx_clv (lv2 := [(0, .ref b), (1, .ref x), (5, .int (nI lb)), (7, .int (nI sh)), (8, .int (nI 0))]) rfl ?_
  refine l_X1_un (c := c) hb5 hr5 hx5 n1 hlv hsh hpd (fun F g1 z1 z2 z3 z4 => ?_) lb 0 (by omega) D gx rfl hg5 (fun j hj => absurd hj (Nat.not_lt_zero j)) (fun q _ => rfl)
  have hval := yy_fin (sh := sh) (r := u.natAbs % w.natAbs) hsh (show 0 < lb by omega) hpd yr
  have hx6 := (z4 x (by omega)).trans hx5
  refine xx_aload_n dX1_divideByDigits_182 rfl ?_
  refine xx_iload dX1_divideByDigits_183 rfl ?_
  refine xx_aload_n dX1_divideByDigits_185 rfl ?_
  refine xx_get xx_c0 dX1_divideByDigits_186 wf_X1_36 (j := 0) (by decide) hx6 rfl ?_
  refine xx_callV (N := mX0_trim) (vs := [.int (nI lb), .int (iz u.sign)]) (b := x) (rest := []) (d2 := 0) (c2 := 0) (s2 := 0) (c3 := 0) (s3 := 0) dX1_divideByDigits_189 wm_X1_75 wi_X0_trim wv_X0_trim (k := 0) rfl (by decide) hx6 nX0_trim ⟨pX0_trim, Nat.le_of_ble_eq_true rfl, by decide, Nat.le_of_ble_eq_true rfl, by decide, by decide⟩ (c_trim (v := yy_rm u w) (way := iz u.sign) hx6 z2 hlv (fun i hi => ⟨Nat.mod_lt _ (by decide), z3 i hi⟩) ((yy_rm_abs u _ (Nat.mod_le _ _)).trans hval.symm) (fun h9 => congrArg iz (yy_rm_sign u _ h9))) (fun v9 H hC => ?_) (fun E9 B9 hC => absurd hC.1 (by simp))
  obtain ⟨hv6, v1, v2, v3⟩ := hC
  cases hv6
  refine xx_cst (st2 := []) rfl ?_
  refine xx_vret dX1_divideByDigits_192 rfl ⟨rfl, by omega, ⟨_, _, (v3 b (by omega)).trans ((z4 b (by omega)).trans hb5), (v3 (b + 1) (by omega)).trans ((z4 (b + 1) (by omega)).trans hr5), (v3 (b + 2) (by omega)).trans ((z4 (b + 2) (by omega)).trans ((t3 (b + 2) (by omega)).trans hy4))⟩, v2, t2.to ((v3 z (by omega)).trans (z4 z (by omega))) ((v3 (z + 1) (by omega)).trans (z4 (z + 1) (by omega))), fun q h1 h3 h4 h5 h6 => ?_⟩
  rw [v3 q h3, z4 q h4, t3 q h5]
set_option maxRecDepth 100000 in
theorem c_X1_divideByDigits {G : xx_G} {l : Launch} {A : xx_H} {b c x v z : Nat} {u w t : Int} {way : Int32} (hb : xx_dv A b c) (hx : xx_bg A x u) (hv : xx_bg A v w) (hz : xx_bg A z t) (n1 : x + 2 ≤ b ∨ b + 3 ≤ x) (n2 : z + 2 ≤ b ∨ b + 3 ≤ z) (n4 : x + 2 ≤ z ∨ z + 2 ≤ x) (n3 : v + 2 ≤ b ∨ b + 3 ≤ v) (n5 : v + 2 ≤ z ∨ z + 2 ≤ v) (n6 : v + 2 ≤ x ∨ x + 2 ≤ v) (hlen : ∃ q1 q2 la lb, A.2 x = xx_o 0 [q1, .int (nI la), .ref (x + 1)] ∧ A.2 v = xx_o 0 [q2, .int (nI lb), .ref (v + 1)] ∧ lb ≤ la ∧ 2 ≤ lb ∧ la ≤ 14) (hw : yy_qt u w ≠ 0 → way = iz (yy_qt u w).sign) : xx_X G l mX1_divideByDigits 2 0 0 0 (lv_args 0 [.ref b, .ref x, .ref v, .ref z, .int way]) [] A (fun q B => q = .inl none ∧ B.1 = A.1 ∧ xx_dv B b c ∧ xx_bg B x (yy_rm u w) ∧ xx_bg B z (yy_qt u w) ∧ ∀ q, q ≠ b + 1 → q ≠ b + 2 → q ≠ x → q ≠ x + 1 → q ≠ z → q ≠ z + 1 → B.2 q = A.2 q) := by
  obtain ⟨f, g, hb, hr, hy⟩ := hb
  obtain ⟨gx, lx, hx, hgx, hlx, X, hX, hX0, eX⟩ := hx
  obtain ⟨gv, sz, hv, hgv, hlv, V, hV, hV0, eV⟩ := hv
  obtain ⟨gz, lz0, hz, hgz, _⟩ := hz
  obtain ⟨q1, q2, la, lb, l1, l2, l3, l4, l5⟩ := hlen
  have ela : la = lx := xx_o_len (l1.symm.trans hx) l5 hlx
  have elb : lb = sz := xx_o_len (l2.symm.trans hv) (by omega) hlv
  subst ela; subst elb
  clear l1 l2
  obtain ⟨p1, e1⟩ := hV (lb - 1) (by omega)
  have p1 : V (lb - 1) < 2147483648 := p1
  have p0 := hV0 (by omega)
  refine xx_clv (lv2 := [(0, .ref b), (1, .ref x), (2, .ref v), (3, .ref z), (4, .int way)]) rfl ?_
  refine xx_aload_n dX1_divideByDigits_0 rfl ?_
  refine xx_get xx_c0 dX1_divideByDigits_1 wf_X1_54 (j := 1) (by decide) hv rfl ?_
  refine xx_istore dX1_divideByDigits_4 (by decide) ?_
  refine xx_clv (lv2 := [(0, .ref b), (1, .ref x), (2, .ref v), (3, .ref z), (4, .int way), (5, .int (nI lb))]) rfl ?_
  refine xx_aload_n dX1_divideByDigits_6 rfl ?_
  refine xx_get xx_c0 dX1_divideByDigits_7 wf_X1_54 (j := 1) (by decide) hx rfl ?_
  refine xx_iload dX1_divideByDigits_10 rfl ?_
  refine xx_isub dX1_divideByDigits_12 ?_
  refine xx_eqi (y := nI (la - lb)) (pk_sub (a := la) (b := lb) (by omega)) ?_
  refine xx_iconst (v := 1) dX1_divideByDigits_13 (by decide) ?_
  refine xx_iadd dX1_divideByDigits_14 ?_
  refine xx_eqi (y := nI (la - lb + 1)) (nI_add (la - lb) 1) ?_
  refine xx_istore dX1_divideByDigits_15 (by decide) ?_
  refine xx_clv (lv2 := [(0, .ref b), (1, .ref x), (2, .ref v), (3, .ref z), (4, .int way), (5, .int (nI lb)), (6, .int (nI (la - lb + 1)))]) rfl ?_
  refine xx_aload_n dX1_divideByDigits_17 rfl ?_
  refine xx_get xx_c0 dX1_divideByDigits_18 wf_X1_60 (j := 2) (by decide) hv rfl ?_
  refine xx_iload dX1_divideByDigits_21 rfl ?_
  refine xx_iconst (v := 1) dX1_divideByDigits_23 (by decide) ?_
  refine xx_isub dX1_divideByDigits_24 ?_
  refine xx_eqi (y := nI (lb - 1)) (pk_sub (a := lb) (b := 1) (by omega)) ?_
  refine xx_iald dX1_divideByDigits_25 hgv (vp_in_nI (by omega) (by decide)) ?_
  refine xx_eqi (y := nI (V (lb - 1))) (by rw [nI_clamp (by omega)]; exact e1) ?_
  refine xx_callS (N := mJ6_nlz) (vs := [.int (nI (V (lb - 1)))]) (rest := []) (d2 := 0) (c2 := 0) (s2 := 0) (c3 := 0) (s3 := 0) dX1_divideByDigits_26 wm_X1_83 ws_J6_nlz wz_J6 (by decide) nJ6_nlz ⟨pJ6_nlz, Nat.le_of_ble_eq_true rfl, by decide, Nat.le_of_ble_eq_true rfl, by decide, by decide⟩ (c_J6_nlz (x := V (lb - 1)) (by omega) (by omega)) (fun v9 B9 hC => ?_) (fun E9 B9 hC => (by obtain ⟨k, h9, _⟩ := hC; exact absurd h9 (by simp)))
  obtain ⟨k, hv9, rfl, k1, k2, k3, k4⟩ := hC
  cases hv9
  refine xx_cst (st2 := [.int (nI k)]) rfl ?_
  obtain ⟨sh, rfl⟩ : ∃ sh, k = sh + 1 := ⟨k - 1, by omega⟩
  have k3 : 2 ^ (30 - sh) ≤ V (lb - 1) := by rw [show 30 - sh = 31 - (sh + 1) by omega]; exact k3
  have k4 : V (lb - 1) < 2 ^ (31 - sh) := by rw [show 31 - sh = 32 - (sh + 1) by omega]; exact k4
  have hsh : sh ≤ 30 := by omega
  refine xx_iconst (v := 1) dX1_divideByDigits_29 (by decide) ?_
  refine xx_isub dX1_divideByDigits_30 ?_
  refine xx_eqi (y := nI sh) ((pk_sub (a := sh + 1) (b := 1) (by omega)).trans (congrArg nI (by omega))) ?_
  refine xx_istore dX1_divideByDigits_31 (by decide) ?_
  refine xx_clv (lv2 := [(0, .ref b), (1, .ref x), (2, .ref v), (3, .ref z), (4, .int way), (5, .int (nI lb)), (6, .int (nI (la - lb + 1))), (7, .int (nI sh))]) rfl ?_
  refine xx_aload_n dX1_divideByDigits_33 rfl ?_
  refine xx_iload dX1_divideByDigits_34 rfl ?_
  refine xx_aload_n dX1_divideByDigits_36 rfl ?_
  refine xx_get xx_c1 dX1_divideByDigits_37 wf_X1_15 (j := 1) (by decide) hb rfl ?_
  refine xx_callS (N := mX1_shiftUp) (vs := [.ref v, .int (nI sh), .ref (b + 2)]) (rest := []) (d2 := 0) (c2 := 0) (s2 := 0) (c3 := 0) (s3 := 0) dX1_divideByDigits_40 wm_X1_88 ws_X1_shiftUp wz_X1 (by decide) nX1_shiftUp ⟨pX1_shiftUp, Nat.le_of_ble_eq_true rfl, by decide, Nat.le_of_ble_eq_true rfl, by decide, by decide⟩ (c_X1_shiftUp hv hgv hy (by omega) (by omega) hlv hV hsh) (fun v9 B hC => ?_) (fun E9 B9 hC => absurd hC.1 (by simp))
  obtain ⟨hv9, m1, ⟨fy, Y, m2, m3, m4, m5⟩, m6⟩ := hC
  cases hv9
  refine xx_cst (st2 := []) rfl ?_
  have hb2 := (m6 b (by omega)).trans hb
  have hx2 := (m6 x (by omega)).trans hx
  have hg2 := (m6 (x + 1) (by omega)).trans hgx
  have hr2 := (m6 (b + 1) (by omega)).trans hr
  refine xx_aload_n dX1_divideByDigits_43 rfl ?_
  refine xx_iload dX1_divideByDigits_44 rfl ?_
  refine xx_aload_n dX1_divideByDigits_46 rfl ?_
  refine xx_get xx_c1 dX1_divideByDigits_47 wf_X1_9 (j := 0) (by decide) hb2 rfl ?_
  refine xx_callS (N := mX1_shiftUp) (vs := [.ref x, .int (nI sh), .ref (b + 1)]) (rest := []) (d2 := 0) (c2 := 0) (s2 := 0) (c3 := 0) (s3 := 0) dX1_divideByDigits_50 wm_X1_88 ws_X1_shiftUp wz_X1 (by decide) nX1_shiftUp ⟨pX1_shiftUp, Nat.le_of_ble_eq_true rfl, by decide, Nat.le_of_ble_eq_true rfl, by decide, by decide⟩ (c_X1_shiftUp hx2 hg2 hr2 (by omega) (by omega) hlx hX hsh) (fun v9 C hC => ?_) (fun E9 B9 hC => absurd hC.1 (by simp))
  obtain ⟨hv8, o1, ⟨fr, R, o2, o3, o4, o5⟩, o6⟩ := hC
  cases hv8
  refine xx_cst (st2 := []) rfl ?_
  have hb3 := (o6 b (by omega)).trans hb2
  have hx3 := (o6 x (by omega)).trans hx2
  have hg3 := (o6 (x + 1) (by omega)).trans hg2
  have hy3 := (o6 (b + 2) (by omega)).trans m2
  have hz3 := (o6 z (by omega)).trans ((m6 z (by omega)).trans hz)
  have hgz3 := (o6 (z + 1) (by omega)).trans ((m6 (z + 1) (by omega)).trans hgz)
  refine xx_iload dX1_divideByDigits_53 rfl ?_
  refine xx_iconst (v := 1) dX1_divideByDigits_55 (by decide) ?_
  refine xx_isub dX1_divideByDigits_56 ?_
  refine xx_eqi (y := nI (la - lb + 1) + (-1)) (yy_m1 _) ?_
  refine xx_istore dX1_divideByDigits_57 (by decide) ?_
  refine xx_clv (lv2 := [(0, .ref b), (1, .ref x), (2, .ref v), (3, .ref z), (4, .int way), (5, .int (nI lb)), (6, .int (nI (la - lb + 1))), (7, .int (nI sh)), (8, .int (nI (la - lb + 1) + (-1)))]) rfl ?_
  obtain ⟨hn, y2a, hvg⟩ := yy_setup (sh := sh) (wv := w.natAbs) l4 (fun i hi => (hV i hi).1) (fun i hi => (m3 i hi).1) k3 k4 hsh eV m5
  have hul : u.natAbs < yB ^ la := by rw [eX]; exact yy_val_lt (fun i hi => (hX i hi).1)
  obtain ⟨hsplit, hwin⟩ := yy_setwin (uv := u.natAbs) (wv := w.natAbs) (sh := sh) l3 l4 hul hvg (by rw [o5, ← eX])
  rw [y2a] at hwin
  have hsp : 0 < 2 ^ sh := Nat.two_pow_pos sh
  have hw0 : 0 < w.natAbs := Nat.lt_of_lt_of_le (Nat.pow_pos (by decide)) hvg
  refine xx_clv (lv2 := [(0, .ref b), (1, .ref x), (2, .ref v), (3, .ref z), (4, .int way), (5, .int (nI lb)), (6, .int (nI (la - lb + 1))), (7, .int (nI sh)), (8, .int (nI (la - lb + 1) + (-1)))]) rfl ?_
  refine l_X1_ds (NN := u.natAbs * 2 ^ sh) (X := R) (Y := Y) (x := x) (sh := sh) (v := v) (way := way) (c := c) hb3 hy3 hz3 n2 l4 (by omega) (fun i hi => (o3 i (by omega)).1) (fun i hi => m3 i (by omega)) hn (fun B2 f1 h1 Wd Z y1 y2 y3 y4 y5 y6 y7 y8 y9 y0 => ?_) (la - lb + 1) (Nat.le_refl _) C fr gz (yy_sh R (la - lb + 1)) (fun _ => 0) rfl o2 hgz3 (fun j hj => (o3 j (by omega)).2) (fun j hj => o3 (la - lb + 1 + j) (by omega)) (fun h => absurd h (by omega)) hwin (fun j h5 h6 => absurd h6 (by omega)) (by rw [Nat.sub_self, hsplit, yy_v0, Nat.mul_zero, Nat.zero_mul, Nat.add_zero]) (fun q _ _ => rfl)
  rw [yy_sh0, Nat.sub_zero, Nat.pow_zero, Nat.one_mul, Nat.one_mul] at y9
  have y9 : yy_val yB Wd lb + yy_val yB Z (la - lb + 1) * yy_val yB Y lb = u.natAbs * 2 ^ sh := by
    have : yy_val yB R 0 = 0 := rfl
    omega
  rw [← y2a] at y7 y9
  have yq : u.natAbs / w.natAbs = yy_val yB Z (la - lb + 1) := by
    rw [← Nat.mul_div_mul_right u.natAbs w.natAbs hsp, ← y9, Nat.add_mul_div_right _ _ (Nat.mul_pos hw0 hsp), Nat.div_eq_of_lt y7, Nat.zero_add]
  have yr : yy_val yB Wd lb = (u.natAbs % w.natAbs) * 2 ^ sh := by
    rw [← Nat.mul_mod_mul_right, ← y9, Nat.add_mul_mod_self_right, Nat.mod_eq_of_lt y7]
  have hb4 := (y0 b (by omega) (by omega)).trans hb3
  have hx4 := (y0 x (by omega) (by omega)).trans hx3
  have hg4 := (y0 (x + 1) (by omega) (by omega)).trans hg3
  have hz4 := (y0 z (by omega) (by omega)).trans hz3
  have hy4 := (y0 (b + 2) (by omega) (by omega)).trans hy3
  refine xx_mono (fun q B h9 => ?_) (c_X1_dtail (c := c) (gy := fy) (u := u) (w := w) (lb := lb) (la := la) (pl := la - lb + 1) (sh := sh) (Wd := Wd) (Z := Z) hb4 y2 hy4 hx4 hg4 hz4 y3 n1 n2 n4 hlv (by omega) hsh (by omega) (fun i hi => y5 i hi) (y6 (by omega)) (fun i hi => y8 i (Nat.zero_le _) hi) yq yr hw)
  obtain ⟨h1, h2, h3, h4, h5, h6⟩ := h9
  refine ⟨h1, by omega, h3, h4, h5, fun q a1 a2 a3 a4 a5 a6 => ?_⟩
  rw [h6 q a1 a3 a4 a5 a6, y0 q a1 a6, o6 q a1, m6 q a2]
set_option maxRecDepth 100000 in
theorem c_X1_divide {G : xx_G} {l : Launch} {A : xx_H} {b c x v z : Nat} {u w t : Int} (hb : xx_dv A b c) (hx : xx_bg A x u) (hv : xx_bg A v w) (hz : xx_bg A z t) (n1 : x + 2 ≤ b ∨ b + 3 ≤ x) (n2 : z + 2 ≤ b ∨ b + 3 ≤ z) (n4 : x + 2 ≤ z ∨ z + 2 ≤ x) (n3 : v + 2 ≤ b ∨ b + 3 ≤ v) (n5 : v + 2 ≤ z ∨ z + 2 ≤ v) (n6 : v + 2 ≤ x ∨ x + 2 ≤ v) : xx_X G l mX1_divide 3 0 0 0 (lv_args 0 [.ref b, .ref x, .ref v, .ref z]) [] A (fun q B => q = .inl none ∧ B.1 = A.1 ∧ xx_dv B b c ∧ xx_bg B x (yy_rm u w) ∧ xx_bg B z (yy_qt u w) ∧ ∀ q, q ≠ b + 1 → q ≠ b + 2 → q ≠ x → q ≠ x + 1 → q ≠ z → q ≠ z + 1 → B.2 q = A.2 q) := by
  obtain ⟨f, g, hb0, hr0, hy0⟩ := id hb
  obtain ⟨gx, lx, hx0, hgx, hdx⟩ := id hx
  obtain ⟨gv, lv, hv0, hgv, hdv⟩ := id hv
  obtain ⟨gz, lz0, hz0, hgz, _⟩ := id hz
  have hlx := hdx.1
  have hlv := hdv.1
  have hwy : iz u.sign * iz w.sign = iz (u.sign * w.sign) := iz_mul _ _
  have J : (yy_qt u w = 0 ∧ yy_rm u w = u) → ∀ (B : xx_H), xx_X G l mX1_divide 3 0 0 27 [(0, .ref b), (1, .ref x), (2, .ref v), (3, .ref z), (4, .int (iz (u.sign * w.sign)))] [] A (fun q B => q = .inl none ∧ B.1 = A.1 ∧ xx_dv B b c ∧ xx_bg B x (yy_rm u w) ∧ xx_bg B z (yy_qt u w) ∧ ∀ q, q ≠ b + 1 → q ≠ b + 2 → q ≠ x → q ≠ x + 1 → q ≠ z → q ≠ z + 1 → B.2 q = A.2 q) := by
    intro hh _
    refine xx_aload_n dX1_divide_27 rfl ?_
    refine xx_callV (N := mX0_clear) (vs := []) (b := z) (rest := []) (d2 := 0) (c2 := 0) (s2 := 0) (c3 := 0) (s3 := 0) dX1_divide_28 wm_X1_57 wi_X0_clear wv_X0_clear (k := 0) rfl (by decide) hz0 nX0_clear ⟨pX0_clear, Nat.le_of_ble_eq_true rfl, by decide, Nat.le_of_ble_eq_true rfl, by decide, by decide⟩ (c_X0_clear hz) (fun v9 C hC => ?_) (fun E9 B9 hC => absurd hC.1 (by simp))
    obtain ⟨hv9, k1, k2, k3⟩ := hC
    cases hv9
    refine xx_cst (st2 := []) rfl ?_
    refine xx_goto (tgt := 68) dX1_divide_31 (by decide) ?_
    rw [hh.1, hh.2]
    exact xx_vret dX1_divide_68 rfl ⟨rfl, k1, hb.to (k3 b (by omega)) (k3 (b + 1) (by omega)) (k3 (b + 2) (by omega)), hx.to (k3 x (by omega)) (k3 (x + 1) (by omega)), k2, fun q h1 h2 h3 h4 h5 h6 => k3 q h5⟩
  refine xx_clv (lv2 := [(0, .ref b), (1, .ref x), (2, .ref v), (3, .ref z)]) rfl ?_
  refine xx_aload_n dX1_divide_0 rfl ?_
  refine xx_get xx_c0 dX1_divide_1 wf_X1_36 (j := 0) (by decide) hx0 rfl ?_
  refine xx_aload_n dX1_divide_4 rfl ?_
  refine xx_get xx_c0 dX1_divide_5 wf_X1_36 (j := 0) (by decide) hv0 rfl ?_
  refine xx_imul dX1_divide_8 ?_
  refine xx_eqi (y := iz (u.sign * w.sign)) hwy ?_
  refine xx_istore dX1_divide_9 (by decide) ?_
  refine xx_clv (lv2 := [(0, .ref b), (1, .ref x), (2, .ref v), (3, .ref z), (4, .int (iz (u.sign * w.sign)))]) rfl ?_
  refine xx_iload dX1_divide_11 rfl ?_
  have hq0 : (u.sign * w.sign = 0 ∨ u.natAbs < w.natAbs) → yy_qt u w = 0 ∧ yy_rm u w = u := yy_q0 u w
  refine xx_if_eq (tgt := 27) dX1_divide_13 (by decide) (fun j13 => ?_) (fun j13 => ?_)
  · exact J (hq0 (Or.inl (yy_iz0 u w j13))) A
  · refine xx_aload_n dX1_divide_16 rfl ?_
    refine xx_get xx_c0 dX1_divide_17 wf_X1_54 (j := 1) (by decide) hx0 rfl ?_
    refine xx_aload_n dX1_divide_20 rfl ?_
    refine xx_get xx_c0 dX1_divide_21 wf_X1_54 (j := 1) (by decide) hv0 rfl ?_
    refine xx_icmp_ge (tgt := 34) dX1_divide_24 (by decide) (fun j24 => ?_) (fun j24 => ?_)
    · have j24 : lv ≤ lx := (nI_leI (a := lv) (b := lx) (by omega) (by omega)).mp j24
      refine xx_aload_n dX1_divide_34 rfl ?_
      refine xx_get xx_c0 dX1_divide_35 wf_X1_54 (j := 1) (by decide) hv0 rfl ?_
      refine xx_iconst (v := 1) dX1_divide_38 (by decide) ?_
      refine xx_icmp_ne (tgt := 59) dX1_divide_39 (by decide) (fun j39 => ?_) (fun j39 => ?_)
      · have j39 : ¬ lv = 1 := fun q => j39 ((nI_eq (a := lv) (b := 1) (by omega) (by omega)).mpr q)
        refine xx_aload_n dX1_divide_59 rfl ?_
        refine xx_aload_n dX1_divide_60 rfl ?_
        refine xx_aload_n dX1_divide_61 rfl ?_
        refine xx_aload_n dX1_divide_62 rfl ?_
        refine xx_iload dX1_divide_63 rfl ?_
        have hw0 : w.natAbs ≠ 0 := fun q => j13 (by rw [show w = 0 by omega]; show iz (u.sign * 0) = 0; rw [Int.mul_zero]; rfl)
        have hlv0 := hdv.pos hw0
        have c2 := c_X1_divideByDigits (G := G) (l := l) (way := iz (u.sign * w.sign)) hb hx hv hz n1 n2 n4 n3 n5 n6 ⟨_, _, lx, lv, hx0, hv0, by omega, by omega, hlx⟩ (fun h9 => congrArg iz (yy_qt_sign u w h9))
        refine xx_callV (N := mX1_divideByDigits) (vs := [.ref x, .ref v, .ref z, .int (iz (u.sign * w.sign))]) (b := b) (rest := []) (d2 := 2) (c2 := 0) (s2 := 0) (c3 := 0) (s3 := 0) dX1_divide_65 wm_X1_67 wi_X1_divideByDigits wv_X1_divideByDigits (k := 1) rfl (by decide) hb0 nX1_divideByDigits ⟨pX1_divideByDigits, Nat.le_of_ble_eq_true rfl, by decide, Nat.le_of_ble_eq_true rfl, by decide, by decide⟩ (c2) (fun v9 C hC => ?_) (fun E9 B9 hC => absurd hC.1 (by simp))
        obtain ⟨hv9, k1, k0, k2, k3, k4⟩ := hC
        cases hv9
        refine xx_cst (st2 := []) rfl ?_
        exact xx_vret dX1_divide_68 rfl ⟨rfl, k1, k0, k2, k3, k4⟩
      · have j39 : lv = 1 := (nI_eq (a := lv) (b := 1) (by omega) (by omega)).mp j39
        refine xx_aload_n dX1_divide_42 rfl ?_
        refine xx_aload_n dX1_divide_43 rfl ?_
        refine xx_aload_n dX1_divide_44 rfl ?_
        refine xx_get xx_c0 dX1_divide_45 wf_X1_60 (j := 2) (by decide) hv0 rfl ?_
        refine xx_iconst (v := 0) dX1_divide_48 (by decide) ?_
        have elv : lv = 1 := by omega
        subst elv
        obtain ⟨_, D, hD, hD0, eD⟩ := hdv
        obtain ⟨p1, q1⟩ := hD 0 (by decide)
        have p1 : D 0 < 2147483648 := p1
        have p0 : D 0 ≠ 0 := hD0 (by decide)
        have ew : w.natAbs = D 0 := by rw [eD]; show 0 + D 0 * yB ^ 0 = D 0; simp
        refine xx_iald dX1_divide_49 hgv (vp_in_nI (n := 0) (by decide) (by decide)) ?_
        refine xx_eqi (y := nI (D 0)) q1 ?_
        refine xx_aload_n dX1_divide_50 rfl ?_
        refine xx_iload dX1_divide_51 rfl ?_
        have c1 := c_X1_divideByDigit (G := G) (l := l) (b := b) (way := iz (u.sign * w.sign)) (w := yy_qt u w) hx hz (by omega) (by omega) (by omega) (show 0 < D 0 by omega) p1 (by rw [yy_qt_abs, ew]) (fun h9 => congrArg iz (yy_qt_sign u w h9))
        refine xx_callV (N := mX1_divideByDigit) (vs := [.ref x, .int (nI (D 0)), .ref z, .int (iz (u.sign * w.sign))]) (b := b) (rest := []) (d2 := 2) (c2 := 0) (s2 := 0) (c3 := 0) (s3 := 0) dX1_divide_53 wm_X1_63 wi_X1_divideByDigit wv_X1_divideByDigit (k := 1) rfl (by decide) hb0 nX1_divideByDigit ⟨pX1_divideByDigit, Nat.le_of_ble_eq_true rfl, by decide, Nat.le_of_ble_eq_true rfl, by decide, by decide⟩ (c1) (fun v9 C hC => ?_) (fun E9 B9 hC => absurd hC.1 (by simp))
        obtain ⟨hv9, k1, k2, k3, k4⟩ := hC
        cases hv9
        refine xx_cst (st2 := []) rfl ?_
        refine xx_goto (tgt := 68) dX1_divide_56 (by decide) ?_
        exact xx_vret dX1_divide_68 rfl ⟨rfl, k1, hb.to (k4 b (by omega) (by omega) (by omega) (by omega)) (k4 (b + 1) (by omega) (by omega) (by omega) (by omega)) (k4 (b + 2) (by omega) (by omega) (by omega) (by omega)), by unfold yy_rm; rw [ew]; exact k2, k3, fun q h1 h2 h3 h4 h5 h6 => k4 q h3 h4 h5 h6⟩
    · have j24 : ¬ lv ≤ lx := fun q => j24 ((nI_leI (a := lv) (b := lx) (by omega) (by omega)).mpr q)
      exact J (hq0 (Or.inr (yy_len hdx hdv (by omega)))) A
