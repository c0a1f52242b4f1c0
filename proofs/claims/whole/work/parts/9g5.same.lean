/-! ===== both say the same of a pair of supports ===== -/
theorem yi_sp {f : Nat → Int} : ∀ {n : Nat}, (∀ i, i < n → 0 < f i) → 0 < n → 0 < yd_s n f
  | 0, _, h => absurd h (by decide)
  | 1, hf, _ => by
    show 0 < (0 : Int) + f 0
    have := hf 0 (by decide)
    omega
  | n + 2, hf, _ => by
    show 0 < yd_s (n + 1) f + f (n + 1)
    have h1 := yi_sp (f := f) (n := n + 1) (fun i hi => hf i (by omega)) (by omega)
    have h2 := hf (n + 1) (by omega)
    omega
theorem yi_sn {f : Nat → Int} {n : Nat} (hf : ∀ i, i < n → f i < 0) (h : 0 < n) : yd_s n f < 0 := by
  have q := yi_sp (f := fun i => -1 * f i) (n := n) (fun i hi => by have := hf i hi; omega) h
  rw [yd_s_mul] at q
  omega
theorem yi_na (x : Int) : ((x.natAbs : Nat) : Int) = x.sign * x := by
  rcases Int.lt_trichotomy x 0 with h | h | h
  · rw [Int.sign_eq_neg_one_of_neg h]; omega
  · subst h; rfl
  · rw [Int.sign_eq_one_of_pos h]; omega
theorem yi_s1 {x : Int} (h : 0 < x) : x.sign = 1 := Int.sign_eq_one_of_pos h
theorem yi_s2 {x : Int} (h : x < 0) : x.sign = -1 := Int.sign_eq_neg_one_of_neg h
theorem yi_p1 {x y : Int} (h : 0 < x * y) : x.sign = y.sign := by
  rcases Int.lt_trichotomy y 0 with k | k | k
  · rcases Int.lt_trichotomy x 0 with j | j | j
    · rw [yi_s2 k, yi_s2 j]
    · rw [j, Int.zero_mul] at h; omega
    · have := Int.mul_neg_of_pos_of_neg j k; omega
  · rw [k, Int.mul_zero] at h; omega
  · rcases Int.lt_trichotomy x 0 with j | j | j
    · have := Int.mul_neg_of_neg_of_pos j k; omega
    · rw [j, Int.zero_mul] at h; omega
    · rw [yi_s1 k, yi_s1 j]
theorem yi_p2 {x y : Int} (h : x.sign = y.sign) (hy : y ≠ 0) : 0 < x * y := by
  rcases Int.lt_trichotomy y 0 with k | k | k
  · rw [yi_s2 k] at h; exact Int.mul_pos_of_neg_of_neg (Int.sign_eq_neg_one_iff_neg.mp h) k
  · exact absurd k hy
  · rw [yi_s1 k] at h; exact Int.mul_pos (Int.sign_eq_one_iff_pos.mp h) k
section YI
variable {a : Nat → Nat → Int} {S U : Nat}
theorem yi_G1 (hc : yb_c U = yb_c S) (hc0 : 0 < yb_c S) (hpos : ∀ c, c < yb_c S → 0 < a (yk_e S 0) (yk_e U c)) : yi_g a S U ↔ yk_m a S U ≠ 0 ∧ ∀ c, c < yb_c U → (yk_n a S U c).sign = (yk_m a S U).sign := by
  have cr := yk_cr (a := a) (S := S) (T := U) hc0
  constructor
  · rintro ⟨g1, g2⟩
    have g3 : ∀ c, c < yb_c S → (yk_n a S U c).sign = (yi_s a S U).sign := fun c h => yi_p1 (g2 c h)
    have key : yk_m a S U ≠ 0 ∧ (yk_m a S U).sign = (yi_s a S U).sign := by
      rcases Int.lt_trichotomy (yi_s a S U) 0 with k | k | k
      · have : yk_m a S U < 0 := by
          rw [cr]
          refine yi_sn (fun c h => ?_) hc0
          have q := g3 c h
          rw [yi_s2 k] at q
          exact Int.mul_neg_of_neg_of_pos (Int.sign_eq_neg_one_iff_neg.mp q) (hpos c h)
        exact ⟨by omega, by rw [yi_s2 this, yi_s2 k]⟩
      · exact absurd k g1
      · have : 0 < yk_m a S U := by
          rw [cr]
          refine yi_sp (fun c h => ?_) hc0
          have q := g3 c h
          rw [yi_s1 k] at q
          exact Int.mul_pos (Int.sign_eq_one_iff_pos.mp q) (hpos c h)
        exact ⟨by omega, by rw [yi_s1 this, yi_s1 k]⟩
    exact ⟨key.1, fun c h => by rw [g3 c (by omega), key.2]⟩
  · rintro ⟨g1, g2⟩
    have key : yi_s a S U ≠ 0 ∧ (yk_m a S U).sign = (yi_s a S U).sign := by
      unfold yi_s
      rcases Int.lt_trichotomy (yk_m a S U) 0 with k | k | k
      · have : yd_s (yb_c S) (fun c => yk_n a S U c) < 0 := yi_sn (fun c h => by
          have q := g2 c (by omega)
          rw [yi_s2 k] at q
          exact Int.sign_eq_neg_one_iff_neg.mp q) hc0
        exact ⟨by omega, by rw [yi_s2 this, yi_s2 k]⟩
      · exact absurd k g1
      · have : 0 < yd_s (yb_c S) (fun c => yk_n a S U c) := yi_sp (fun c h => by
          have q := g2 c (by omega)
          rw [yi_s1 k] at q
          exact Int.sign_eq_one_iff_pos.mp q) hc0
        exact ⟨by omega, by rw [yi_s1 this, yi_s1 k]⟩
    exact ⟨key.1, fun c h => yi_p2 (by rw [g2 c (by omega), key.2]) key.1⟩
/-- a sum over all rows is one over the members -/
theorem yi_re {f g : Nat → Int} (hU : U < 64) : ∀ i, i ≤ 6 → yd_s i (fun k => f k * (if Nat.testBit U k = true then g (yk_x U k) else 0)) = yd_s (yk_x U i) (fun c => f (yk_e U c) * g c)
  | 0, _ => by rw [yk_x0]; rfl
  | i + 1, hi => by
    show yd_s i _ + f i * (if Nat.testBit U i = true then g (yk_x U i) else 0) = _
    rw [yi_re hU i (by omega)]
    by_cases z : Nat.testBit U i = true
    · rw [if_pos z, yk_xt U hU i (by omega) z]
      show _ = yd_s (yk_x U i) _ + f (yk_e U (yk_x U i)) * g (yk_x U i)
      rw [yk_ex U hU i (by omega) z]
    · rw [if_neg z, yk_xf U hU i (by omega) (by cases h : Nat.testBit U i; rfl; exact absurd h z), Int.mul_zero, Int.add_zero]
theorem yi_xt {t : Nat} (hU : U < 2 ^ t) : yk_x U t = yb_c U := by unfold yk_x; rw [Nat.mod_eq_of_lt hU]
/-- the total -/
theorem yi_tot (hU : U < 64) (hc : yb_c U = yb_c S) (h : yi_g a S U) : (((yi_s a S U).natAbs : Nat) : Int) = yd_s 6 (fun k => yn_w a S U k) := by
  have e1 : yd_s 6 (fun k => yn_w a S U k) = yd_s 6 (fun k => 1 * (if Nat.testBit U k = true then (fun c => (((yk_n a S U c).natAbs : Nat) : Int)) (yk_x U k) else 0)) := yd_s_ext (fun k _ => (Int.one_mul _).symm)
  rw [e1, yi_re (f := fun _ => 1) (g := fun c => (((yk_n a S U c).natAbs : Nat) : Int)) hU 6 (Nat.le_refl _), yk_x6 U hU, hc, yi_na]
  have e2 : yd_s (yb_c S) (fun c => 1 * (((yk_n a S U c).natAbs : Nat) : Int)) = yd_s (yb_c S) (fun c => (yi_s a S U).sign * yk_n a S U c) := yd_s_ext (fun c hc => by
    show 1 * (((yk_n a S U c).natAbs : Nat) : Int) = _
    rw [Int.one_mul, yi_na, yi_p1 (h.2 c hc)])
  rw [e2, yd_s_mul]
  rfl
theorem yi_ub {V : Nat → Int} {K : Int} : ∀ {i : Nat}, (∀ j, j ≤ i → V j ≤ K) → ye_m V i ≤ K
  | 0, h => h 0 (Nat.le_refl _)
  | i + 1, h => by
    show (if ye_m V i < V (i + 1) then V (i + 1) else ye_m V i) ≤ K
    split
    · exact h _ (Nat.le_refl _)
    · exact yi_ub (fun j hj => h j (by omega))
theorem yi_bt {V : Nat → Int} {L k : Nat} (hk : k ≤ L) : Nat.testBit (ye_b V L) k = true ↔ ∀ j, j ≤ L → V j ≤ V k := by
  unfold ye_b
  rw [yb_ts _ (by omega), decide_eq_true_iff]
  constructor
  · intro h j hj; rw [h]; exact ye_m_le V L j hj
  · intro h
    have h1 := yi_ub h
    have h2 := ye_m_le V L k hk
    omega
theorem yi_sx {x d : Int} (hd : d ≠ 0) : d.sign * x ≤ 0 ↔ x.sign ≠ d.sign := by
  rcases Int.lt_trichotomy d 0 with k | k | k
  · rw [yi_s2 k]
    constructor
    · intro h q
      have := Int.sign_eq_neg_one_iff_neg.mp q
      omega
    · intro h
      have : ¬ x < 0 := fun q => h (yi_s2 q)
      omega
  · exact absurd k hd
  · rw [yi_s1 k]
    constructor
    · intro h q
      have := Int.sign_eq_one_iff_pos.mp q
      omega
    · intro h
      have : ¬ 0 < x := fun q => h (yi_s1 q)
      omega
end YI
theorem yi_tl : ∀ S, S < 64 → ∀ o, o ≤ 6 → S < 2 ^ o → ∀ k, k < 6 → Nat.testBit S k = true → k < o := by decide +kernel
/-- what a row gets, told by its excess -/
theorem yi_V {m n p S U : Nat} {W : Nat → Nat → Nat → Int} {le : Nat → Int} {X : Nat → Nat → Int} (hm : m ≤ 6) (hn : n ≤ 6) (hU : U < 2 ^ yy_cn m n (1 - p)) (hc : yb_c U = yb_c S) (hs : ∀ c, c < yb_c U → (yk_n (yn_a W le p) S U c).sign = (yk_m (yn_a W le p) S U).sign) (hX : ∀ k, k < 6 → X (1 - p) k = yn_w (yn_a W le p) S U k) (j : Nat) : ye_v m n W X p j = (yk_m (yn_a W le p) S U).sign * yk_ex9 (yn_a W le p) S U j + ((yk_m (yn_a W le p) S U).sign * yk_m (yn_a W le p) S U - (1 - le p) * yd_s (yy_cn m n (1 - p)) (fun k => X (1 - p) k)) := by
  have c6 := yy_cn6 (p := 1 - p) hm hn
  have U64 : U < 64 := Nat.lt_of_lt_of_le hU (yk_pw c6)
  have e1 : ye_v m n W X p j = yd_s (yy_cn m n (1 - p)) (fun k => yn_a W le p j k * yn_w (yn_a W le p) S U k) - (1 - le p) * yd_s (yy_cn m n (1 - p)) (fun k => X (1 - p) k) := by
    have l1 := yd_s_add (fun k => yo_w W p j k * X (1 - p) k) (fun k => (1 - le p) * X (1 - p) k) (yy_cn m n (1 - p))
    rw [yd_s_mul] at l1
    have l2 : yd_s (yy_cn m n (1 - p)) (fun k => yn_a W le p j k * yn_w (yn_a W le p) S U k) = yd_s (yy_cn m n (1 - p)) (fun k => yo_w W p j k * X (1 - p) k + (1 - le p) * X (1 - p) k) := yd_s_ext (fun k hk => by
      show yn_a W le p j k * yn_w (yn_a W le p) S U k = _
      rw [← hX k (by omega), ← Int.add_mul]
      congr 1
      unfold yn_a
      omega)
    unfold ye_v
    show _ = _ - (1 - le p) * yd_s (yy_cn m n (1 - p)) (X (1 - p))
    omega
  have e2 : yd_s (yy_cn m n (1 - p)) (fun k => yn_a W le p j k * yn_w (yn_a W le p) S U k) = yd_s (yb_c U) (fun c => yn_a W le p j (yk_e U c) * (((yk_n (yn_a W le p) S U c).natAbs : Nat) : Int)) := by
    have := yi_re (f := fun k => yn_a W le p j k) (g := fun c => (((yk_n (yn_a W le p) S U c).natAbs : Nat) : Int)) U64 (yy_cn m n (1 - p)) c6
    rw [yi_xt hU] at this
    exact this
  have e3 : yd_s (yb_c U) (fun c => yn_a W le p j (yk_e U c) * (((yk_n (yn_a W le p) S U c).natAbs : Nat) : Int)) = (yk_m (yn_a W le p) S U).sign * yd_s (yb_c U) (fun c => yk_n (yn_a W le p) S U c * yn_a W le p j (yk_e U c)) := by
    rw [← yd_s_mul]
    refine yd_s_ext (fun c h => ?_)
    rw [yi_na, hs c h, Int.mul_comm, Int.mul_assoc]
  have e4 : (yk_m (yn_a W le p) S U).sign * yd_s (yb_c U) (fun c => yk_n (yn_a W le p) S U c * yn_a W le p j (yk_e U c)) = (yk_m (yn_a W le p) S U).sign * yk_ex9 (yn_a W le p) S U j + (yk_m (yn_a W le p) S U).sign * yk_m (yn_a W le p) S U := by
    rw [← Int.mul_add]
    unfold yk_ex9
    congr 1
    omega
  rw [e1, e2, e3, e4]
  omega
theorem yi_ex0 {a : Nat → Nat → Int} {S U k : Nat} (hS : S < 64) (hc : yb_c U = yb_c S) (hk : k < 6) (ht : Nat.testBit S k = true) : yk_ex9 a S U k = 0 := by
  have e := yk_ex S hS k hk ht
  have l := yk_xl S hS k hk ht
  have cr := yk_cr (a := a) (S := S) (T := U) l
  rw [e] at cr
  unfold yk_ex9
  rw [hc, ← cr]
  omega
theorem yi_best {m n p S U : Nat} {W : Nat → Nat → Nat → Int} {le : Nat → Int} {X : Nat → Nat → Int} (hg : yg_ok m n W le) (hp : p < 2) (hS : S < 2 ^ yy_cn m n p) (hU : U < 2 ^ yy_cn m n (1 - p)) (hc : yb_c U = yb_c S) (hc0 : 0 < yb_c S) (hd : yk_m (yn_a W le p) S U ≠ 0) (hs : ∀ c, c < yb_c U → (yk_n (yn_a W le p) S U c).sign = (yk_m (yn_a W le p) S U).sign) (hX : ∀ k, k < 6 → X (1 - p) k = yn_w (yn_a W le p) S U k) : (∀ k, k < 6 → Nat.testBit S k = true → Nat.testBit (ye_b (ye_v m n W X p) (yy_cn m n p - 1)) k = true) ↔ ∀ row, row < yy_cn m n p → Nat.testBit S row = false → (yk_ex9 (yn_a W le p) S U row).sign ≠ (yk_m (yn_a W le p) S U).sign := by
  have hm := hg.2.1
  have hn := hg.2.2.2.1
  have c6 := yy_cn6 (p := p) hm hn
  have S64 : S < 64 := Nat.lt_of_lt_of_le hS (yk_pw c6)
  have V := yi_V (X := X) hm hn hU hc hs hX
  constructor
  · intro h row hrow hb
    have t0 := yk_et S S64 0 hc0
    have t6 := yk_e6 S S64 0 hc0
    have to := yi_tl S S64 _ c6 hS _ t6 t0
    have q := (yi_bt (by omega)).mp (h _ t6 t0) row (by omega)
    rw [V row, V (yk_e S 0), yi_ex0 S64 hc t6 t0, Int.mul_zero] at q
    exact (yi_sx hd).mp (by omega)
  · intro h k hk ht
    have to := yi_tl S S64 _ c6 hS k hk ht
    refine (yi_bt (by omega)).mpr (fun j hj => ?_)
    rw [V j, V k, yi_ex0 S64 hc hk ht, Int.mul_zero]
    cases z : Nat.testBit S j
    · have := (yi_sx hd).mpr (h j (by omega) z)
      omega
    · rw [yi_ex0 S64 hc (by omega) z, Int.mul_zero]
      omega
/-- the class's words and the reference's -/
theorem yi_h {m n p S U : Nat} {W : Nat → Nat → Nat → Int} {le : Nat → Int} {X : Nat → Nat → Int} (hg : yg_ok m n W le) (hp : p < 2) (hS : S < 2 ^ yy_cn m n p) (hU : U < 2 ^ yy_cn m n (1 - p)) (hc : yb_c U = yb_c S) (hc0 : 0 < yb_c S) : (yk_h (yn_a W le p) (yy_cn m n p) S U → yi_g (yn_a W le p) S U) ∧ (yi_g (yn_a W le p) S U → (∀ k, k < 6 → X (1 - p) k = yn_w (yn_a W le p) S U k) → (yk_h (yn_a W le p) (yy_cn m n p) S U ↔ ∀ k, k < 6 → Nat.testBit S k = true → Nat.testBit (ye_b (ye_v m n W X p) (yy_cn m n p - 1)) k = true)) := by
  have c6 := yy_cn6 (p := p) hg.2.1 hg.2.2.2.1
  have c7 := yy_cn6 (p := 1 - p) hg.2.1 hg.2.2.2.1
  have S64 : S < 64 := Nat.lt_of_lt_of_le hS (yk_pw c6)
  have U64 : U < 64 := Nat.lt_of_lt_of_le hU (yk_pw c7)
  have g1 := yi_G1 (a := yn_a W le p) hc hc0 (fun c h => by have := (yn_a_b hg hp _ (yk_le S S64 _ c6 hS 0 hc0) _ (yk_le U U64 _ c7 hU c (by omega))).1; omega)
  refine ⟨fun h => g1.mpr ⟨h.1, h.2.1⟩, fun h hX => ?_⟩
  obtain ⟨k1, k2⟩ := g1.mp h
  rw [yi_best hg hp hS hU hc hc0 k1 k2 hX]
  exact ⟨fun q => q.2.2, fun q => ⟨k1, k2, q⟩⟩
