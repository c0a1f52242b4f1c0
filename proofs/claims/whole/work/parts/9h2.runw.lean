/-! ===== the weights of a run ===== -/
theorem yw_fac : ∀ R, R ≤ 6 → yd_f R * 554344561 ^ R < 2 ^ 184 := by decide +kernel
theorem yw_T184 {R mn : Nat} {a : Nat → Nat → Int} {bs : Nat → Nat} (hR : R ≤ 6) (ha : ∀ c, c ≤ mn → ∀ r, r < R → (a c r).natAbs ≤ 554344561) (hb : ∀ i, i < R → bs i ≤ mn) {k c : Nat} (hc : c ≤ mn) : (yh_T R a bs k c).natAbs < 2 ^ 184 := by
  refine Nat.lt_of_le_of_lt (yd_c_bd (K := 554344561) (fun i hi r hr => ?_)) (yw_fac R hR)
  unfold yd_u
  split
  · exact ha c hc r hr
  · exact ha _ (hb i hi) r hr
/-- the total is the sum of the weights -/
theorem yw_sum {m n p sd : Nat} {bs : Nat → Nat} {T : Nat → Nat → Int} (hm : m ≤ 6) (hn : n ≤ 6) (hp : p < 2) : ∀ r, (∀ j, j < r → bs j < m + n) → yd_s 6 (fun k => yw_x m p bs T sd r k) = yw_t m p bs T sd r
  | 0, _ => yd_s_zero (fun k _ => rfl)
  | r + 1, hl => by
    have ih := yw_sum (T := T) (sd := sd) hm hn hp r (fun j hj => hl j (by omega))
    have e : yd_s 6 (fun k => yw_x m p bs T sd (r + 1) k) = yd_s 6 (fun k => yw_x m p bs T sd r k + (if yw_o m p (bs r) = true ∧ bs r = yq_fl m (1 - p) + k then T r sd else 0)) := rfl
    rw [e, yd_s_add, ih]
    show _ = yw_t m p bs T sd r + (if yw_o m p (bs r) = true then T r sd else 0)
    congr 1
    have hb := hl r (by omega)
    by_cases z : yw_o m p (bs r) = true
    · rw [if_pos z]
      have hk : ∃ k, k < 6 ∧ bs r = yq_fl m (1 - p) + k := by
        unfold yw_o at z
        unfold yq_fl
        rcases (show p = 0 ∨ p = 1 by omega) with y | y
        · subst y
          rw [if_pos rfl] at z
          have := of_decide_eq_true z
          exact ⟨bs r, by omega, by rw [if_neg (by decide)]; omega⟩
        · subst y
          rw [if_neg (by decide)] at z
          have := of_decide_eq_true z
          exact ⟨bs r - m, by omega, by rw [if_pos rfl]; omega⟩
      obtain ⟨k, hk6, ek⟩ := hk
      rw [yd_s_one (k := k) hk6 (fun i hi ne => if_neg (fun q => ne (by have := q.2; omega))), if_pos ⟨z, ek⟩]
    · rw [if_neg z]
      exact yd_s_zero (fun k _ => if_neg (fun q => z q.1))
theorem yw_ge {n : Nat} {f : Nat → Int} (h : ∀ i, i < n → 0 ≤ f i) : 0 ≤ yd_s n f := by
  have := yd_s_nonpos (f := fun i => -1 * f i) (n := n) (fun i hi => by have := h i hi; omega)
  rw [yd_s_mul] at this
  omega
theorem yw_le1 {f : Nat → Int} : ∀ {n : Nat}, (∀ i, i < n → 0 ≤ f i) → ∀ j, j < n → f j ≤ yd_s n f
  | 0, _, j, hj => absurd hj (Nat.not_lt_zero j)
  | n + 1, h, j, hj => by
    show f j ≤ yd_s n f + f n
    have h1 := h n (by omega)
    by_cases z : j = n
    · have h2 := yw_ge (f := f) (n := n) (fun i hi => h i (by omega))
      rw [z]; omega
    · have h3 := yw_le1 (n := n) (fun i hi => h i (by omega)) j (by omega)
      omega
/-- what stands first in a row that comes in the order is not below 0 -/
theorem yl_p0 {n : Nat} {u : Nat → Int} (h : yl_p n u) : 0 ≤ u 0 := by
  obtain ⟨i, hi, h1, h2⟩ := h
  by_cases z : i = 0
  · rw [z] at h2
    have h2 : (0 : Int) < u 0 := h2
    omega
  · have h3 : (0 : Int) = u 0 := h1 0 (by omega)
    omega
section YWR
variable {m n lb q : Nat} {W : Nat → Nat → Nat → Int} {le : Nat → Int}
/-- at the end of a run somebody of the own rows is in each table -/
theorem yw_end (hg : yg_ok m n W le) (hl : lb < m + n) (hq : yg_q m n W le lb q) : ∀ t, t < 2 → ¬ ∀ c, yq_in m n (yg_p m n W le lb (q + 1)).1 t c ↔ yq_in m n (yg_s m lb).1 t c := by
  obtain ⟨q1, q2, q3⟩ := hq
  obtain ⟨ok0, c0⟩ := yg_start hg hl
  have g := yg_g hg
  have al := yq_all g ok0 c0 (N := q) q3
  obtain ⟨okq, cq⟩ := al q (Nat.le_refl _)
  obtain ⟨r, e1, hr, es⟩ := yq_row g okq
  have fin : yg_p m n W le lb (q + 1) = yq_put (yg_p m n W le lb q) r := es
  have tq := okq.1
  -- a run has more than one step
  have qp : q ≠ 0 := by
    intro z
    subst z
    have : (yg_p m n W le lb 1).2.2 = (yg_s m lb).1 (yg_s m lb).2.1 r := by rw [fin]; rfl
    rw [q2] at this
    exact ok0.2.2.2 r hr this.symm
  have ne : (yg_p m n W le lb q).2.2 ≠ lb := by
    obtain ⟨i, rfl⟩ : ∃ i, q = i + 1 := ⟨q - 1, by omega⟩
    exact q3 i (by omega)
  obtain ⟨cA, cB, cC⟩ := cq
  have inj := yq_inj (okq.2.1 _ tq)
  have pin := fun t c => yq_put_in (m := m) (n := n) (s := yg_p m n W le lb q) (r := r) (t := t) (c := c) hr inj
  have out : (yg_p m n W le lb q).1 (yg_p m n W le lb q).2.1 r = lb := by
    have : (yg_p m n W le lb (q + 1)).2.2 = (yg_p m n W le lb q).1 (yg_p m n W le lb q).2.1 r := by rw [fin]; rfl
    rw [← this]; exact q2
  obtain ⟨tt, htt⟩ : ∃ t, t = (yg_p m n W le lb q).2.1 := ⟨_, rfl⟩
  obtain ⟨eq, heq⟩ : ∃ e, e = (yg_p m n W le lb q).2.2 := ⟨_, rfl⟩
  rw [← htt] at tq out
  rw [← heq] at ne cA cB
  have pin2 : ∀ t c, yq_in m n (yg_p m n W le lb (q + 1)).1 t c ↔ if t = tt then (c = eq ∨ (yq_in m n (yg_p m n W le lb q).1 t c ∧ c ≠ lb)) else yq_in m n (yg_p m n W le lb q).1 t c := by
    intro t c
    rw [fin, pin t c, ← htt, ← heq, out]
  have bK := cB ne
  -- every label is in just one table
  have comp : ∀ t, t < 2 → ∀ c, c < m + n → (yq_in m n (yg_p m n W le lb (q + 1)).1 t c ↔ ¬ yq_in m n (yg_p m n W le lb (q + 1)).1 (1 - t) c) := by
    intro t ht c hc
    rw [pin2, pin2]
    have k1 := bK t ht
    have k2 := bK (1 - t) (by omega)
    by_cases z : t = tt
    · rw [if_pos z, if_neg (by omega)]
      by_cases y : c = eq
      · subst y; exact ⟨fun _ => k2.2, fun _ => Or.inl rfl⟩
      · by_cases x : c = lb
        · subst x
          exact ⟨fun h => h.elim (fun h => absurd h y) (fun h => absurd rfl h.2), fun h => absurd k2.1 h⟩
        · have := cA t ht c hc x y
          exact ⟨fun h => h.elim (fun h => absurd h y) (fun h => this.mp h.1), fun h => Or.inr ⟨this.mpr h, x⟩⟩
    · rw [if_neg z, if_pos (by omega)]
      by_cases y : c = eq
      · subst y; exact ⟨fun h => absurd h k1.2, fun h => absurd (Or.inl rfl) h⟩
      · by_cases x : c = lb
        · subst x
          exact ⟨fun _ h => h.elim (fun h => y h) (fun h => h.2 rfl), fun _ => k1.1⟩
        · have := cA t ht c hc x y
          exact ⟨fun h h2 => h2.elim (fun h => y h) (fun h2 => this.mp h h2.1), fun h => this.mpr (fun h2 => h (Or.inr ⟨h2, x⟩))⟩
  have lt : ∀ t, t < 2 → ∀ c, yq_in m n (yg_p m n W le lb (q + 1)).1 t c → c < m + n := by
    intro t ht c h
    obtain ⟨i, hi, e⟩ := h
    have := (yq_lf_put g okq t ht).2 i hi
    rw [← e]
    exact this
  have st : ∀ t, t < 2 → ∀ c, c < m + n → (yq_in m n (yg_s m lb).1 t c ↔ ¬ yq_in m n (yg_s m lb).1 (1 - t) c) := by
    intro t ht c hc
    rw [yg_s_in, yg_s_in]
    by_cases z : t = 0
    · rw [if_pos z, if_neg (by omega)]; omega
    · rw [if_neg z, if_pos (by omega)]; omega
  have stl : ∀ t, t < 2 → ∀ c, yq_in m n (yg_s m lb).1 t c → c < m + n := by
    intro t ht c h
    rw [yg_s_in] at h
    by_cases z : t = 0
    · rw [if_pos z] at h; omega
    · rw [if_neg z] at h; omega
  intro t0 ht0 all0
  -- then the other one too
  have all : ∀ t, t < 2 → ∀ c, yq_in m n (yg_p m n W le lb (q + 1)).1 t c ↔ yq_in m n (yg_s m lb).1 t c := by
    intro t ht c
    by_cases z : t = t0
    · rw [z]; exact all0 c
    · have e : t0 = 1 - t := by omega
      constructor
      · intro h
        have hc := lt t ht c h
        exact (st t ht c hc).mpr (fun h2 => (comp t ht c hc).mp h ((by rw [← e] at h2 ⊢; exact (all0 c).mpr h2)))
      · intro h
        have hc := stl t ht c h
        exact (comp t ht c hc).mpr (fun h2 => (st t ht c hc).mp h ((by rw [← e] at h2 ⊢; exact (all0 c).mp h2)))
  -- the way back is the way there
  have hin : yq_in m n (yg_p m n W le lb (q + 1)).1 (1 - tt) lb := by
    rw [pin2, if_neg (by omega)]
    exact (bK (1 - tt) (by omega)).1
  have hs := (all (1 - tt) (by omega) lb).mp hin
  rw [yg_s_in] at hs
  have t0e : (yg_s m lb).2.1 = tt := by
    show (if lb < m then 0 else 1) = tt
    by_cases z : 1 - tt = 0
    · rw [if_pos z] at hs; rw [if_neg (by omega)]; omega
    · rw [if_neg z] at hs; rw [if_pos hs]; omega
  have p21 : (yg_p m n W le lb (q + 1)).2.1 = 1 - tt := by rw [fin, htt]; rfl
  have ee : yq_e m n (yg_s m lb) (yq_v (yg_p m n W le lb (q + 1))) := by
    refine ⟨fun t ht => yh_eq_in.mpr (fun c => (all t ht c).symm), ?_, ?_⟩
    · rw [t0e]; show tt = 1 - (yg_p m n W le lb (q + 1)).2.1; rw [p21]; omega
    · exact q2.symm
  have okv : yq_ok m n (yg_a m n W le) (yq_v (yg_p m n W le lb (q + 1))) := by
    refine ⟨by show 1 - (yg_p m n W le lb (q + 1)).2.1 < 2; omega, fun t ht => yq_lf_put g okq t ht, ?_, fun i hi w => ?_⟩
    · show (yg_p m n W le lb (q + 1)).2.2 < m + n
      rw [q2]; exact hl
    · have w : (yg_p m n W le lb (q + 1)).1 (1 - (yg_p m n W le lb (q + 1)).2.1) i = (yg_p m n W le lb (q + 1)).2.2 := w
      have hi : i < yy_rw m n (1 - (yg_p m n W le lb (q + 1)).2.1) := hi
      rw [p21, show 1 - (1 - tt) = tt by omega] at w hi
      rw [q2] at w
      have hin2 : yq_in m n (yg_p m n W le lb (q + 1)).1 tt lb := ⟨i, hi, w⟩
      exact (comp tt tq lb hl).mp hin2 hin
  have p := yq_p1 g ok0 okv ee
  have b := yq_p2 g okq
  have b2 : yq_st m n (yg_a m n W le) (yq_v (yg_p m n W le lb (q + 1))) = yq_v (yg_p m n W le lb q) := b
  rw [b2] at p
  have p2 : yq_e m n (yq_p m n (yg_a m n W le) (yg_s m lb) 1) (yq_v (yq_p m n (yg_a m n W le) (yg_s m lb) (1 + (q - 1)))) := by
    rw [show 1 + (q - 1) = q by omega]; exact p
  exact yq_fold g ok0 c0 q3 (q - 1) 1 (by omega) p2
/-- the weights of a run's end -/
theorem yw_good (hg : yg_ok m n W le) (hl : lb < m + n) (hq : yg_q m n W le lb q) : ∀ p, p < 2 → (∀ k, k < 6 → 0 ≤ yw_w m n (yg_a m n W le) (yg_p m n W le lb (q + 1)) p k ∧ (yw_w m n (yg_a m n W le) (yg_p m n W le lb (q + 1)) p k).natAbs < 2 ^ 192) ∧ yw_s m n (yg_a m n W le) (yg_p m n W le lb (q + 1)) p = yd_s 6 (fun k => yw_w m n (yg_a m n W le) (yg_p m n W le lb (q + 1)) p k) ∧ 0 < yw_s m n (yg_a m n W le) (yg_p m n W le lb (q + 1)) p ∧ (yw_s m n (yg_a m n W le) (yg_p m n W le lb (q + 1)) p).natAbs < 2 ^ 195 := by
  intro p hp
  have hm := hg.2.1
  have hn := hg.2.2.2.1
  obtain ⟨ok0, c0⟩ := yg_start hg hl
  have g := yg_g hg
  have okq := (yq_all g ok0 c0 (N := q) hq.2.2 q (Nat.le_refl _)).1
  have lf : yq_lf m n (yg_a m n W le) p ((yg_p m n W le lb (q + 1)).1 p) := yq_lf_put g okq p hp
  have R6 := yy_rw6 (t := p) hm hn
  obtain ⟨bs, hbs⟩ : ∃ f, f = (yg_p m n W le lb (q + 1)).1 p := ⟨_, rfl⟩
  have ne := yw_end hg hl hq p hp
  obtain ⟨R, hR⟩ : ∃ R, R = yy_rw m n p := ⟨_, rfl⟩
  unfold yw_w yw_s
  have hin : ∀ c, yq_in m n (yg_p m n W le lb (q + 1)).1 p c ↔ ∃ i, i < R ∧ bs i = c := fun c => by rw [hR, hbs]; exact Iff.rfl
  rw [← hbs] at lf ⊢
  obtain ⟨⟨dp, lx⟩, bl⟩ := lf
  rw [← hR] at R6 dp lx bl ⊢
  have ab := yg_b hg p hp
  rw [← hR] at ab
  have T0 : ∀ j, j < R → 0 ≤ yh_T R (yg_a m n W le p) bs j (m + n) := fun j hj => yl_p0 (lx j hj)
  have Tb : ∀ j, j < R → (yh_T R (yg_a m n W le p) bs j (m + n)).natAbs < 2 ^ 184 := fun j hj => yw_T184 R6 ab (fun i hi => Nat.le_of_lt (bl i hi)) (Nat.le_refl _)
  have wn : ∀ k, 0 ≤ yw_x m p bs (yh_T R (yg_a m n W le p) bs) (m + n) R k := fun k => yw_ge (fun j hj => by
    show 0 ≤ if yw_o m p (bs j) = true ∧ bs j = yq_fl m (1 - p) + k then yh_T R (yg_a m n W le p) bs j (m + n) else 0
    split
    · exact T0 j hj
    · exact Int.le_refl _)
  have wb : ∀ k, (yw_x m p bs (yh_T R (yg_a m n W le p) bs) (m + n) R k).natAbs ≤ 6 * 2 ^ 184 := fun k => Nat.le_trans (yd_s_abs (K := 2 ^ 184) (fun j hj => by
    show (if yw_o m p (bs j) = true ∧ bs j = yq_fl m (1 - p) + k then yh_T R (yg_a m n W le p) bs j (m + n) else 0).natAbs ≤ 2 ^ 184
    split
    · exact Nat.le_of_lt (Tb j hj)
    · exact Nat.zero_le _)) (Nat.mul_le_mul_right _ R6)
  have sm := yw_sum (T := yh_T R (yg_a m n W le p) bs) (sd := m + n) hm hn hp R bl
  have tn : 0 ≤ yw_t m p bs (yh_T R (yg_a m n W le p) bs) (m + n) R := by rw [← sm]; exact yw_ge (fun k _ => wn k)
  refine ⟨fun k _ => ⟨wn k, Nat.lt_of_le_of_lt (wb k) (by decide +kernel)⟩, sm.symm, ?_, ?_⟩
  · rcases Int.lt_or_eq_of_le tn with z | z
    · exact z
    · exfalso
      -- all own rows are 0: each slack is there
      have own0 : ∀ j, j < R → yw_o m p (bs j) = true → yh_T R (yg_a m n W le p) bs j (m + n) = 0 := by
        intro j hj ho
        have h1 := yw_le1 (f := fun j => if yw_o m p (bs j) = true then yh_T R (yg_a m n W le p) bs j (m + n) else 0) (n := R) (fun i hi => by
          show 0 ≤ if yw_o m p (bs i) = true then yh_T R (yg_a m n W le p) bs i (m + n) else 0
          split
          · exact T0 i hi
          · exact Int.le_refl _) j hj
        have h2 : (if yw_o m p (bs j) = true then yh_T R (yg_a m n W le p) bs j (m + n) else 0) ≤ yw_t m p bs (yh_T R (yg_a m n W le p) bs) (m + n) R := h1
        rw [if_pos ho, ← z] at h2
        have := T0 j hj
        omega
      have slack : ∀ c, c < m + n → ¬ yw_o m p c = true → ∃ i, i < R ∧ c = yq_fl m p + i := by
        intro c hc ho
        unfold yw_o at ho
        rw [hR]
        unfold yq_fl yy_rw
        rcases (show p = 0 ∨ p = 1 by omega) with y | y
        · subst y
          rw [if_pos rfl] at ho
          rw [if_pos rfl, if_pos rfl]
          have : ¬ c < m := fun h => ho (decide_eq_true h)
          exact ⟨c - m, by omega, by omega⟩
        · subst y
          rw [if_neg (by decide)] at ho
          rw [if_neg (by decide), if_neg (by decide)]
          have : ¬ m ≤ c := fun h => ho (decide_eq_true h)
          exact ⟨c, by omega, by omega⟩
      have og : ∀ i, i < R → ∀ r, r < R → yg_a m n W le p (yq_fl m p + i) r = yh_e i r := by rw [hR]; exact g.1 p hp
      have each : ∀ ρ, ρ < R → ∃ i, i < R ∧ bs i = yq_fl m p + ρ := by
        intro ρ hρ
        apply Classical.byContradiction
        intro no
        have cr := yd_cramer (n := R) (ρ := ρ) hρ (yh_c (yg_a m n W le p) bs) (yg_a m n W le p (m + n))
        have one : yg_a m n W le p (m + n) ρ = 1 := if_pos rfl
        rw [one, Int.mul_one, yd_s_zero (fun i hi => ?_)] at cr
        · have : yh_d R (yg_a m n W le p) bs = 0 := cr
          omega
        · by_cases ho : yw_o m p (bs i) = true
          · have : yd_c R (yd_u (yh_c (yg_a m n W le p) bs) i (yg_a m n W le p (m + n))) = 0 := own0 i hi ho
            rw [this, Int.zero_mul]
          · obtain ⟨w, hw, ew⟩ := slack (bs i) (bl i hi) ho
            have : yh_c (yg_a m n W le p) bs i ρ = 0 := by
              show yg_a m n W le p (bs i) ρ = 0
              rw [ew, og w hw ρ hρ]
              exact if_neg (fun q => no ⟨i, hi, by rw [ew, q]⟩)
            rw [this, Int.mul_zero]
      have d0 : yh_d R (yg_a m n W le p) (fun i => yq_fl m p + i) ≠ 0 := by
        have := (yh_init (R := R) (fl := yq_fl m p) (a := yg_a m n W le p) og).2
        rw [this]; decide
      have eqq : yh_eq R bs (fun i => yq_fl m p + i) := by
        apply Classical.byContradiction
        intro h
        obtain ⟨j, hj, hn2⟩ := yh_new (by omega) d0 h
        obtain ⟨i, hi, e⟩ := each j hj
        exact hn2 i hi e
      refine ne (fun c => ?_)
      rw [hin c]
      show _ ↔ ∃ i, i < yy_rw m n p ∧ yq_fl m p + i = c
      rw [← hR]
      exact yh_eq_in.mp eqq c
  · rw [← sm]
    refine Nat.lt_of_le_of_lt (yd_s_abs (K := 6 * 2 ^ 184) (fun k _ => wb k)) (by decide +kernel)
end YWR
