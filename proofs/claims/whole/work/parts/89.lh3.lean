/-! ===== an edge has two ends ===== -/
theorem yh_inj {R : Nat} {a : Nat → Nat → Int} {bs : Nat → Nat} (hd : yh_d R a bs ≠ 0) {i j : Nat} (hi : i < R) (hj : j < R) (h : bs i = bs j) : i = j := by
  apply Classical.byContradiction
  intro hne
  apply hd
  unfold yh_d
  exact yd_c_rep hi hj hne (by unfold yh_c; rw [h])
theorem yd_s_two' {f : Nat → Int} {k l n : Nat} (hkl : k ≠ l) (hk : k < n) (hl : l < n) (h : ∀ i, i < n → i ≠ k → i ≠ l → f i = 0) : yd_s n f = f k + f l := yd_s_two hkl hk hl h
theorem yl_p_neg {n : Nat} {u : Nat → Int} {x : Int} (h : yl_p n u) (hx : x ≤ 0) (h2 : yl_p n (fun i => x * u i)) : False := by
  rcases Int.lt_trichotomy x 0 with q | q | q
  · have h3 := (yl_scale (x := -x) (by omega)).mpr h
    refine yl_neg h2 (yl_ext h3 (fun i _ => ?_))
    rw [Int.neg_mul]
  · obtain ⟨i, _, _, c⟩ := h2
    have c : (0 : Int) < x * u i := c
    rw [q, Int.zero_mul] at c
    omega
  · omega
theorem yh_edge {R sd fl : Nat} {a : Nat → Nat → Int} {bs bt : Nat → Nat} (ho : ∀ i, i < R → ∀ r, r < R → a (fl + i) r = yh_e i r) (hs : yh_lf R sd fl a bs) (ht : yh_lf R sd fl a bt) {e r j0 : Nat} (hj0 : j0 < R) (he : bt j0 = e) (hsub : ∀ j, j < R → j ≠ j0 → ∃ i, i < R ∧ bt j = bs i) (hne : ∀ i, i < R → bs i ≠ e) (hr : yo_r (yh_T R a bs) e sd fl R R = some r) : ∀ j, j < R → bt j ≠ bs r := by
  intro j1 hj1 heq
  obtain ⟨ds, ps⟩ := hs
  obtain ⟨dt, pt⟩ := ht
  obtain ⟨hr1, hr2⟩ := yo_r_lt hr
  have j10 : j1 ≠ j0 := fun z => hne r hr1 (by rw [← heq, z, he])
  -- one of bs is missing
  obtain ⟨q, hq, hmiss⟩ : ∃ q, q < R ∧ ∀ j, j < R → bt j ≠ bs q := by
    apply Classical.byContradiction
    intro hno
    have hall : ∀ q, q < R → ∃ j, j < R ∧ bt j = bs q := by
      intro q hq
      apply Classical.byContradiction
      intro h9
      exact hno ⟨q, hq, fun j hj z => h9 ⟨j, hj, z⟩⟩
    have f := yh_F (R := R) (a := a) (bs := bt) (bt := bs) (k := j0) (c := bt j0) hj0
    rw [yh_Ts, yd_s_zero (fun k hk => ?_)] at f
    · rcases Int.mul_eq_zero.mp f with z | z <;> omega
    · obtain ⟨j, hj, h9⟩ := hall k hk
      have : j ≠ j0 := fun z => hne k hk (by rw [← h9, z, he])
      rw [← h9, yh_To hj0 hj (by omega), Int.mul_zero]
  have hqr : q ≠ r := fun z => hmiss j1 hj1 (by rw [z]; exact heq)
  -- (1)
  have f1 : ∀ c, yh_d R a bt * yh_T R a bs q c = yh_T R a bt j0 c * yh_T R a bs q e := by
    intro c
    rw [yh_F (bt := bt) hq, yd_s_one (k := j0) hj0]
    · rw [he]
    · intro j hj hjj
      obtain ⟨i, hi, h9⟩ := hsub j hj hjj
      have : q ≠ i := fun z => hmiss j hj (by rw [z]; exact h9)
      rw [h9, yh_To hq hi this, Int.mul_zero]
  have f2 : ∀ c, yh_d R a bt * yh_T R a bs r c = yh_T R a bt j0 c * yh_T R a bs r e + yh_T R a bt j1 c * yh_d R a bs := by
    intro c
    rw [yh_F (bt := bt) hr1, yd_s_two (k := j0) (l := j1) (by omega) hj0 hj1]
    · rw [he, heq, yh_Ts]
    · intro j hj a1 a2
      obtain ⟨i, hi, h9⟩ := hsub j hj a1
      have : r ≠ i := fun z => a2 (yh_inj (a := a) (bs := bt) (by omega) hj hj1 (by rw [h9, heq, z]))
      rw [h9, yh_To hr1 hi this, Int.mul_zero]
  have hqe : 0 < yh_T R a bs q e := by
    apply Int.lt_of_not_ge
    intro z
    refine yl_p_neg (pt j0 hj0) z (yl_ext ((yl_scale dt).mpr (ps q hq)) (fun i _ => ?_))
    show yh_d R a bt * yh_T R a bs q (yl_c sd fl i) = _
    rw [f1, Int.mul_comm]
  have m := yl_sub.mp (yh_min ho (by omega) hr hq hqr hqe)
  have m2 := (yl_scale dt).mpr m
  have hx : 0 < yh_d R a bs * yh_T R a bs q e := Int.mul_pos ds hqe
  refine yl_p_neg (x := - (yh_d R a bs * yh_T R a bs q e)) (pt j1 hj1) (by omega) (yl_ext m2 (fun i _ => ?_))
  have g1 := f1 (yl_c sd fl i)
  have g2 := f2 (yl_c sd fl i)
  show yh_d R a bt * (yh_T R a bs q (yl_c sd fl i) * yh_T R a bs r e - yh_T R a bs r (yl_c sd fl i) * yh_T R a bs q e) = - (yh_d R a bs * yh_T R a bs q e) * yh_T R a bt j1 (yl_c sd fl i)
  generalize yh_T R a bs q (yl_c sd fl i) = x1 at *
  generalize yh_T R a bs r (yl_c sd fl i) = x2 at *
  generalize yh_T R a bt j0 (yl_c sd fl i) = x3 at *
  generalize yh_T R a bt j1 (yl_c sd fl i) = x4 at *
  generalize yh_T R a bs q e = y1 at *
  generalize yh_T R a bs r e = y2 at *
  generalize yh_d R a bt = z1 at *
  generalize yh_d R a bs = z2 at *
  have e1 : z1 * (x1 * y2 - x2 * y1) = (z1 * x1) * y2 - (z1 * x2) * y1 := by grind
  rw [e1, g1, g2]
  grind
/-- the same labels -/
def yh_eq (R : Nat) (bs bt : Nat → Nat) : Prop := (∀ i, i < R → ∃ j, j < R ∧ bs i = bt j) ∧ (∀ j, j < R → ∃ i, i < R ∧ bt j = bs i)
theorem yh_eq.symm {R : Nat} {bs bt : Nat → Nat} (h : yh_eq R bs bt) : yh_eq R bt bs := ⟨h.2, h.1⟩
theorem yh_eq.refl {R : Nat} {bs : Nat → Nat} : yh_eq R bs bs := ⟨fun i hi => ⟨i, hi, rfl⟩, fun i hi => ⟨i, hi, rfl⟩⟩
theorem yh_eq.trans {R : Nat} {bs bt bu : Nat → Nat} (h : yh_eq R bs bt) (h2 : yh_eq R bt bu) : yh_eq R bs bu := by
  constructor
  · intro i hi
    obtain ⟨j, hj, e⟩ := h.1 i hi
    obtain ⟨k, hk, e2⟩ := h2.1 j hj
    exact ⟨k, hk, e.trans e2⟩
  · intro i hi
    obtain ⟨j, hj, e⟩ := h2.2 i hi
    obtain ⟨k, hk, e2⟩ := h.2 j hj
    exact ⟨k, hk, e.trans e2⟩
/-- what leaves depends on the labels alone -/
theorem yh_det {R sd fl : Nat} {a : Nat → Nat → Int} {bs bt : Nat → Nat} (ho : ∀ i, i < R → ∀ r, r < R → a (fl + i) r = yh_e i r) (hs : yh_lf R sd fl a bs) (ht : yh_lf R sd fl a bt) (h : yh_eq R bs bt) {e r r2 : Nat} (hne : ∀ i, i < R → bs i ≠ e) (hr : yo_r (yh_T R a bs) e sd fl R R = some r) (hr2 : yo_r (yh_T R a bt) e sd fl R R = some r2) : bs r = bt r2 ∧ yh_eq R (yy_ud bs r e) (yy_ud bt r2 e) := by
  obtain ⟨l1, _⟩ := yo_r_lt hr
  obtain ⟨l2, _⟩ := yo_r_lt hr2
  have hst := yh_lf_step ho hs hr
  have hne2 : ∀ i, i < R → bt i ≠ e := fun i hi z => by
    obtain ⟨j, hj, e9⟩ := h.2 i hi
    exact hne j hj (by rw [← e9]; exact z)
  have ed := yh_edge ho ht hst (j0 := r) l1 (by rw [yy_ud_s]) (fun j hj hjr => by rw [yy_ud_n hjr]; exact h.1 j hj) hne2 hr2
  have key : bs r = bt r2 := by
    obtain ⟨i, hi, e9⟩ := h.2 r2 l2
    by_cases z : i = r
    · rw [← z]; exact e9.symm
    · exact absurd ((yy_ud_n z).trans e9.symm) (ed i hi)
  refine ⟨key, fun i hi => ?_, fun i hi => ?_⟩
  · by_cases z : i = r
    · exact ⟨r2, l2, by rw [z, yy_ud_s, yy_ud_s]⟩
    · obtain ⟨j, hj, e9⟩ := h.1 i hi
      have : j ≠ r2 := fun w => z (yh_inj (a := a) (bs := bs) (by have := hs.1; omega) hi l1 (by rw [e9, w, key]))
      exact ⟨j, hj, by rw [yy_ud_n z, yy_ud_n this, e9]⟩
  · by_cases z : i = r2
    · exact ⟨r, l1, by rw [z, yy_ud_s, yy_ud_s]⟩
    · obtain ⟨j, hj, e9⟩ := h.2 i hi
      have : j ≠ r := fun w => z (yh_inj (a := a) (bs := bt) (by have := ht.1; omega) hi l2 (by rw [e9, w, key]))
      exact ⟨j, hj, by rw [yy_ud_n z, yy_ud_n this, e9]⟩
/-- the step back -/
theorem yh_rev {R sd fl : Nat} {a : Nat → Nat → Int} {bs : Nat → Nat} (ho : ∀ i, i < R → ∀ r, r < R → a (fl + i) r = yh_e i r) (hs : yh_lf R sd fl a bs) {e r : Nat} (hne : ∀ i, i < R → bs i ≠ e) (hr : yo_r (yh_T R a bs) e sd fl R R = some r) : yo_r (yh_T R a (yy_ud bs r e)) (bs r) sd fl R R = some r := by
  obtain ⟨l1, _⟩ := yo_r_lt hr
  have hst := yh_lf_step ho hs hr
  have hp : 0 < yh_T R a (yy_ud bs r e) r (bs r) := by
    have e1 : yh_T R a (yy_ud bs r e) r (bs r) = yh_d R a bs := by
      rw [← yh_step (by have := hs.1; omega) l1 l1]
      unfold yt_n
      rw [if_pos rfl, yh_Ts]
    rw [e1]; exact hs.1
  obtain ⟨r2, h2⟩ := yo_r_some (T := yh_T R a (yy_ud bs r e)) (e := bs r) (sd := sd) (fl := fl) (R := R) (n := R) ⟨r, l1, hp⟩
  obtain ⟨l2, _⟩ := yo_r_lt h2
  have hdn : yh_d R a bs ≠ 0 := by have := hs.1; omega
  have ed := yh_edge ho hst hs (e := bs r) (j0 := r) l1 rfl (fun j hj hjr => ⟨j, hj, (yy_ud_n hjr).symm⟩) (fun i hi => by
    by_cases z : i = r
    · rw [z, yy_ud_s]; exact fun w => hne r l1 w.symm
    · rw [yy_ud_n z]; exact fun w => z (yh_inj hdn hi l1 w)) h2
  have : r2 = r := by
    apply Classical.byContradiction
    intro z
    exact ed r2 l2 (yy_ud_n z).symm
  rw [h2, this]
theorem yy_ud_back {bs : Nat → Nat} {r e : Nat} : yy_ud (yy_ud bs r e) r (bs r) = bs := by
  funext j
  unfold yy_ud
  by_cases h : j = r
  · rw [if_pos h, h]
  · rw [if_neg h, if_neg h]
