/-! ===== vertices in their order ===== -/
def yz_l (k : Nat) : Nat → Nat
  | 0 => k
  | p + 1 => p
def yz_Z (R : Nat) (a : Nat → Nat → Int) (sd fl : Nat) (b : Nat → Nat) (s i : Nat) : Int := yd_s R (fun j => if b j = s then yh_T R a b j (yl_c sd fl i) else 0)
def yz_d (R : Nat) (a : Nat → Nat → Int) (b : Nat → Nat) (e s : Nat) : Int := (if s = e then yh_d R a b else 0) - yd_s R (fun j => if b j = s then yh_T R a b j e else 0)
theorem yz_one {R : Nat} {a : Nat → Nat → Int} {b : Nat → Nat} (hd : yh_d R a b ≠ 0) {k0 : Nat} (hk : k0 < R) (f : Nat → Int) : yd_s R (fun j => if b j = b k0 then f j else 0) = f k0 := by
  rw [yd_s_one (k := k0) hk]
  · rw [if_pos rfl]
  · intro i hi hne
    exact if_neg (fun z => hne (yh_inj hd hi hk z))
theorem yz_none {R : Nat} {b : Nat → Nat} {s : Nat} (h : ∀ j, j < R → b j ≠ s) (f : Nat → Int) : yd_s R (fun j => if b j = s then f j else 0) = 0 := yd_s_zero (fun i hi => if_neg (h i hi))
theorem yz_d_in {R : Nat} {a : Nat → Nat → Int} {b : Nat → Nat} (hd : yh_d R a b ≠ 0) {i0 s : Nat} (hi : i0 < R) : yz_d R a b (b i0) s = 0 := by
  unfold yz_d
  by_cases h : ∃ j, j < R ∧ b j = s
  · obtain ⟨j, hj, rfl⟩ := h
    rw [yz_one hd hj (fun j => yh_T R a b j (b i0))]
    by_cases e : j = i0
    · subst e; rw [if_pos rfl, yh_Ts]; omega
    · rw [if_neg (fun z => e (yh_inj hd hj hi z)), yh_To hj hi e]; rfl
  · have hn : ∀ j, j < R → b j ≠ s := fun j hj z => h ⟨j, hj, z⟩
    rw [yz_none hn, if_neg (fun z => hn i0 hi z.symm)]; rfl
theorem yz_E {R sd fl : Nat} {a : Nat → Nat → Int} {b c : Nat → Nat} (hb : yh_d R a b ≠ 0) (s i : Nat) : yh_d R a b * yz_Z R a sd fl c s i - yh_d R a c * yz_Z R a sd fl b s i = yd_s R (fun j => yh_T R a c j (yl_c sd fl i) * yz_d R a b (c j) s) := by
  have hz : yh_d R a b * yz_Z R a sd fl c s i = yd_s R (fun j => if s = c j then yh_T R a c j (yl_c sd fl i) * yh_d R a b else 0) := by
    unfold yz_Z
    rw [← yd_s_mul]
    apply yd_s_ext
    intro j hj
    by_cases e : c j = s
    · rw [if_pos e, if_pos e.symm, Int.mul_comm]
    · rw [if_neg e, if_neg (fun z => e z.symm), Int.mul_zero]
  by_cases h : ∃ k0, k0 < R ∧ b k0 = s
  · obtain ⟨k0, hk, rfl⟩ := h
    have e1 : yz_Z R a sd fl b (b k0) i = yh_T R a b k0 (yl_c sd fl i) := yz_one hb hk _
    rw [hz, e1, yh_F (bt := c) hk]
    have : ∀ x y : Int, x - y = x + -1 * y := by intro x y; omega
    rw [this, ← yd_s_mul, ← yd_s_add]
    apply yd_s_ext
    intro j hj
    unfold yz_d
    rw [yz_one hb hk (fun j9 => yh_T R a b j9 (c j))]
    by_cases e : b k0 = c j
    · rw [if_pos e, if_pos e]; grind
    · rw [if_neg e, if_neg e]; grind
  · have hn : ∀ j, j < R → b j ≠ s := fun j hj z => h ⟨j, hj, z⟩
    have e1 : yz_Z R a sd fl b s i = 0 := yz_none hn _
    rw [hz, e1, Int.mul_zero, Int.sub_zero]
    apply yd_s_ext
    intro j hj
    unfold yz_d
    rw [yz_none hn, Int.sub_zero]
    by_cases e : s = c j
    · rw [if_pos e, if_pos e]
    · rw [if_neg e, if_neg e, Int.mul_zero]
def yz_up (R : Nat) (a : Nat → Nat → Int) (L k : Nat) (b : Nat → Nat) (e : Nat) : Prop := ∃ p, p ≤ L ∧ (∀ q, q < p → yz_d R a b e (yz_l k q) = 0) ∧ 0 < yz_d R a b e (yz_l k p)
def yz_dn (R : Nat) (a : Nat → Nat → Int) (L k : Nat) (b : Nat → Nat) (e : Nat) : Prop := ∃ p, p ≤ L ∧ (∀ q, q < p → yz_d R a b e (yz_l k q) = 0) ∧ yz_d R a b e (yz_l k p) < 0
theorem yz_first (f : Nat → Int) : ∀ p : Nat, f p ≠ 0 → ∃ p0, p0 ≤ p ∧ (∀ q, q < p0 → f q = 0) ∧ f p0 ≠ 0 := by
  intro p
  induction p using Nat.strongRecOn with
  | ind p ih =>
    intro h
    by_cases c : ∃ q, q < p ∧ f q ≠ 0
    · obtain ⟨q, hq, h2⟩ := c
      obtain ⟨p0, a1, a2, a3⟩ := ih q hq h2
      exact ⟨p0, by omega, a2, a3⟩
    · exact ⟨p, Nat.le_refl _, fun q hq => Classical.byContradiction (fun z => c ⟨q, hq, z⟩), h⟩
theorem yz_ud {R : Nat} {a : Nat → Nat → Int} {L k : Nat} {b : Nat → Nat} {e : Nat} (hd : 0 < yh_d R a b) (he : e < L) (hn : ∀ j, j < R → b j ≠ e) : yz_up R a L k b e ∨ yz_dn R a L k b e := by
  have h1 : yz_d R a b e (yz_l k (e + 1)) ≠ 0 := by
    show yz_d R a b e e ≠ 0
    unfold yz_d
    rw [yz_none hn, if_pos rfl]
    omega
  obtain ⟨p, a1, a2, a3⟩ := yz_first (fun p => yz_d R a b e (yz_l k p)) (e + 1) h1
  rcases Int.lt_trichotomy (yz_d R a b e (yz_l k p)) 0 with h | h | h
  · exact Or.inr ⟨p, by omega, a2, h⟩
  · exact absurd h a3
  · exact Or.inl ⟨p, by omega, a2, h⟩
/-- sums of vectors above 0 -/
theorem yl_sum {n : Nat} {u : Nat → Nat → Int} {x : Nat → Int} : ∀ R : Nat, (∀ j, j < R → yl_p n (u j)) → (∀ j, j < R → 0 ≤ x j) → (∀ i, yd_s R (fun j => u j i * x j) = 0) ∨ yl_p n (fun i => yd_s R (fun j => u j i * x j))
  | 0, _, _ => Or.inl (fun _ => rfl)
  | R + 1, hu, hx => by
    have h1 := yl_sum R (fun j hj => hu j (by omega)) (fun j hj => hx j (by omega))
    have hxR := hx R (by omega)
    rcases Int.lt_trichotomy (x R) 0 with h | h | h
    · omega
    · have e : ∀ i, yd_s (R + 1) (fun j => u j i * x j) = yd_s R (fun j => u j i * x j) := by
        intro i
        show yd_s R _ + u R i * x R = _
        rw [h, Int.mul_zero, Int.add_zero]
      rcases h1 with h1 | h1
      · exact Or.inl (fun i => by rw [e]; exact h1 i)
      · exact Or.inr (yl_ext h1 (fun i _ => (e i).symm))
    · have s : yl_p n (fun i => u R i * x R) := yl_ext ((yl_scale h).mpr (hu R (by omega))) (fun i _ => Int.mul_comm _ _)
      rcases h1 with h1 | h1
      · refine Or.inr (yl_ext s (fun i _ => ?_))
        show _ = yd_s R (fun j => u j i * x j) + u R i * x R
        rw [h1 i, Int.zero_add]
      · exact Or.inr (yl_add h1 s)
theorem yl_sum1 {n R : Nat} {u : Nat → Nat → Int} {x : Nat → Int} (hu : ∀ j, j < R → yl_p n (u j)) (hx : ∀ j, j < R → 0 ≤ x j) {j0 : Nat} (hj : j0 < R) (h0 : x j0 ≠ 0) : yl_p n (fun i => yd_s R (fun j => u j i * x j)) := by
  induction R with
  | zero => exact absurd hj (Nat.not_lt_zero _)
  | succ R ih =>
    have hxR := hx R (by omega)
    by_cases e : j0 = R
    · subst e
      have s : yl_p n (fun i => u j0 i * x j0) := yl_ext ((yl_scale (x := x j0) (by omega)).mpr (hu j0 (by omega))) (fun i _ => Int.mul_comm _ _)
      rcases yl_sum (n := n) (u := u) (x := x) j0 (fun j hj => hu j (by omega)) (fun j hj => hx j (by omega)) with h1 | h1
      · refine yl_ext s (fun i _ => ?_)
        show _ = yd_s j0 (fun j => u j i * x j) + u j0 i * x j0
        rw [h1 i, Int.zero_add]
      · exact yl_add h1 s
    · have h1 := ih (fun j hj => hu j (by omega)) (fun j hj => hx j (by omega)) (by omega)
      rcases Int.lt_trichotomy (x R) 0 with h | h | h
      · omega
      · refine yl_ext h1 (fun i _ => ?_)
        show _ = yd_s R (fun j => u j i * x j) + u R i * x R
        rw [h, Int.mul_zero, Int.add_zero]
      · exact yl_add h1 (yl_ext ((yl_scale h).mpr (hu R (by omega))) (fun i _ => Int.mul_comm _ _))
/-- rows one behind the other -/
theorem yl_flat {R L p : Nat} {W : Nat → Nat → Int} (hp : p ≤ L) (h0 : ∀ q, q < p → ∀ i, i < R + 1 → W q i = 0) (h : yl_p (R + 1) (W p)) : yl_p ((L + 1) * (R + 1)) (fun t => W (t / (R + 1)) (t % (R + 1))) := by
  obtain ⟨i0, a1, a2, a3⟩ := h
  have d : (p * (R + 1) + i0) / (R + 1) = p := by
    rw [Nat.mul_comm, Nat.mul_add_div (by omega), Nat.div_eq_of_lt a1, Nat.add_zero]
  have m : (p * (R + 1) + i0) % (R + 1) = i0 := by
    rw [Nat.mul_comm, Nat.mul_add_mod, Nat.mod_eq_of_lt a1]
  have lt : p * (R + 1) + i0 < (L + 1) * (R + 1) := by
    have : (p + 1) * (R + 1) ≤ (L + 1) * (R + 1) := Nat.mul_le_mul_right _ (by omega)
    rw [Nat.add_mul p 1, Nat.one_mul] at this
    omega
  refine ⟨p * (R + 1) + i0, lt, fun t ht => ?_, ?_⟩
  · show (0 : Int) = W (t / (R + 1)) (t % (R + 1))
    have e := Nat.div_add_mod t (R + 1)
    have ml := Nat.mod_lt t (show 0 < R + 1 by omega)
    rw [Nat.mul_comm] at e
    have qle : t / (R + 1) ≤ p := by
      apply Nat.le_of_not_lt
      intro z
      have : (p + 1) * (R + 1) ≤ t / (R + 1) * (R + 1) := Nat.mul_le_mul_right _ z
      rw [Nat.add_mul p 1, Nat.one_mul] at this
      omega
    by_cases z : t / (R + 1) = p
    · rw [z] at e ⊢
      exact a2 (t % (R + 1)) (by omega)
    · exact (h0 _ (by omega) _ ml).symm
  · show (0 : Int) < W ((p * (R + 1) + i0) / (R + 1)) ((p * (R + 1) + i0) % (R + 1))
    rw [d, m]; exact a3
def yz_v (R : Nat) (a : Nat → Nat → Int) (sd fl k : Nat) (b : Nat → Nat) : Nat → Int := fun t => yz_Z R a sd fl b (yz_l k (t / (R + 1))) (t % (R + 1))
/-- b below c -/
def yz_lt (R : Nat) (a : Nat → Nat → Int) (sd fl L k : Nat) (b c : Nat → Nat) : Prop := yl_lt ((L + 1) * (R + 1)) (fun t => yz_v R a sd fl k b t * yh_d R a c) (fun t => yz_v R a sd fl k c t * yh_d R a b)
theorem yl_rtr {n : Nat} {u v w : Nat → Int} {x y z : Int} (hx : 0 < x) (hy : 0 < y) (hz : 0 < z) (h1 : yl_lt n (fun i => u i * y) (fun i => v i * x)) (h2 : yl_lt n (fun i => v i * z) (fun i => w i * y)) : yl_lt n (fun i => u i * z) (fun i => w i * x) := by
  have a1 := (yl_scale (n := n) hz).mpr (yl_sub.mp h1)
  have a2 := (yl_scale (n := n) hx).mpr (yl_sub.mp h2)
  have a3 := yl_add a1 a2
  rw [yl_sub]
  refine (yl_scale (x := y) hy).mp (yl_ext a3 (fun i _ => ?_))
  generalize u i = x1
  generalize v i = x2
  generalize w i = x3
  grind
theorem yz_tr {R sd fl L k : Nat} {a : Nat → Nat → Int} {b c d : Nat → Nat} (hb : 0 < yh_d R a b) (hc : 0 < yh_d R a c) (hd : 0 < yh_d R a d) (h1 : yz_lt R a sd fl L k b c) (h2 : yz_lt R a sd fl L k c d) : yz_lt R a sd fl L k b d := yl_rtr hb hc hd h1 h2
/-- where all that is new goes up (sg = 1) or down (sg = -1) -/
theorem yz_mono {R sd fl L k : Nat} {a : Nat → Nat → Int} {b c : Nat → Nat} {sg : Int} (hsg : sg = 1 ∨ sg = -1) (hb : 0 < yh_d R a b) (hc : yh_lf R sd fl a c) {j0 : Nat} (hj0 : j0 < R) (hnew : ∀ i, i < R → b i ≠ c j0) (h : ∀ j, j < R → (∀ i, i < R → b i ≠ c j) → ∃ p, p ≤ L ∧ (∀ q, q < p → yz_d R a b (c j) (yz_l k q) = 0) ∧ 0 < sg * yz_d R a b (c j) (yz_l k p)) : yl_p ((L + 1) * (R + 1)) (fun t => sg * (yh_d R a b * yz_v R a sd fl k c t - yh_d R a c * yz_v R a sd fl k b t)) := by
  have hbn : yh_d R a b ≠ 0 := by omega
  obtain ⟨p1, l1, z1, g1⟩ := h j0 hj0 hnew
  -- the first place at which one of them moves
  obtain ⟨p, hp, hpz, ⟨jm, hjm, hjn⟩⟩ : ∃ p, p ≤ p1 ∧ (∀ q, q < p → ∀ j, j < R → yz_d R a b (c j) (yz_l k q) = 0) ∧ ∃ j, j < R ∧ yz_d R a b (c j) (yz_l k p) ≠ 0 := by
    have st : ∀ p1 : Nat, (∃ j, j < R ∧ yz_d R a b (c j) (yz_l k p1) ≠ 0) → ∃ p, p ≤ p1 ∧ (∀ q, q < p → ∀ j, j < R → yz_d R a b (c j) (yz_l k q) = 0) ∧ ∃ j, j < R ∧ yz_d R a b (c j) (yz_l k p) ≠ 0 := by
      intro p1
      induction p1 using Nat.strongRecOn with
      | ind p1 ih =>
        intro h9
        by_cases w : ∃ q, q < p1 ∧ ∃ j, j < R ∧ yz_d R a b (c j) (yz_l k q) ≠ 0
        · obtain ⟨q, hq, h8⟩ := w
          obtain ⟨p, a1, a2⟩ := ih q hq h8
          exact ⟨p, by omega, a2⟩
        · exact ⟨p1, Nat.le_refl _, fun q hq j hj => Classical.byContradiction (fun z => w ⟨q, hq, j, hj, z⟩), h9⟩
    refine st p1 ⟨j0, hj0, fun z => ?_⟩
    rw [z, Int.mul_zero] at g1
    omega
  have hge : ∀ j, j < R → 0 ≤ sg * yz_d R a b (c j) (yz_l k p) := by
    intro j hj
    by_cases w : ∃ i, i < R ∧ b i = c j
    · obtain ⟨i, hi, e⟩ := w
      rw [← e, yz_d_in hbn hi, Int.mul_zero]
      exact Int.le_refl 0
    · obtain ⟨pj, lj, zj, gj⟩ := h j hj (fun i hi z => w ⟨i, hi, z⟩)
      rcases Nat.lt_trichotomy p pj with q | q | q
      · rw [zj p q, Int.mul_zero]; exact Int.le_refl 0
      · rw [q]; omega
      · rw [hpz pj q j hj, Int.mul_zero] at gj; omega
  have hsn : sg ≠ 0 := by omega
  have main := yl_sum1 (n := R + 1) (u := fun j i => yh_T R a c j (yl_c sd fl i)) (x := fun j => sg * yz_d R a b (c j) (yz_l k p)) hc.2 hge hjm (fun z => by
    rcases Int.mul_eq_zero.mp z with w | w
    · exact hsn w
    · exact hjn w)
  have hW : ∀ q i, sg * (yh_d R a b * yz_Z R a sd fl c (yz_l k q) i - yh_d R a c * yz_Z R a sd fl b (yz_l k q) i) = yd_s R (fun j => yh_T R a c j (yl_c sd fl i) * (sg * yz_d R a b (c j) (yz_l k q))) := by
    intro q i
    rw [yz_E hbn, ← yd_s_mul]
    apply yd_s_ext
    intro j hj
    grind
  exact yl_flat (W := fun q i => sg * (yh_d R a b * yz_Z R a sd fl c (yz_l k q) i - yh_d R a c * yz_Z R a sd fl b (yz_l k q) i)) (show p ≤ L by omega) (fun q hq i hi => by
    show sg * _ = 0
    rw [hW]
    exact yd_s_zero (fun j hj => by rw [hpz q hq j hj, Int.mul_zero, Int.mul_zero])) (yl_ext main (fun i _ => (hW p i).symm))
theorem yz_ups {R sd fl L k : Nat} {a : Nat → Nat → Int} {b c : Nat → Nat} (hb : 0 < yh_d R a b) (hc : yh_lf R sd fl a c) {j0 : Nat} (hj0 : j0 < R) (hnew : ∀ i, i < R → b i ≠ c j0) (h : ∀ j, j < R → (∀ i, i < R → b i ≠ c j) → yz_up R a L k b (c j)) : yz_lt R a sd fl L k b c := by
  have m := yz_mono (sg := 1) (k := k) (L := L) (Or.inl rfl) hb hc hj0 hnew (fun j hj hn => by
    obtain ⟨p, a1, a2, a3⟩ := h j hj hn
    exact ⟨p, a1, a2, by omega⟩)
  unfold yz_lt
  rw [yl_sub]
  refine yl_ext m (fun t _ => ?_)
  grind
theorem yz_dns {R sd fl L k : Nat} {a : Nat → Nat → Int} {b c : Nat → Nat} (hb : 0 < yh_d R a b) (hc : yh_lf R sd fl a c) {j0 : Nat} (hj0 : j0 < R) (hnew : ∀ i, i < R → b i ≠ c j0) (h : ∀ j, j < R → (∀ i, i < R → b i ≠ c j) → yz_dn R a L k b (c j)) : yz_lt R a sd fl L k c b := by
  have m := yz_mono (sg := -1) (k := k) (L := L) (Or.inr rfl) hb hc hj0 hnew (fun j hj hn => by
    obtain ⟨p, a1, a2, a3⟩ := h j hj hn
    exact ⟨p, a1, a2, by omega⟩)
  unfold yz_lt
  rw [yl_sub]
  refine yl_ext m (fun t _ => ?_)
  grind
/-- the one has a label that the other has not -/
theorem yh_new {R : Nat} {a : Nat → Nat → Int} {b c : Nat → Nat} (hb : yh_d R a b ≠ 0) (hc : yh_d R a c ≠ 0) (h : ¬ yh_eq R b c) : ∃ j, j < R ∧ ∀ i, i < R → b i ≠ c j := by
  apply Classical.byContradiction
  intro hno
  have h1 : ∀ j, j < R → ∃ i, i < R ∧ c j = b i := by
    intro j hj
    apply Classical.byContradiction
    intro z
    exact hno ⟨j, hj, fun i hi e => z ⟨i, hi, e.symm⟩⟩
  apply h
  refine ⟨fun q hq => ?_, h1⟩
  apply Classical.byContradiction
  intro z
  have f := yh_F (R := R) (a := a) (bs := b) (bt := c) (k := q) (c := b q) hq
  rw [yh_Ts, yd_s_zero (fun j hj => ?_)] at f
  · rcases Int.mul_eq_zero.mp f with w | w
    · exact hc w
    · exact hb w
  · obtain ⟨i, hi, e⟩ := h1 j hj
    have : q ≠ i := fun w => z ⟨j, hj, by rw [w]; exact e.symm⟩
    rw [e, yh_To hq hi this, Int.mul_zero]
/-- a face has one bottom and one top -/
theorem yz_bot {R sd fl L k : Nat} {a : Nat → Nat → Int} {b c : Nat → Nat} (hb : yh_lf R sd fl a b) (hc : yh_lf R sd fl a c) (hne : ¬ yh_eq R b c) (h1 : ∀ j, j < R → (∀ i, i < R → b i ≠ c j) → yz_up R a L k b (c j)) (h2 : ∀ j, j < R → (∀ i, i < R → c i ≠ b j) → yz_up R a L k c (b j)) : False := by
  have db := hb.1
  have dc := hc.1
  obtain ⟨j, hj, hn⟩ := yh_new (a := a) (by omega) (by omega) hne
  obtain ⟨i, hi, hm⟩ := yh_new (a := a) (by omega) (by omega) (fun z => hne (yh_eq.symm z))
  exact yl_asym (yz_ups db hc hj hn h1) (yz_ups dc hb hi hm h2)
theorem yz_top {R sd fl L k : Nat} {a : Nat → Nat → Int} {b c : Nat → Nat} (hb : yh_lf R sd fl a b) (hc : yh_lf R sd fl a c) (hne : ¬ yh_eq R b c) (h1 : ∀ j, j < R → (∀ i, i < R → b i ≠ c j) → yz_dn R a L k b (c j)) (h2 : ∀ j, j < R → (∀ i, i < R → c i ≠ b j) → yz_dn R a L k c (b j)) : False := by
  have db := hb.1
  have dc := hc.1
  obtain ⟨j, hj, hn⟩ := yh_new (a := a) (by omega) (by omega) hne
  obtain ⟨i, hi, hm⟩ := yh_new (a := a) (by omega) (by omega) (fun z => hne (yh_eq.symm z))
  exact yl_asym (yz_dns db hc hj hn h1) (yz_dns dc hb hi hm h2)
