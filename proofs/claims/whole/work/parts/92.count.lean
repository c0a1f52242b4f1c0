/-! ===== counting vertices ===== -/
noncomputable def yn_i (p : Prop) : Nat := @ite Nat p (Classical.propDecidable p) 1 0
theorem yn_t {p : Prop} (h : p) : yn_i p = 1 := @if_pos p (Classical.propDecidable p) h Nat 1 0
theorem yn_f {p : Prop} (h : ¬ p) : yn_i p = 0 := @if_neg p (Classical.propDecidable p) h Nat 1 0
theorem yn_le (p : Prop) : yn_i p ≤ 1 := by
  by_cases h : p
  · rw [yn_t h]; exact Nat.le_refl 1
  · rw [yn_f h]; exact Nat.zero_le 1
theorem yn_c {p q : Prop} (h : p ↔ q) : yn_i p = yn_i q := by
  by_cases e : p
  · rw [yn_t e, yn_t (h.mp e)]
  · rw [yn_f e, yn_f (fun z => e (h.mpr z))]
theorem yn_m {p q : Prop} (h : p → q) : yn_i p ≤ yn_i q := by
  by_cases e : p
  · rw [yn_t e, yn_t (h e)]; exact Nat.le_refl 1
  · rw [yn_f e]; exact Nat.zero_le _
def yn_s : Nat → (Nat → Nat) → Nat
  | 0, _ => 0
  | n + 1, f => yn_s n f + f n
theorem yn_s_ext {f g : Nat → Nat} : ∀ {n : Nat}, (∀ i, i < n → f i = g i) → yn_s n f = yn_s n g
  | 0, _ => rfl
  | n + 1, h => by
    show yn_s n f + f n = yn_s n g + g n
    rw [yn_s_ext (n := n) (fun i hi => h i (by omega)), h n (by omega)]
theorem yn_s_le {f g : Nat → Nat} : ∀ {n : Nat}, (∀ i, i < n → f i ≤ g i) → yn_s n f ≤ yn_s n g
  | 0, _ => Nat.le_refl 0
  | n + 1, h => Nat.add_le_add (yn_s_le (n := n) (fun i hi => h i (by omega))) (h n (by omega))
theorem yn_s_add (f g : Nat → Nat) : ∀ n : Nat, yn_s n (fun i => f i + g i) = yn_s n f + yn_s n g
  | 0 => rfl
  | n + 1 => by
    show yn_s n (fun i => f i + g i) + (f n + g n) = yn_s n f + f n + (yn_s n g + g n)
    rw [yn_s_add f g n]; omega
theorem yn_s_c (q : Nat) : ∀ n : Nat, yn_s n (fun _ => q) = n * q
  | 0 => by show 0 = 0 * q; simp
  | n + 1 => by
    show yn_s n (fun _ => q) + q = (n + 1) * q
    rw [yn_s_c q n, Nat.add_mul, Nat.one_mul]
theorem yn_s_0 {f : Nat → Nat} {n : Nat} (h : ∀ i, i < n → f i = 0) : yn_s n f = 0 := by
  rw [yn_s_ext h, yn_s_c, Nat.mul_zero]
theorem yn_swap (f : Nat → Nat → Nat) (m : Nat) : ∀ n : Nat, yn_s n (fun i => yn_s m (fun j => f i j)) = yn_s m (fun j => yn_s n (fun i => f i j))
  | 0 => (yn_s_0 (fun _ _ => rfl)).symm
  | n + 1 => by
    show yn_s n (fun i => yn_s m (fun j => f i j)) + yn_s m (fun j => f n j) = yn_s m (fun j => yn_s n (fun i => f i j) + f n j)
    rw [yn_swap f m n, yn_s_add]
theorem yn_big {f : Nat → Nat} {q : Nat} : ∀ {n : Nat}, n * q < yn_s n f → ∃ i, i < n ∧ q < f i := by
  intro n h
  apply Classical.byContradiction
  intro z
  have : yn_s n f ≤ yn_s n (fun _ => q) := yn_s_le (fun i hi => Nat.le_of_not_lt (fun w => z ⟨i, hi, w⟩))
  rw [yn_s_c] at this
  omega
theorem yn_one {n x : Nat} (hx : x < n) : yn_s n (fun c => yn_i (c = x)) = 1 := by
  induction n with
  | zero => exact absurd hx (Nat.not_lt_zero x)
  | succ n ih =>
    show yn_s n (fun c => yn_i (c = x)) + yn_i (n = x) = 1
    by_cases e : n = x
    · rw [yn_t e, yn_s_0 (fun i hi => yn_f (by omega))]
    · rw [yn_f e, ih (by omega)]
theorem yn_am1 {p : Nat → Prop} : ∀ {n : Nat}, (∀ i j, i < n → j < n → p i → p j → i = j) → yn_s n (fun i => yn_i (p i)) ≤ 1
  | 0, _ => Nat.zero_le 1
  | n + 1, h => by
    show yn_s n (fun i => yn_i (p i)) + yn_i (p n) ≤ 1
    by_cases e : p n
    · rw [yn_t e, yn_s_0 (fun i hi => yn_f (fun z => by have := h i n (by omega) (by omega) z e; omega))]
      exact Nat.le_refl 1
    · rw [yn_f e]
      exact yn_am1 (fun i j hi hj => h i j (by omega) (by omega))
theorem yn_pick {p : Nat → Prop} {n s : Nat} (h : yn_s n (fun c => yn_i (p c)) = s + 1) : ∃ x, x < n ∧ p x ∧ yn_s n (fun c => yn_i (p c ∧ c ≠ x)) = s := by
  obtain ⟨x, hx, px⟩ : ∃ x, x < n ∧ p x := by
    apply Classical.byContradiction
    intro z
    rw [yn_s_0 (fun i hi => yn_f (fun w => z ⟨i, hi, w⟩))] at h
    omega
  refine ⟨x, hx, px, ?_⟩
  have e : yn_s n (fun c => yn_i (p c)) = yn_s n (fun c => yn_i (p c ∧ c ≠ x)) + yn_s n (fun c => yn_i (c = x)) := by
    rw [← yn_s_add]
    apply yn_s_ext
    intro c hc
    by_cases w : c = x
    · rw [yn_t (show p c by rw [w]; exact px), yn_f (fun z => z.2 w), yn_t w]
    · rw [yn_f w, Nat.add_zero]
      exact yn_c ⟨fun z => ⟨z, w⟩, fun z => z.1⟩
  rw [yn_one hx] at e
  omega
theorem yn_sub {p : Nat → Prop} : ∀ n : Nat, ∃ σ : Nat → Nat, (∀ i, i < yn_s n (fun i => yn_i (p i)) → σ i < n ∧ p (σ i)) ∧ (∀ i j, i < yn_s n (fun i => yn_i (p i)) → j < yn_s n (fun i => yn_i (p i)) → σ i = σ j → i = j)
  | 0 => ⟨fun i => i, fun i hi => absurd hi (Nat.not_lt_zero i), fun i _ hi => absurd hi (Nat.not_lt_zero i)⟩
  | n + 1 => by
    obtain ⟨σ, h1, h2⟩ := yn_sub (p := p) n
    have e : yn_s (n + 1) (fun i => yn_i (p i)) = yn_s n (fun i => yn_i (p i)) + yn_i (p n) := rfl
    rw [e]
    by_cases w : p n
    · rw [yn_t w]
      generalize yn_s n (fun i => yn_i (p i)) = q at *
      refine ⟨fun i => if i = q then n else σ i, fun i hi => ?_, fun i j hi hj => ?_⟩
      · show (if i = q then n else σ i) < n + 1 ∧ p (if i = q then n else σ i)
        by_cases z : i = q
        · rw [if_pos z]; exact ⟨by omega, w⟩
        · rw [if_neg z]; have := h1 i (by omega); exact ⟨by omega, this.2⟩
      · show (if i = q then n else σ i) = (if j = q then n else σ j) → i = j
        by_cases z : i = q
        · by_cases y : j = q
          · intro _; omega
          · rw [if_pos z, if_neg y]; have := h1 j (by omega); intro g; omega
        · by_cases y : j = q
          · rw [if_neg z, if_pos y]; have := h1 i (by omega); intro g; omega
          · rw [if_neg z, if_neg y]; exact h2 i j (by omega) (by omega)
    · rw [yn_f w, Nat.add_zero]
      exact ⟨σ, fun i hi => ⟨by have := (h1 i hi).1; omega, (h1 i hi).2⟩, h2⟩
theorem yn_card {R L : Nat} {b : Nat → Nat} (hi : ∀ i j, i < R → j < R → b i = b j → i = j) (hl : ∀ i, i < R → b i < L) : yn_s L (fun c => yn_i (∀ j, j < R → b j ≠ c)) + R = L := by
  have h1 : yn_s L (fun c => yn_s R (fun j => yn_i (c = b j))) = R := by
    rw [← yn_swap (fun j c => yn_i (c = b j)) L R, yn_s_ext (g := fun _ => 1) (fun j hj => yn_one (hl j hj)), yn_s_c, Nat.mul_one]
  have h2 : yn_s L (fun c => yn_i (∀ j, j < R → b j ≠ c) + yn_s R (fun j => yn_i (c = b j))) = L := by
    rw [yn_s_ext (g := fun _ => 1) (fun c hc => ?_), yn_s_c, Nat.mul_one]
    by_cases w : ∃ j, j < R ∧ b j = c
    · obtain ⟨j, hj, e⟩ := w
      rw [yn_f (fun z => z j hj e), Nat.zero_add]
      rw [yn_s_ext (g := fun i => yn_i (i = j)) (fun i hi2 => yn_c ⟨fun z => hi i j hi2 hj (by rw [e, z]), fun z => by rw [z, e]⟩)]
      exact yn_one hj
    · rw [yn_t (fun j hj z => w ⟨j, hj, z⟩), yn_s_0 (fun j hj => yn_f (fun z => w ⟨j, hj, z.symm⟩))]
  rw [yn_s_add, h1] at h2
  exact h2
section YV
variable {R L k sd fl : Nat} {a : Nat → Nat → Int}
/-- different vertices at which F is not basic, but k is -/
def yv_f (R L k sd fl : Nat) (a : Nat → Nat → Int) (F : Nat → Prop) (M : Nat) (V : Nat → Nat → Nat) : Prop := (∀ i, i < M → yh_lf R sd fl a (V i) ∧ (∀ j, j < R → V i j < L) ∧ (∃ j, j < R ∧ V i j = k) ∧ ∀ c, F c → ∀ j, j < R → V i j ≠ c) ∧ ∀ i j, i < M → j < M → i ≠ j → ¬ yh_eq R (V i) (V j)
def yv_b (R : Nat) (F : Nat → Prop) (b : Nat → Nat) (c : Nat) : Prop := (∀ j, j < R → b j ≠ c) ∧ ¬ F c
/-- all but c go the way w -/
def yv_B (R L : Nat) (F : Nat → Prop) (b : Nat → Nat) (w : Nat → Prop) (c : Nat) : Prop := yv_b R F b c ∧ ∀ d, d < L → d ≠ c → yv_b R F b d → w d
theorem yv_am1 {F : Nat → Prop} {M : Nat} {V : Nat → Nat → Nat} (h : yv_f R L k sd fl a F M V) (w : Nat → Nat → Prop) (hw : ∀ b c : Nat → Nat, yh_lf R sd fl a b → yh_lf R sd fl a c → ¬ yh_eq R b c → (∀ j, j < R → (∀ i, i < R → b i ≠ c j) → ∀ x y, b = V x → c = V y → w x (c j)) → True) (hbot : ∀ x y, x < M → y < M → x ≠ y → (∀ j, j < R → (∀ i, i < R → V x i ≠ V y j) → w x (V y j)) → (∀ j, j < R → (∀ i, i < R → V y i ≠ V x j) → w y (V x j)) → False) (c : Nat) : yn_s M (fun i => yn_i (yv_B R L F (V i) (w i) c)) ≤ 1 := by
  apply yn_am1
  intro i j hi hj pi pj
  apply Classical.byContradiction
  intro hne
  have key : ∀ x y, x < M → y < M → yv_B R L F (V x) (w x) c → yv_B R L F (V y) (w y) c → ∀ q, q < R → (∀ p, p < R → V x p ≠ V y q) → w x (V y q) := by
    intro x y hx hy px py q hq hn
    have hy1 := h.1 y hy
    refine px.2 (V y q) (hy1.2.1 q hq) (fun z => py.1.1 q hq z) ⟨hn, fun z => hy1.2.2.2 _ z q hq rfl⟩
  exact hbot i j hi hj hne (key i j hi hj pi pj) (key j i hj hi pj pi)
theorem yv_card {F : Nat → Prop} {nf : Nat} (hF : yn_s L (fun c => yn_i (F c)) = nf) {b : Nat → Nat} (hi : ∀ i j, i < R → j < R → b i = b j → i = j) (hl : ∀ i, i < R → b i < L) (hb : ∀ c, F c → ∀ j, j < R → b j ≠ c) : yn_s L (fun c => yn_i (yv_b R F b c)) + nf + R = L := by
  have h1 := yn_card hi hl
  have h2 : yn_s L (fun c => yn_i (yv_b R F b c)) + yn_s L (fun c => yn_i (F c)) = yn_s L (fun c => yn_i (∀ j, j < R → b j ≠ c)) := by
    rw [← yn_s_add]
    apply yn_s_ext
    intro c hc
    by_cases w : F c
    · rw [yn_f (fun z => z.2 w), yn_t w, yn_t (hb c w)]
    · rw [yn_f w, Nat.add_zero]
      exact yn_c ⟨fun z => z.1, fun z => ⟨z, w⟩⟩
  omega
theorem yv_lab {F : Nat → Prop} {nf : Nat} (hF : yn_s L (fun c => yn_i (F c)) = nf) (hk : k < L) (hFk : ¬ F k) : yn_s L (fun c => yn_i (¬ F c ∧ c ≠ k)) + nf + 1 = L := by
  have h : yn_s L (fun c => yn_i (¬ F c ∧ c ≠ k)) + (yn_s L (fun c => yn_i (F c)) + yn_s L (fun c => yn_i (c = k))) = L := by
    rw [← yn_s_add, ← yn_s_add, yn_s_ext (g := fun _ => 1) (fun c hc => ?_), yn_s_c, Nat.mul_one]
    by_cases w : c = k
    · rw [yn_f (fun z => z.2 w), yn_t w, yn_f (by rw [w]; exact hFk)]
    · rw [yn_f w]
      by_cases z : F c
      · rw [yn_f (fun q => q.1 z), yn_t z]
      · rw [yn_t ⟨z, w⟩, yn_f z]
  rw [yn_one hk, hF] at h
  omega
theorem yv_inj {b : Nat → Nat} (h : yh_lf R sd fl a b) : ∀ i j, i < R → j < R → b i = b j → i = j := fun _ _ hi hj e => yh_inj (a := a) (by have := h.1; omega) hi hj e
/-- each vertex of a face of three dimensions is a bottom or a top of one of two -/
theorem yv_three {F : Nat → Prop} {b : Nat → Nat} (hb : yh_lf R sd fl a b) (h3 : yn_s L (fun c => yn_i (yv_b R F b c)) = 3) : 1 ≤ yn_s L (fun c => yn_i (yv_B R L F b (yz_up R a L k b) c)) + yn_s L (fun c => yn_i (yv_B R L F b (yz_dn R a L k b) c)) := by
  obtain ⟨x, hx, px, h2⟩ := yn_pick h3
  obtain ⟨y, hy, py, h1⟩ := yn_pick h2
  obtain ⟨z, hz, pz, h0⟩ := yn_pick h1
  have ex : ∀ d, d < L → yv_b R F b d → d = x ∨ d = y ∨ d = z := by
    intro d hd pd
    apply Classical.byContradiction
    intro w
    have : yn_s L (fun c => yn_i (((yv_b R F b c ∧ c ≠ x) ∧ c ≠ y) ∧ c ≠ z)) ≠ 0 := by
      intro q
      have e : yn_s L (fun c => yn_i (c = d)) ≤ yn_s L (fun c => yn_i (((yv_b R F b c ∧ c ≠ x) ∧ c ≠ y) ∧ c ≠ z)) := yn_s_le (fun c hc => yn_m (fun g => by subst g; exact ⟨⟨⟨pd, by omega⟩, by omega⟩, by omega⟩))
      rw [yn_one hd, q] at e
      omega
    exact this h0
  have pos : ∀ (w : Nat → Prop) (c : Nat), c < L → yv_B R L F b w c → 1 ≤ yn_s L (fun c => yn_i (yv_B R L F b w c)) := by
    intro w c hc q
    have e : yn_s L (fun d => yn_i (d = c)) ≤ yn_s L (fun d => yn_i (yv_B R L F b w d)) := yn_s_le (fun d hd => yn_m (fun g => by rw [g]; exact q))
    rw [yn_one hc] at e
    exact e
  have two : ∀ (w : Nat → Prop), ((w x ∧ w y) ∨ (w x ∧ w z) ∨ (w y ∧ w z)) → 1 ≤ yn_s L (fun c => yn_i (yv_B R L F b w c)) := by
    intro w q
    rcases q with ⟨q1, q2⟩ | ⟨q1, q2⟩ | ⟨q1, q2⟩
    · refine pos w z hz ⟨pz.1.1, fun d hd hne pd => ?_⟩
      rcases ex d hd pd with g | g | g
      · rw [g]; exact q1
      · rw [g]; exact q2
      · exact absurd g hne
    · refine pos w y hy ⟨py.1, fun d hd hne pd => ?_⟩
      rcases ex d hd pd with g | g | g
      · rw [g]; exact q1
      · exact absurd g hne
      · rw [g]; exact q2
    · refine pos w x hx ⟨px, fun d hd hne pd => ?_⟩
      rcases ex d hd pd with g | g | g
      · exact absurd g hne
      · rw [g]; exact q1
      · rw [g]; exact q2
  have ux := yz_ud (k := k) (L := L) hb.1 hx px.1
  have uy := yz_ud (k := k) (L := L) hb.1 hy py.1.1
  have uz := yz_ud (k := k) (L := L) hb.1 hz pz.1.1.1
  rcases ux with ux | ux <;> rcases uy with uy | uy <;> rcases uz with uz | uz
  · exact Nat.le_trans (two _ (Or.inl ⟨ux, uy⟩)) (Nat.le_add_right _ _)
  · exact Nat.le_trans (two _ (Or.inl ⟨ux, uy⟩)) (Nat.le_add_right _ _)
  · exact Nat.le_trans (two _ (Or.inr (Or.inl ⟨ux, uz⟩))) (Nat.le_add_right _ _)
  · exact Nat.le_trans (two _ (Or.inr (Or.inr ⟨uy, uz⟩))) (Nat.le_add_left _ _)
  · exact Nat.le_trans (two _ (Or.inr (Or.inr ⟨uy, uz⟩))) (Nat.le_add_right _ _)
  · exact Nat.le_trans (two _ (Or.inr (Or.inl ⟨ux, uz⟩))) (Nat.le_add_left _ _)
  · exact Nat.le_trans (two _ (Or.inl ⟨ux, uy⟩)) (Nat.le_add_left _ _)
  · exact Nat.le_trans (two _ (Or.inl ⟨ux, uy⟩)) (Nat.le_add_left _ _)
/-- all bottoms, all tops -/
theorem yv_sum {F : Nat → Prop} {nf M : Nat} {V : Nat → Nat → Nat} (h : yv_f R L k sd fl a F M V) (hF : yn_s L (fun c => yn_i (F c)) = nf) (hk : k < L) (hFk : ¬ F k) : yn_s M (fun i => yn_s L (fun c => yn_i (yv_B R L F (V i) (yz_up R a L k (V i)) c)) + yn_s L (fun c => yn_i (yv_B R L F (V i) (yz_dn R a L k (V i)) c))) ≤ 2 * (L - nf - 1) := by
  have hl := yv_lab hF hk hFk
  have one : ∀ (w : Nat → Nat → Prop), (∀ x y, x < M → y < M → x ≠ y → (∀ j, j < R → (∀ i, i < R → V x i ≠ V y j) → w x (V y j)) → (∀ j, j < R → (∀ i, i < R → V y i ≠ V x j) → w y (V x j)) → False) → yn_s M (fun i => yn_s L (fun c => yn_i (yv_B R L F (V i) (w i) c))) ≤ L - nf - 1 := by
    intro w hbot
    rw [yn_swap (fun i c => yn_i (yv_B R L F (V i) (w i) c)) L M]
    have e : yn_s L (fun c => yn_s M (fun i => yn_i (yv_B R L F (V i) (w i) c))) ≤ yn_s L (fun c => yn_i (¬ F c ∧ c ≠ k)) := by
      apply yn_s_le
      intro c hc
      by_cases z : ¬ F c ∧ c ≠ k
      · rw [yn_t z]
        exact yv_am1 h w (fun _ _ _ _ _ _ => trivial) hbot c
      · rw [yn_f z, yn_s_0 (fun i hi => yn_f (fun q => ?_))]
        · exact Nat.le_refl 0
        · apply z
          refine ⟨q.1.2, fun g => ?_⟩
          obtain ⟨j, hj, e9⟩ := (h.1 i hi).2.2.1
          exact q.1.1 j hj (by rw [e9, g])
    omega
  have u := one (fun i => yz_up R a L k (V i)) (fun x y hx hy hne p q => yz_bot (h.1 x hx).1 (h.1 y hy).1 (h.2 x y hx hy hne) p q)
  have d := one (fun i => yz_dn R a L k (V i)) (fun x y hx hy hne p q => yz_top (h.1 x hx).1 (h.1 y hy).1 (h.2 x y hx hy hne) p q)
  rw [yn_s_add]
  omega
theorem yv_weak {F : Nat → Prop} {nf M : Nat} {V : Nat → Nat → Nat} (h : yv_f R L k sd fl a F M V) (hF : yn_s L (fun c => yn_i (F c)) = nf) (hk : k < L) (hFk : ¬ F k) (h3 : nf + R + 3 = L) : M ≤ 2 * (L - nf - 1) := by
  have s := yv_sum h hF hk hFk
  have e : yn_s M (fun _ => 1) ≤ yn_s M (fun i => yn_s L (fun c => yn_i (yv_B R L F (V i) (yz_up R a L k (V i)) c)) + yn_s L (fun c => yn_i (yv_B R L F (V i) (yz_dn R a L k (V i)) c))) := by
    apply yn_s_le
    intro i hi
    obtain ⟨h1, h2, _, h4⟩ := h.1 i hi
    exact yv_three h1 (by have := yv_card hF (yv_inj h1) h2 h4; omega)
  rw [yn_s_c, Nat.mul_one] at e
  omega
end YV
