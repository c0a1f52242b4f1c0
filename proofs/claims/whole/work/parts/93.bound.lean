/-! ===== how long a path is ===== -/
section YW
variable {R L k sd fl : Nat} {a : Nat → Nat → Int}
theorem yz_lt_eq {x b c : Nat → Nat} (hb : 0 < yh_d R a b) (hc : 0 < yh_d R a c) (hx : 0 < yh_d R a x) (he : yh_eq R b c) (h : yz_lt R a sd fl L k x c) : yz_lt R a sd fl L k x b := by
  have key : ∀ t, yh_d R a b * yz_v R a sd fl k c t = yh_d R a c * yz_v R a sd fl k b t := by
    intro t
    have e := yz_E (R := R) (sd := sd) (fl := fl) (a := a) (b := b) (c := c) (by omega) (yz_l k (t / (R + 1))) (t % (R + 1))
    rw [yd_s_zero (fun j hj => ?_)] at e
    · unfold yz_v; omega
    · obtain ⟨i, hi, e9⟩ := he.2 j hj
      rw [e9, yz_d_in (by omega) hi, Int.mul_zero]
  unfold yz_lt at *
  rw [yl_sub] at h ⊢
  have h2 := (yl_scale (x := yh_d R a b) hb).mpr h
  refine (yl_scale (x := yh_d R a c) hc).mp (yl_ext h2 (fun t _ => ?_))
  have := key t
  generalize yz_v R a sd fl k c t = p at *
  generalize yz_v R a sd fl k b t = q at *
  generalize yz_v R a sd fl k x t = r at *
  generalize yh_d R a b = u at *
  generalize yh_d R a c = v at *
  generalize yh_d R a x = w at *
  have e1 : u * (p * w - r * v) = (u * p) * w - u * r * v := by grind
  rw [e1, this]
  grind
theorem yz_max {V : Nat → Nat → Nat} : ∀ M : Nat, 1 ≤ M → (∀ i, i < M → 0 < yh_d R a (V i)) → ∃ i, i < M ∧ ∀ j, j < M → ¬ yz_lt R a sd fl L k (V i) (V j)
  | 0, h, _ => absurd h (by omega)
  | 1, _, _ => ⟨0, by omega, fun j hj z => by have : j = 0 := by omega
                                              subst this; exact yl_asym z z⟩
  | M + 2, _, hd => by
    obtain ⟨i, hi, h⟩ := yz_max (M + 1) (by omega) (fun i hi => hd i (by omega))
    by_cases w : yz_lt R a sd fl L k (V i) (V (M + 1))
    · refine ⟨M + 1, by omega, fun j hj z => ?_⟩
      by_cases e : j = M + 1
      · subst e; exact yl_asym z z
      · exact h j (by omega) (yz_tr (hd i (by omega)) (hd (M + 1) (by omega)) (hd j hj) w z)
    · refine ⟨i, by omega, fun j hj z => ?_⟩
      by_cases e : j = M + 1
      · subst e; exact w z
      · exact h j (by omega) z
/-- the highest vertex of a face goes down only -/
theorem yv_high {F : Nat → Prop} {M : Nat} {V : Nat → Nat → Nat} (ho : ∀ i, i < R → ∀ r, r < R → a (fl + i) r = yh_e i r) (hnn : ∀ c, c ≤ L → ∀ r, r < R → 0 ≤ a c r) (hpo : ∀ c, c < L → ∃ ρ, ρ < R ∧ 0 < a c ρ) (h : yv_f R L k sd fl a F M V)
    (hall : ∀ b : Nat → Nat, yh_lf R sd fl a b → (∀ j, j < R → b j < L) → (∃ j, j < R ∧ b j = k) → (∀ c, F c → ∀ j, j < R → b j ≠ c) → ∃ i, i < M ∧ yh_eq R b (V i))
    {x : Nat} (hx : x < M) (hm : ∀ j, j < M → ¬ yz_lt R a sd fl L k (V x) (V j)) {c : Nat} (hc : c < L) (hb : yv_b R F (V x) c) : yz_dn R a L k (V x) c := by
  obtain ⟨l1, l2, ⟨jk, hjk, ejk⟩, l4⟩ := h.1 x hx
  have d0 := l1.1
  rcases yz_ud (k := k) (L := L) d0 hc hb.1 with up | dn
  · exfalso
    obtain ⟨ρ, hρ, hp⟩ := hpo c hc
    obtain ⟨k9, k91, k92⟩ := yh_pos (mn := L) hnn (fun i hi => Nat.le_of_lt (l2 i hi)) d0 hρ hp
    obtain ⟨r, er⟩ := yo_r_some (T := yh_T R a (V x)) (e := c) (sd := sd) (fl := fl) (R := R) ⟨k9, k91, k92⟩
    obtain ⟨hr, hre⟩ := yo_r_lt er
    have lf2 := yh_lf_step ho l1 er
    have d2 := lf2.1
    have lt : yz_lt R a sd fl L k (V x) (yy_ud (V x) r c) := by
      refine yz_ups d0 lf2 (j0 := r) hr (by rw [yy_ud_s]; exact hb.1) (fun j hj hn => ?_)
      by_cases z : j = r
      · rw [z, yy_ud_s]; exact up
      · exact absurd (yy_ud_n z).symm (hn j hj)
    have hck : c ≠ k := fun z => hb.1 jk hjk (by rw [ejk, z])
    by_cases z : jk = r
    · -- k would leave: then the point would go down
      have nk : ∀ j, j < R → yy_ud (V x) r c j ≠ k := by
        intro j hj w
        by_cases y : j = r
        · rw [y, yy_ud_s] at w; exact hck w
        · rw [yy_ud_n y] at w
          exact y ((yv_inj l1 j jk hj hjk (by rw [w, ejk])).trans z)
      have zz : ∀ i, yz_Z R a sd fl (yy_ud (V x) r c) k i = 0 := fun i => yz_none nk _
      have zx : ∀ i, yz_Z R a sd fl (V x) k i = yh_T R a (V x) jk (yl_c sd fl i) := by
        intro i
        have := yz_one (R := R) (a := a) (b := V x) (by omega) hjk (fun j => yh_T R a (V x) j (yl_c sd fl i))
        rw [ejk] at this
        exact this
      obtain ⟨i1, b1, b2, b3⟩ := l1.2 jk hjk
      have sm : ∀ i, i < R + 1 → yz_v R a sd fl k (yy_ud (V x) r c) i = 0 ∧ yz_v R a sd fl k (V x) i = yh_T R a (V x) jk (yl_c sd fl i) := by
        intro i hi
        unfold yz_v
        rw [Nat.div_eq_of_lt hi, Nat.mod_eq_of_lt hi]
        exact ⟨zz i, zx i⟩
      refine yl_asym lt ⟨i1, ?_, fun j hj => ?_, ?_⟩
      · have : 1 * (R + 1) ≤ (L + 1) * (R + 1) := Nat.mul_le_mul_right _ (by omega)
        omega
      · show yz_v R a sd fl k (yy_ud (V x) r c) j * _ = yz_v R a sd fl k (V x) j * _
        rw [(sm j (by omega)).1, (sm j (by omega)).2, ← (show (0 : Int) = yh_T R a (V x) jk (yl_c sd fl j) from b2 j hj), Int.zero_mul, Int.zero_mul]
      · show yz_v R a sd fl k (yy_ud (V x) r c) i1 * _ < yz_v R a sd fl k (V x) i1 * _
        rw [(sm i1 b1).1, (sm i1 b1).2, Int.zero_mul]
        exact Int.mul_pos b3 d2
    · obtain ⟨i, hi, e⟩ := hall (yy_ud (V x) r c) lf2 (fun j hj => by
        by_cases y : j = r
        · rw [y, yy_ud_s]; exact hc
        · rw [yy_ud_n y]; exact l2 j hj) ⟨jk, hjk, by rw [yy_ud_n z]; exact ejk⟩ (fun d hd j hj => by
        by_cases y : j = r
        · rw [y, yy_ud_s]; exact fun w => hb.2 (by rw [w]; exact hd)
        · rw [yy_ud_n y]; exact l4 d hd j hj)
      exact hm i hi (yz_lt_eq (h.1 i hi).1.1 d2 d0 e.symm lt)
  · exact dn
theorem yv_strong {F : Nat → Prop} {nf : Nat} (ho : ∀ i, i < R → ∀ r, r < R → a (fl + i) r = yh_e i r) (hnn : ∀ c, c ≤ L → ∀ r, r < R → 0 ≤ a c r) (hpo : ∀ c, c < L → ∃ ρ, ρ < R ∧ 0 < a c ρ) (hF : yn_s L (fun c => yn_i (F c)) = nf) (hk : k < L) (hFk : ¬ F k) (h3 : nf + R + 3 = L) : ∀ (e M : Nat) (V : Nat → Nat → Nat), M + e = 2 * (L - nf - 1) → 1 ≤ M → yv_f R L k sd fl a F M V → M + 2 ≤ 2 * (L - nf - 1) := by
  intro e
  induction e with
  | zero =>
    intro M V he hM h
    by_cases hall : ∀ b : Nat → Nat, yh_lf R sd fl a b → (∀ j, j < R → b j < L) → (∃ j, j < R ∧ b j = k) → (∀ c, F c → ∀ j, j < R → b j ≠ c) → ∃ i, i < M ∧ yh_eq R b (V i)
    · obtain ⟨x, hx, hm⟩ := yz_max (sd := sd) (fl := fl) (L := L) (k := k) (V := V) M hM (fun i hi => (h.1 i hi).1.1)
      have s := yv_sum h hF hk hFk
      have dn := fun c hc hb => yv_high ho hnn hpo h hall hx hm (c := c) hc hb
      obtain ⟨l1, l2, _, l4⟩ := h.1 x hx
      have c3 : yn_s L (fun c => yn_i (yv_b R F (V x) c)) = 3 := by have := yv_card hF (yv_inj l1) l2 l4; omega
      have b3 : yn_s L (fun c => yn_i (yv_B R L F (V x) (yz_dn R a L k (V x)) c)) = 3 := by
        rw [← c3]
        exact yn_s_ext (fun c hc => yn_c ⟨fun z => z.1, fun z => ⟨z, fun d hd _ pd => dn d hd pd⟩⟩)
      have g : yn_s M (fun i => 1 + (yn_i (i = x) + yn_i (i = x))) ≤ yn_s M (fun i => yn_s L (fun c => yn_i (yv_B R L F (V i) (yz_up R a L k (V i)) c)) + yn_s L (fun c => yn_i (yv_B R L F (V i) (yz_dn R a L k (V i)) c))) := by
        apply yn_s_le
        intro i hi
        by_cases z : i = x
        · rw [yn_t z, z, b3]; omega
        · rw [yn_f z]
          obtain ⟨h1, h2, _, h4⟩ := h.1 i hi
          exact yv_three h1 (by have := yv_card hF (yv_inj h1) h2 h4; omega)
      rw [yn_s_add, yn_s_c, yn_s_add, yn_one hx] at g
      omega
    · exfalso
      apply hall
      intro b b1 b2 b3 b4
      apply Classical.byContradiction
      intro z
      have f2 : yv_f R L k sd fl a F (M + 1) (fun i => if i = M then b else V i) := by
        refine ⟨fun i hi => ?_, fun i j hi hj hij => ?_⟩
        · show yh_lf R sd fl a (if i = M then b else V i) ∧ (∀ j, j < R → (if i = M then b else V i) j < L) ∧ (∃ j, j < R ∧ (if i = M then b else V i) j = k) ∧ ∀ c, F c → ∀ j, j < R → (if i = M then b else V i) j ≠ c
          by_cases y : i = M
          · rw [if_pos y]; exact ⟨b1, b2, b3, b4⟩
          · rw [if_neg y]; exact h.1 i (by omega)
        · show ¬ yh_eq R (if i = M then b else V i) (if j = M then b else V j)
          by_cases y : i = M
          · rw [if_pos y, if_neg (by omega)]; exact fun w => z ⟨j, by omega, w⟩
          · rw [if_neg y]
            by_cases x : j = M
            · rw [if_pos x]; exact fun w => z ⟨i, by omega, yh_eq.symm w⟩
            · rw [if_neg x]; exact h.2 i j (by omega) (by omega) hij
      have := yv_weak f2 hF hk hFk h3
      omega
  | succ e ih =>
    intro M V he hM h
    by_cases hall : ∀ b : Nat → Nat, yh_lf R sd fl a b → (∀ j, j < R → b j < L) → (∃ j, j < R ∧ b j = k) → (∀ c, F c → ∀ j, j < R → b j ≠ c) → ∃ i, i < M ∧ yh_eq R b (V i)
    · obtain ⟨x, hx, hm⟩ := yz_max (sd := sd) (fl := fl) (L := L) (k := k) (V := V) M hM (fun i hi => (h.1 i hi).1.1)
      have s := yv_sum h hF hk hFk
      have dn := fun c hc hb => yv_high ho hnn hpo h hall hx hm (c := c) hc hb
      obtain ⟨l1, l2, _, l4⟩ := h.1 x hx
      have c3 : yn_s L (fun c => yn_i (yv_b R F (V x) c)) = 3 := by have := yv_card hF (yv_inj l1) l2 l4; omega
      have b3 : yn_s L (fun c => yn_i (yv_B R L F (V x) (yz_dn R a L k (V x)) c)) = 3 := by
        rw [← c3]
        exact yn_s_ext (fun c hc => yn_c ⟨fun z => z.1, fun z => ⟨z, fun d hd _ pd => dn d hd pd⟩⟩)
      have g : yn_s M (fun i => 1 + (yn_i (i = x) + yn_i (i = x))) ≤ yn_s M (fun i => yn_s L (fun c => yn_i (yv_B R L F (V i) (yz_up R a L k (V i)) c)) + yn_s L (fun c => yn_i (yv_B R L F (V i) (yz_dn R a L k (V i)) c))) := by
        apply yn_s_le
        intro i hi
        by_cases z : i = x
        · rw [yn_t z, z, b3]; omega
        · rw [yn_f z]
          obtain ⟨h1, h2, _, h4⟩ := h.1 i hi
          exact yv_three h1 (by have := yv_card hF (yv_inj h1) h2 h4; omega)
      rw [yn_s_add, yn_s_c, yn_s_add, yn_one hx] at g
      omega
    · apply Classical.byContradiction
      intro hno
      apply hall
      intro b b1 b2 b3 b4
      apply Classical.byContradiction
      intro z
      have f2 : yv_f R L k sd fl a F (M + 1) (fun i => if i = M then b else V i) := by
        refine ⟨fun i hi => ?_, fun i j hi hj hij => ?_⟩
        · show yh_lf R sd fl a (if i = M then b else V i) ∧ (∀ j, j < R → (if i = M then b else V i) j < L) ∧ (∃ j, j < R ∧ (if i = M then b else V i) j = k) ∧ ∀ c, F c → ∀ j, j < R → (if i = M then b else V i) j ≠ c
          by_cases y : i = M
          · rw [if_pos y]; exact ⟨b1, b2, b3, b4⟩
          · rw [if_neg y]; exact h.1 i (by omega)
        · show ¬ yh_eq R (if i = M then b else V i) (if j = M then b else V j)
          by_cases y : i = M
          · rw [if_pos y, if_neg (by omega)]; exact fun w => z ⟨j, by omega, w⟩
          · rw [if_neg y]
            by_cases x : j = M
            · rw [if_pos x]; exact fun w => z ⟨i, by omega, yh_eq.symm w⟩
            · rw [if_neg x]; exact h.2 i j (by omega) (by omega) hij
      have := ih (M + 1) _ (by omega) (by omega) f2
      omega
/-- one label more that many have -/
theorem yv_ph {F : Nat → Prop} {nf M s q : Nat} {V : Nat → Nat → Nat} (h : yv_f R L k sd fl a F M V) (hF : yn_s L (fun c => yn_i (F c)) = nf) (hk : k < L) (hFk : ¬ F k) (hs : nf + R + s = L) (hq : q * (L - nf - 1) < M * s) : ∃ (F2 : Nat → Prop) (M2 : Nat) (V2 : Nat → Nat → Nat), q < M2 ∧ yv_f R L k sd fl a F2 M2 V2 ∧ yn_s L (fun c => yn_i (F2 c)) = nf + 1 ∧ ¬ F2 k := by
  have hl := yv_lab hF hk hFk
  have tot : yn_s L (fun c => yn_s M (fun i => yn_i (yv_b R F (V i) c))) = M * s := by
    rw [← yn_swap (fun i c => yn_i (yv_b R F (V i) c)) L M, yn_s_ext (g := fun _ => s) (fun i hi => ?_), yn_s_c]
    obtain ⟨h1, h2, _, h4⟩ := h.1 i hi
    have := yv_card hF (yv_inj h1) h2 h4
    omega
  obtain ⟨c, hc, hcF, hck, hcq⟩ : ∃ c, c < L ∧ ¬ F c ∧ c ≠ k ∧ q < yn_s M (fun i => yn_i (yv_b R F (V i) c)) := by
    apply Classical.byContradiction
    intro z
    have e : yn_s L (fun c => yn_s M (fun i => yn_i (yv_b R F (V i) c))) ≤ yn_s L (fun c => q * yn_i (¬ F c ∧ c ≠ k)) := by
      apply yn_s_le
      intro c hc
      by_cases w : ¬ F c ∧ c ≠ k
      · rw [yn_t w, Nat.mul_one]
        exact Nat.le_of_not_lt (fun y => z ⟨c, hc, w.1, w.2, y⟩)
      · rw [yn_f w, Nat.mul_zero, yn_s_0 (fun i hi => yn_f (fun y => w ⟨y.2, fun x => ?_⟩))]
        · exact Nat.le_refl 0
        · obtain ⟨j, hj, e9⟩ := (h.1 i hi).2.2.1
          exact y.1 j hj (by rw [e9, x])
    have mul : ∀ n : Nat, yn_s n (fun c => q * yn_i (¬ F c ∧ c ≠ k)) = q * yn_s n (fun c => yn_i (¬ F c ∧ c ≠ k)) := by
      intro n
      induction n with
      | zero => show 0 = q * 0; rw [Nat.mul_zero]
      | succ n ih =>
        show yn_s n _ + _ = q * (yn_s n _ + _)
        rw [ih, Nat.mul_add]
    rw [mul, tot] at e
    have : yn_s L (fun c => yn_i (¬ F c ∧ c ≠ k)) = L - nf - 1 := by omega
    rw [this] at e
    omega
  obtain ⟨σ, s1, s2⟩ := yn_sub (p := fun i => yv_b R F (V i) c) M
  refine ⟨fun d => F d ∨ d = c, _, fun i => V (σ i), hcq, ⟨fun i hi => ?_, fun i j hi hj hij => ?_⟩, ?_, fun z => z.elim hFk (fun w => hck w.symm)⟩
  · obtain ⟨t1, t2⟩ := s1 i hi
    obtain ⟨h1, h2, h3, h4⟩ := h.1 (σ i) t1
    exact ⟨h1, h2, h3, fun d hd j hj => hd.elim (fun w => h4 d w j hj) (fun w => by rw [w]; exact t2.1 j hj)⟩
  · exact h.2 _ _ (s1 i hi).1 (s1 j hj).1 (fun w => hij (s2 i j hi hj w))
  · have e : yn_s L (fun d => yn_i (F d ∨ d = c)) = yn_s L (fun d => yn_i (F d) + yn_i (d = c)) := by
      apply yn_s_ext
      intro d hd
      by_cases w : d = c
      · rw [yn_t (Or.inr w), yn_t w, yn_f (by rw [w]; exact hcF)]
      · rw [yn_f w, Nat.add_zero]
        exact yn_c ⟨fun z => z.resolve_right w, fun z => Or.inl z⟩
    rw [e, yn_s_add, hF, yn_one hc]
theorem yv_point {F : Nat → Prop} {nf M : Nat} {V : Nat → Nat → Nat} (h : yv_f R L k sd fl a F M V) (hF : yn_s L (fun c => yn_i (F c)) = nf) (hs : nf + R = L) : M ≤ 1 := by
  apply Nat.le_of_not_lt
  intro hM
  have nb : ∀ i, i < M → ∀ c, c < L → (∀ j, j < R → V i j ≠ c) → F c := by
    intro i hi c hc hn
    apply Classical.byContradiction
    intro w
    obtain ⟨h1, h2, _, h4⟩ := h.1 i hi
    have e := yv_card hF (yv_inj h1) h2 h4
    have g : yn_s L (fun d => yn_i (d = c)) ≤ yn_s L (fun d => yn_i (yv_b R F (V i) d)) := yn_s_le (fun d _ => yn_m (fun z => by rw [z]; exact ⟨hn, w⟩))
    rw [yn_one hc] at g
    omega
  have sub : ∀ x y, x < M → y < M → ∀ i, i < R → ∃ j, j < R ∧ V x i = V y j := by
    intro x y hx hy i hi
    apply Classical.byContradiction
    intro w
    obtain ⟨_, h2, _, h4⟩ := h.1 x hx
    exact h4 _ (nb y hy (V x i) (h2 i hi) (fun j hj z => w ⟨j, hj, z.symm⟩)) i hi rfl
  exact h.2 0 1 (by omega) hM (by decide) ⟨sub 0 1 (by omega) hM, sub 1 0 hM (by omega)⟩
/-- at most 113 vertices -/
theorem yv_count {d M : Nat} {V : Nat → Nat → Nat} (ho : ∀ i, i < R → ∀ r, r < R → a (fl + i) r = yh_e i r) (hnn : ∀ c, c ≤ L → ∀ r, r < R → 0 ≤ a c r) (hpo : ∀ c, c < L → ∃ ρ, ρ < R ∧ 0 < a c ρ) (hd1 : 1 ≤ d) (hd6 : d ≤ 6) (hR6 : R ≤ 6) (hL : L = d + R) (hk : k < L) (h : yv_f R L k sd fl a (fun _ => False) M V) : M ≤ 113 := by
  apply Nat.le_of_not_lt
  intro hM
  have h0 : yn_s L (fun c => yn_i False) = 0 := yn_s_0 (fun _ _ => yn_f id)
  have fin : ∀ (F : Nat → Prop) (nf M : Nat) (V : Nat → Nat → Nat), yv_f R L k sd fl a F M V → yn_s L (fun c => yn_i (F c)) = nf → ¬ F k → nf + R + 3 = L → 15 ≤ M → False := by
    intro F nf M V f g gk e hm
    have w := yv_weak f g hk gk e
    have s := yv_strong ho hnn hpo g hk gk e (2 * (L - nf - 1) - M) M V (by omega) (by omega) f
    omega
  have cs : d = 1 ∨ d = 2 ∨ d = 3 ∨ d = 4 ∨ d = 5 ∨ d = 6 := by omega
  rcases cs with e | e | e | e | e | e <;> subst e
  · obtain ⟨F1, M1, V1, q1, f1, g1, k1⟩ := yv_ph (s := 1) (q := 18) h h0 hk id (by omega) (by omega)
    have := yv_point f1 g1 (by omega)
    omega
  · obtain ⟨F1, M1, V1, q1, f1, g1, k1⟩ := yv_ph (s := 2) (q := 32) h h0 hk id (by omega) (by omega)
    obtain ⟨F2, M2, V2, q2, f2, g2, k2⟩ := yv_ph (s := 1) (q := 5) f1 g1 hk k1 (by omega) (by omega)
    have := yv_point f2 g2 (by omega)
    omega
  · exact fin _ 0 M V h h0 id (by omega) (by omega)
  · obtain ⟨F1, M1, V1, q1, f1, g1, k1⟩ := yv_ph (s := 4) (q := 50) h h0 hk id (by omega) (by omega)
    exact fin F1 1 M1 V1 f1 g1 k1 (by omega) (by omega)
  · obtain ⟨F1, M1, V1, q1, f1, g1, k1⟩ := yv_ph (s := 5) (q := 56) h h0 hk id (by omega) (by omega)
    obtain ⟨F2, M2, V2, q2, f2, g2, k2⟩ := yv_ph (s := 4) (q := 25) f1 g1 hk k1 (by omega) (by omega)
    exact fin F2 2 M2 V2 f2 g2 k2 (by omega) (by omega)
  · obtain ⟨F1, M1, V1, q1, f1, g1, k1⟩ := yv_ph (s := 6) (q := 62) h h0 hk id (by omega) (by omega)
    obtain ⟨F2, M2, V2, q2, f2, g2, k2⟩ := yv_ph (s := 5) (q := 31) f1 g1 hk k1 (by omega) (by omega)
    obtain ⟨F3, M3, V3, q3, f3, g3, k3⟩ := yv_ph (s := 4) (q := 14) f2 g2 hk k2 (by omega) (by omega)
    exact fin F3 3 M3 V3 f3 g3 k3 (by omega) (by omega)
end YW
/-- a path has at most 227 steps -/
theorem yq_bound {m n k : Nat} {a : Nat → Nat → Nat → Int} {s : yq_S} (hm1 : 1 ≤ m) (hm6 : m ≤ 6) (hn1 : 1 ≤ n) (hn6 : n ≤ 6) (g : yq_g m n a) (h0 : yq_ok m n a s) (hc : yq_c m n k s) (hs : s.2.2 = k) (hkm : k < m + n) : ∃ i, i < 227 ∧ (yq_p m n a s (i + 1)).2.2 = k := by
  apply Classical.byContradiction
  intro hno
  have hk : ∀ i, i < 227 → (yq_p m n a s (i + 1)).2.2 ≠ k := fun i hi z => hno ⟨i, hi, z⟩
  have A := yq_all g h0 hc hk
  have par : ∀ i, i ≤ 227 → (yq_p m n a s i).2.1 = if i % 2 = 0 then s.2.1 else 1 - s.2.1 := by
    intro i
    induction i with
    | zero => intro _; rfl
    | succ i ih =>
      intro hi
      have e : (yq_p m n a s (i + 1)).2.1 = 1 - (yq_p m n a s i).2.1 := rfl
      rw [e, ih (by omega)]
      have t := h0.1
      rcases (by omega : i % 2 = 0 ∨ i % 2 = 1) with w | w
      · rw [if_pos w, if_neg (by omega)]
      · rw [if_neg (by omega), if_pos (by omega)]; omega
  obtain ⟨i0, hi0, hpar⟩ : ∃ i0, i0 ≤ 1 ∧ ∀ u, u < 114 → (yq_p m n a s (i0 + 2 * u)).2.1 = 1 := by
    have t := h0.1
    by_cases w : s.2.1 = 1
    · exact ⟨0, by omega, fun u hu => by rw [par _ (by omega), if_pos (by omega)]; exact w⟩
    · exact ⟨1, by omega, fun u hu => by rw [par _ (by omega), if_neg (by omega)]; omega⟩
  have rn : yy_rw m n 0 = n := rfl
  have fm : yv_f n (m + n) k (m + n) m (a 0) (fun _ => False) 114 (fun u => (yq_p m n a s (i0 + 2 * u)).1 0) := by
    refine ⟨fun u hu => ?_, fun u v hu hv huv => ?_⟩
    · obtain ⟨o, c⟩ := A (i0 + 2 * u) (by omega)
      obtain ⟨l1, l2⟩ := o.2.1 0 (by omega)
      exact ⟨l1, l2, (yq_uf o c (hpar u hu) hkm).1, fun _ z => absurd z id⟩
    · intro z
      rcases Nat.lt_or_gt_of_ne huv with w | w
      · exact yq_dist g h0 hc hs hkm hk (i := i0 + 2 * u) (j := i0 + 2 * v) (by omega) (by omega) (hpar u hu) (hpar v hv) z
      · exact yq_dist g h0 hc hs hkm hk (i := i0 + 2 * v) (j := i0 + 2 * u) (by omega) (by omega) (hpar v hv) (hpar u hu) (yh_eq.symm z)
  have := yv_count (d := m) (g.1 0 (by omega)) (g.2.1 0 (by omega)) (g.2.2 0 (by omega)) hm1 hm6 hn6 rfl hkm fm
  omega
