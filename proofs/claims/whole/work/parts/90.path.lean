/-! ===== the path ===== -/
def yq_fl (m tt : Nat) : Nat := if tt = 0 then m else 0
abbrev yq_S : Type := (Nat → Nat → Nat) × Nat × Nat
/-- a game's columns -/
def yq_g (m n : Nat) (a : Nat → Nat → Nat → Int) : Prop := (∀ t, t < 2 → ∀ i, i < yy_rw m n t → ∀ r, r < yy_rw m n t → a t (yq_fl m t + i) r = yh_e i r) ∧ (∀ t, t < 2 → ∀ c, c ≤ m + n → ∀ r, r < yy_rw m n t → 0 ≤ a t c r) ∧ (∀ t, t < 2 → ∀ c, c < m + n → ∃ ρ, ρ < yy_rw m n t ∧ 0 < a t c ρ)
def yq_o (m n : Nat) (a : Nat → Nat → Nat → Int) (s : yq_S) : Option Nat := yo_r (yh_T (yy_rw m n s.2.1) (a s.2.1) (s.1 s.2.1)) s.2.2 (m + n) (yq_fl m s.2.1) (yy_rw m n s.2.1) (yy_rw m n s.2.1)
def yq_put (s : yq_S) (r : Nat) : yq_S := (fun t => if t = s.2.1 then yy_ud (s.1 t) r s.2.2 else s.1 t, 1 - s.2.1, s.1 s.2.1 r)
def yq_st (m n : Nat) (a : Nat → Nat → Nat → Int) (s : yq_S) : yq_S := yq_put s ((yq_o m n a s).getD 0)
def yq_lf (m n : Nat) (a : Nat → Nat → Nat → Int) (t : Nat) (bs : Nat → Nat) : Prop := yh_lf (yy_rw m n t) (m + n) (yq_fl m t) (a t) bs ∧ ∀ i, i < yy_rw m n t → bs i < m + n
def yq_ok (m n : Nat) (a : Nat → Nat → Nat → Int) (s : yq_S) : Prop := s.2.1 < 2 ∧ (∀ t, t < 2 → yq_lf m n a t (s.1 t)) ∧ s.2.2 < m + n ∧ ∀ i, i < yy_rw m n s.2.1 → s.1 s.2.1 i ≠ s.2.2
def yq_in (m n : Nat) (bb : Nat → Nat → Nat) (t c : Nat) : Prop := ∃ i, i < yy_rw m n t ∧ bb t i = c
/-- all labels but one are there once -/
def yq_c (m n k : Nat) (s : yq_S) : Prop := (∀ t, t < 2 → ∀ c, c < m + n → c ≠ k → c ≠ s.2.2 → (yq_in m n s.1 t c ↔ ¬ yq_in m n s.1 (1 - t) c)) ∧ (s.2.2 ≠ k → ∀ t, t < 2 → yq_in m n s.1 t k ∧ ¬ yq_in m n s.1 t s.2.2) ∧ (s.2.2 = k → yq_in m n s.1 (1 - s.2.1) k)
theorem yq_row {m n : Nat} {a : Nat → Nat → Nat → Int} (g : yq_g m n a) {s : yq_S} (h : yq_ok m n a s) : ∃ r, yq_o m n a s = some r ∧ r < yy_rw m n s.2.1 ∧ yq_st m n a s = yq_put s r := by
  obtain ⟨h1, h2, h3, h4⟩ := h
  obtain ⟨l1, l2⟩ := h2 _ h1
  obtain ⟨ρ, p1, p2⟩ := g.2.2 _ h1 _ h3
  obtain ⟨k, k1, k2⟩ := yh_pos (mn := m + n) (g.2.1 _ h1) (fun i hi => Nat.le_of_lt (l2 i hi)) l1.1 p1 p2
  obtain ⟨r, e⟩ := yo_r_some (T := yh_T (yy_rw m n s.2.1) (a s.2.1) (s.1 s.2.1)) (e := s.2.2) (sd := m + n) (fl := yq_fl m s.2.1) (R := yy_rw m n s.2.1) ⟨k, k1, k2⟩
  refine ⟨r, e, (yo_r_lt e).1, ?_⟩
  unfold yq_st
  have : yq_o m n a s = some r := e
  rw [this]
  rfl
theorem yq_put_in {m n : Nat} {s : yq_S} {r t c : Nat} (hr : r < yy_rw m n s.2.1) (hi : ∀ i j, i < yy_rw m n s.2.1 → j < yy_rw m n s.2.1 → s.1 s.2.1 i = s.1 s.2.1 j → i = j) : yq_in m n (yq_put s r).1 t c ↔ if t = s.2.1 then (c = s.2.2 ∨ (yq_in m n s.1 t c ∧ c ≠ s.1 s.2.1 r)) else yq_in m n s.1 t c := by
  unfold yq_put yq_in
  by_cases e : t = s.2.1
  · subst e
    rw [if_pos rfl]
    show (∃ i, i < yy_rw m n s.2.1 ∧ (if s.2.1 = s.2.1 then yy_ud (s.1 s.2.1) r s.2.2 else s.1 s.2.1) i = c) ↔ _
    rw [if_pos rfl]
    constructor
    · rintro ⟨i, a1, a2⟩
      by_cases z : i = r
      · left; rw [← a2, z, yy_ud_s]
      · right
        rw [yy_ud_n z] at a2
        refine ⟨⟨i, a1, a2⟩, fun w => z (hi i r a1 hr (by rw [a2, w]))⟩
    · rintro (a1 | ⟨⟨i, a1, a2⟩, a3⟩)
      · exact ⟨r, hr, by rw [yy_ud_s, a1]⟩
      · have z : i ≠ r := fun w => a3 (by rw [← a2, w])
        exact ⟨i, a1, by rw [yy_ud_n z]; exact a2⟩
  · rw [if_neg e]
    show (∃ i, i < yy_rw m n t ∧ (if t = s.2.1 then yy_ud (s.1 t) r s.2.2 else s.1 t) i = c) ↔ _
    rw [if_neg e]
theorem yq_inj {m n : Nat} {a : Nat → Nat → Nat → Int} {t : Nat} {bs : Nat → Nat} (h : yq_lf m n a t bs) : ∀ i j, i < yy_rw m n t → j < yy_rw m n t → bs i = bs j → i = j := fun _ _ hi hj e => yh_inj (a := a t) (by have := h.1.1; omega) hi hj e
/-- a step that does not end the path -/
theorem yq_next {m n k : Nat} {a : Nat → Nat → Nat → Int} (g : yq_g m n a) {s : yq_S} (h : yq_ok m n a s) (hc : yq_c m n k s) (hk : (yq_st m n a s).2.2 ≠ k) : yq_ok m n a (yq_st m n a s) ∧ yq_c m n k (yq_st m n a s) := by
  obtain ⟨r, e, hr, es⟩ := yq_row g h
  rw [es] at hk ⊢
  obtain ⟨h1, h2, h3, h4⟩ := h
  obtain ⟨c1, c2, c3⟩ := hc
  have lft := h2 _ h1
  have inj := yq_inj lft
  have pin : ∀ t c, yq_in m n (yq_put s r).1 t c ↔ if t = s.2.1 then (c = s.2.2 ∨ (yq_in m n s.1 t c ∧ c ≠ s.1 s.2.1 r)) else yq_in m n s.1 t c := fun t c => yq_put_in hr inj
  have hk : s.1 s.2.1 r ≠ k := hk
  have el : (yq_put s r).2.2 = s.1 s.2.1 r := rfl
  have et : (yq_put s r).2.1 = 1 - s.2.1 := rfl
  have hle : s.1 s.2.1 r ≠ s.2.2 := h4 r hr
  have hin : yq_in m n s.1 s.2.1 (s.1 s.2.1 r) := ⟨r, hr, rfl⟩
  have hll : s.1 s.2.1 r < m + n := lft.2 r hr
  have hno : ¬ yq_in m n s.1 s.2.1 s.2.2 := fun ⟨i, a1, a2⟩ => h4 i a1 a2
  have hoth : ¬ yq_in m n s.1 (1 - s.2.1) (s.1 s.2.1 r) := (c1 _ h1 _ hll hk hle).mp hin
  have ne1 : 1 - s.2.1 ≠ s.2.1 := by omega
  have B : ∀ t, t < 2 → yq_in m n (yq_put s r).1 t k ∧ ¬ yq_in m n (yq_put s r).1 t (s.1 s.2.1 r) := by
    intro t ht
    rw [pin, pin]
    by_cases z : t = s.2.1
    · rw [if_pos z, if_pos z]
      refine ⟨?_, ?_⟩
      · by_cases w : s.2.2 = k
        · exact Or.inl w.symm
        · exact Or.inr ⟨(c2 w t ht).1, fun q => hk q.symm⟩
      · rintro (q | ⟨_, q⟩)
        · exact hle q
        · exact q rfl
    · have tz : t = 1 - s.2.1 := by omega
      rw [if_neg z, if_neg z, tz]
      refine ⟨?_, hoth⟩
      by_cases w : s.2.2 = k
      · exact c3 w
      · exact (c2 w _ (by omega)).1
  constructor
  · refine ⟨by rw [et]; omega, fun t ht => ?_, by rw [el]; exact hll, fun i hi => ?_⟩
    · by_cases z : t = s.2.1
      · subst z
        have e1 : (yq_put s r).1 s.2.1 = yy_ud (s.1 s.2.1) r s.2.2 := if_pos rfl
        rw [e1]
        refine ⟨yh_lf_step (g.1 _ h1) lft.1 e, fun i hi => ?_⟩
        by_cases w : i = r
        · rw [w, yy_ud_s]; exact h3
        · rw [yy_ud_n w]; exact lft.2 i hi
      · have e1 : (yq_put s r).1 t = s.1 t := if_neg z
        rw [e1]; exact h2 t ht
    · rw [et] at hi ⊢
      rw [el]
      exact fun w => (B (1 - s.2.1) (by omega)).2 ⟨i, hi, w⟩
  · refine ⟨fun t ht c hcm hck hce => ?_, fun _ t ht => by rw [el]; exact B t ht, fun w => absurd w hk⟩
    rw [el] at hce
    rw [pin, pin]
    by_cases z : t = s.2.1
    · subst z
      rw [if_pos rfl, if_neg ne1]
      by_cases w : c = s.2.2
      · subst w
        exact ⟨fun _ => (c2 hck _ (by omega)).2, fun _ => Or.inl rfl⟩
      · rw [← c1 _ h1 c hcm hck w]
        exact ⟨fun q => (q.resolve_left w).1, fun q => Or.inr ⟨q, hce⟩⟩
    · have tz : t = 1 - s.2.1 := by omega
      have t1 : 1 - t = s.2.1 := by omega
      rw [if_neg z, if_pos t1]
      by_cases w : c = s.2.2
      · subst w
        exact ⟨fun q => absurd q (c2 hck t ht).2, fun q => absurd (Or.inl rfl) q⟩
      · rw [c1 t ht c hcm hck w]
        constructor
        · intro q q2
          exact q (q2.resolve_left w).1
        · intro q q2
          exact q (Or.inr ⟨q2, hce⟩)
/-- the same labels in both tables -/
def yq_e (m n : Nat) (s u : yq_S) : Prop := (∀ t, t < 2 → yh_eq (yy_rw m n t) (s.1 t) (u.1 t)) ∧ s.2.1 = u.2.1 ∧ s.2.2 = u.2.2
def yq_v (s : yq_S) : yq_S := (s.1, 1 - s.2.1, s.2.2)
theorem yq_p1 {m n : Nat} {a : Nat → Nat → Nat → Int} (g : yq_g m n a) {s u : yq_S} (hs : yq_ok m n a s) (hu : yq_ok m n a u) (h : yq_e m n s u) : yq_e m n (yq_st m n a s) (yq_st m n a u) := by
  obtain ⟨r, e, hr, es⟩ := yq_row g hs
  obtain ⟨r2, e2, hr2, eu⟩ := yq_row g hu
  rw [es, eu]
  obtain ⟨h1, h2, h3⟩ := h
  unfold yq_o at e e2
  rw [← h2, ← h3] at e2
  have ls := hs.2.1 _ hs.1
  have lu := hu.2.1 _ hu.1
  rw [← h2] at lu
  obtain ⟨d1, d2⟩ := yh_det (g.1 _ hs.1) ls.1 lu.1 (h1 _ hs.1) hs.2.2.2 e e2
  refine ⟨fun t ht => ?_, ?_, ?_⟩
  · show yh_eq _ (if t = s.2.1 then yy_ud (s.1 t) r s.2.2 else s.1 t) (if t = u.2.1 then yy_ud (u.1 t) r2 u.2.2 else u.1 t)
    rw [← h2]
    by_cases z : t = s.2.1
    · rw [if_pos z, if_pos z, z, ← h3]; exact d2
    · rw [if_neg z, if_neg z]; exact h1 t ht
  · show 1 - s.2.1 = 1 - u.2.1
    rw [h2]
  · show s.1 s.2.1 r = u.1 u.2.1 r2
    rw [← h2]; exact d1
theorem yq_p2 {m n : Nat} {a : Nat → Nat → Nat → Int} (g : yq_g m n a) {s : yq_S} (hs : yq_ok m n a s) : yq_st m n a (yq_v (yq_st m n a s)) = yq_v s := by
  obtain ⟨r, e, hr, es⟩ := yq_row g hs
  have t2 := hs.1
  have e1 : yq_v (yq_put s r) = ((yq_put s r).1, s.2.1, s.1 s.2.1 r) := by
    unfold yq_v yq_put
    show (_, 1 - (1 - s.2.1), _) = _
    rw [show 1 - (1 - s.2.1) = s.2.1 by omega]
  have e2 : (yq_put s r).1 s.2.1 = yy_ud (s.1 s.2.1) r s.2.2 := if_pos rfl
  have rv := yh_rev (g.1 _ t2) (hs.2.1 _ t2).1 hs.2.2.2 e
  rw [es, e1]
  have eo : yq_o m n a ((yq_put s r).1, s.2.1, s.1 s.2.1 r) = some r := by
    unfold yq_o
    show yo_r (yh_T (yy_rw m n s.2.1) (a s.2.1) ((yq_put s r).1 s.2.1)) (s.1 s.2.1 r) _ _ _ _ = _
    rw [e2]; exact rv
  unfold yq_st
  rw [eo]
  unfold yq_put yq_v
  refine Prod.ext ?_ (Prod.ext rfl ?_)
  · funext t
    show (if t = s.2.1 then yy_ud (if t = s.2.1 then yy_ud (s.1 t) r s.2.2 else s.1 t) r (s.1 s.2.1 r) else (if t = s.2.1 then yy_ud (s.1 t) r s.2.2 else s.1 t)) = s.1 t
    by_cases z : t = s.2.1
    · rw [if_pos z, if_pos z, z]; exact yy_ud_back
    · rw [if_neg z, if_neg z]
  · show (if s.2.1 = s.2.1 then yy_ud (s.1 s.2.1) r s.2.2 else s.1 s.2.1) r = s.2.2
    rw [if_pos rfl, yy_ud_s]
theorem yq_ev {m n : Nat} {s u : yq_S} (h : yq_e m n s u) : yq_e m n (yq_v s) (yq_v u) := ⟨h.1, by show 1 - s.2.1 = 1 - u.2.1; rw [h.2.1], h.2.2⟩
theorem yq_ok_v {m n k : Nat} {a : Nat → Nat → Nat → Int} {s : yq_S} (h : yq_ok m n a s) (hc : yq_c m n k s) (hk : s.2.2 ≠ k) : yq_ok m n a (yq_v s) := ⟨by show 1 - s.2.1 < 2; omega, h.2.1, h.2.2.1, fun i hi w => (hc.2.1 hk (1 - s.2.1) (by omega)).2 ⟨i, hi, w⟩⟩
def yq_p (m n : Nat) (a : Nat → Nat → Nat → Int) (s : yq_S) : Nat → yq_S
  | 0 => s
  | i + 1 => yq_st m n a (yq_p m n a s i)
section YQ
variable {m n k N : Nat} {a : Nat → Nat → Nat → Int} {s : yq_S}
theorem yq_all (g : yq_g m n a) (h0 : yq_ok m n a s) (hc : yq_c m n k s) (hk : ∀ i, i < N → (yq_p m n a s (i + 1)).2.2 ≠ k) : ∀ i, i ≤ N → yq_ok m n a (yq_p m n a s i) ∧ yq_c m n k (yq_p m n a s i)
  | 0, _ => ⟨h0, hc⟩
  | i + 1, hi => by
    obtain ⟨h1, h2⟩ := yq_all g h0 hc hk i (by omega)
    exact yq_next g h1 h2 (hk i (by omega))
theorem yq_norep (g : yq_g m n a) (h0 : yq_ok m n a s) (hc : yq_c m n k s) (hs : s.2.2 = k) (hk : ∀ i, i < N → (yq_p m n a s (i + 1)).2.2 ≠ k) : ∀ i j, i < j → j ≤ N → ¬ yq_e m n (yq_p m n a s i) (yq_p m n a s j) := by
  intro i
  induction i with
  | zero =>
    intro j hij hj h
    obtain ⟨j', rfl⟩ : ∃ j', j = j' + 1 := ⟨j - 1, by omega⟩
    exact hk j' (by omega) (by rw [← h.2.2]; exact hs)
  | succ i ih =>
    intro j hij hj h
    obtain ⟨j', rfl⟩ : ∃ j', j = j' + 1 := ⟨j - 1, by omega⟩
    have A := yq_all g h0 hc hk
    have o1 := yq_ok_v (A (i + 1) (by omega)).1 (A (i + 1) (by omega)).2 (hk i (by omega))
    have o2 := yq_ok_v (A (j' + 1) hj).1 (A (j' + 1) hj).2 (hk j' (by omega))
    have p := yq_p1 g o1 o2 (yq_ev h)
    have q1 := yq_p2 g (A i (by omega)).1
    have q2 := yq_p2 g (A j' (by omega)).1
    have e1 : yq_p m n a s (i + 1) = yq_st m n a (yq_p m n a s i) := rfl
    have e2 : yq_p m n a s (j' + 1) = yq_st m n a (yq_p m n a s j') := rfl
    rw [e1, e2, q1, q2] at p
    refine ih j' (by omega) (by omega) ⟨p.1, ?_, p.2.2⟩
    have t1 := (A i (by omega)).1.1
    have t2 := (A j' (by omega)).1.1
    have : 1 - (yq_p m n a s i).2.1 = 1 - (yq_p m n a s j').2.1 := p.2.1
    omega
theorem yq_fold (g : yq_g m n a) (h0 : yq_ok m n a s) (hc : yq_c m n k s) (hk : ∀ i, i < N → (yq_p m n a s (i + 1)).2.2 ≠ k) : ∀ d i, i + d ≤ N → ¬ yq_e m n (yq_p m n a s i) (yq_v (yq_p m n a s (i + d))) := by
  intro d
  induction d using Nat.strongRecOn with
  | ind d ih =>
    intro i hid h
    have A := yq_all g h0 hc hk
    have t1 := (A i (by omega)).1.1
    match d, ih, hid, h with
    | 0, _, _, h =>
      have : (yq_p m n a s i).2.1 = 1 - (yq_p m n a s i).2.1 := h.2.1
      omega
    | 1, _, hid, h =>
      have ok := (A i (by omega)).1
      obtain ⟨r, _, hr, es⟩ := yq_row g ok
      have e1 : (yq_p m n a s (i + 1)).2.2 = (yq_p m n a s i).1 (yq_p m n a s i).2.1 r := by
        show (yq_st m n a (yq_p m n a s i)).2.2 = _
        rw [es]; rfl
      have : (yq_p m n a s i).2.2 = (yq_p m n a s (i + 1)).2.2 := h.2.2
      rw [e1] at this
      exact ok.2.2.2 r hr this.symm
    | d + 2, ih, hid, h =>
      have o2 := yq_ok_v (A (i + (d + 2)) hid).1 (A (i + (d + 2)) hid).2 (by have := hk (i + d + 1) (by omega); exact this)
      have p := yq_p1 g (A i (by omega)).1 o2 h
      have q2 := yq_p2 g (A (i + (d + 1)) (by omega)).1
      have e2 : yq_p m n a s (i + (d + 2)) = yq_st m n a (yq_p m n a s (i + (d + 1))) := rfl
      rw [e2, q2] at p
      refine ih d (by omega) (i + 1) (by omega) ?_
      rw [show i + 1 + d = i + (d + 1) by omega]
      exact p
/-- in a state in which the second table moves -/
theorem yq_uf {u : yq_S} (h : yq_ok m n a u) (hc : yq_c m n k u) (ht : u.2.1 = 1) (hkm : k < m + n) : yq_in m n u.1 0 k ∧ ∀ c, c < m + n → (yq_in m n u.1 1 c ↔ c ≠ u.2.2 ∧ (¬ yq_in m n u.1 0 c ∨ c = k)) := by
  obtain ⟨c1, c2, c3⟩ := hc
  have hno : ¬ yq_in m n u.1 1 u.2.2 := fun ⟨i, a1, a2⟩ => by rw [← ht] at a1 a2; exact h.2.2.2 i a1 a2
  have hk0 : yq_in m n u.1 0 k := by
    by_cases w : u.2.2 = k
    · have := c3 w; rw [ht] at this; exact this
    · exact (c2 w 0 (by omega)).1
  refine ⟨hk0, fun c hcm => ?_⟩
  by_cases w : c = u.2.2
  · subst w
    exact ⟨fun q => absurd q hno, fun q => absurd rfl q.1⟩
  · by_cases z : c = k
    · subst z
      exact ⟨fun _ => ⟨w, Or.inr rfl⟩, fun _ => (c2 (fun q => w q.symm) 1 (by omega)).1⟩
    · have := c1 1 (by omega) c hcm z w
      rw [this]
      exact ⟨fun q => ⟨w, Or.inl q⟩, fun q => q.2.resolve_right z⟩
theorem yh_eq_in {R : Nat} {bs bt : Nat → Nat} : yh_eq R bs bt ↔ ∀ c, (∃ i, i < R ∧ bs i = c) ↔ (∃ i, i < R ∧ bt i = c) := by
  constructor
  · intro h c
    constructor
    · rintro ⟨i, a1, a2⟩
      obtain ⟨j, b1, b2⟩ := h.1 i a1
      exact ⟨j, b1, by rw [← b2]; exact a2⟩
    · rintro ⟨i, a1, a2⟩
      obtain ⟨j, b1, b2⟩ := h.2 i a1
      exact ⟨j, b1, by rw [← b2]; exact a2⟩
  · intro h
    constructor
    · intro i hi
      obtain ⟨j, b1, b2⟩ := (h (bs i)).mp ⟨i, hi, rfl⟩
      exact ⟨j, b1, b2.symm⟩
    · intro i hi
      obtain ⟨j, b1, b2⟩ := (h (bt i)).mpr ⟨i, hi, rfl⟩
      exact ⟨j, b1, b2.symm⟩
/-- the first table's labels are never the same twice, where the second moves -/
theorem yq_dist (g : yq_g m n a) (h0 : yq_ok m n a s) (hc : yq_c m n k s) (hs : s.2.2 = k) (hkm : k < m + n) (hk : ∀ i, i < N → (yq_p m n a s (i + 1)).2.2 ≠ k) {i j : Nat} (hij : i < j) (hj : j ≤ N) (ti : (yq_p m n a s i).2.1 = 1) (tj : (yq_p m n a s j).2.1 = 1) (h : yh_eq (yy_rw m n 0) ((yq_p m n a s i).1 0) ((yq_p m n a s j).1 0)) : False := by
  have A := yq_all g h0 hc hk
  obtain ⟨oi, ci⟩ := A i (by omega)
  obtain ⟨oj, cj⟩ := A j hj
  obtain ⟨ki, ui⟩ := yq_uf oi ci ti hkm
  obtain ⟨kj, uj⟩ := yq_uf oj cj tj hkm
  have in0 : ∀ c, yq_in m n (yq_p m n a s i).1 0 c ↔ yq_in m n (yq_p m n a s j).1 0 c := yh_eq_in.mp h
  have lb : ∀ {u : yq_S}, yq_ok m n a u → ∀ {t c}, t < 2 → yq_in m n u.1 t c → c < m + n := fun hu t c ht ⟨w, w1, w2⟩ => by rw [← w2]; exact (hu.2.1 t ht).2 w w1
  by_cases ee : (yq_p m n a s i).2.2 = (yq_p m n a s j).2.2
  · refine yq_norep g h0 hc hs hk i j hij hj ⟨fun t ht => ?_, by rw [ti, tj], ee⟩
    by_cases z : t = 0
    · rw [z]; exact h
    · have z : t = 1 := by omega
      rw [z]
      refine yh_eq_in.mpr (fun c => ⟨fun q => ?_, fun q => ?_⟩)
      · have q : yq_in m n (yq_p m n a s i).1 1 c := q
        have hcm := lb oi (by omega) q
        refine (uj c hcm).mpr ?_
        rw [← ee, ← in0]
        exact (ui c hcm).mp q
      · have q : yq_in m n (yq_p m n a s j).1 1 c := q
        have hcm := lb oj (by omega) q
        refine (ui c hcm).mpr ?_
        rw [ee, in0]
        exact (uj c hcm).mp q
  · -- they are the two ends of one edge
    have eim := oi.2.2.1
    have e0 : ¬ yq_in m n (yq_p m n a s i).1 0 (yq_p m n a s i).2.2 ∨ (yq_p m n a s i).2.2 = k := by
      by_cases w : (yq_p m n a s i).2.2 = k
      · exact Or.inr w
      · exact Or.inl (ci.2.1 w 0 (by omega)).2
    have ej : yq_in m n (yq_p m n a s j).1 1 (yq_p m n a s i).2.2 := (uj _ eim).mpr ⟨ee, by rw [← in0]; exact e0⟩
    obtain ⟨j0, j01, j02⟩ := ej
    obtain ⟨r, er, hr, es⟩ := yq_row g oi
    unfold yq_o at er
    rw [ti] at er hr
    have lj := (oj.2.1 1 (by omega))
    have li := (oi.2.1 1 (by omega))
    have nei : ∀ w, w < yy_rw m n 1 → (yq_p m n a s i).1 1 w ≠ (yq_p m n a s i).2.2 := by
      have := oi.2.2.2
      rw [ti] at this
      exact this
    have ed := yh_edge (g.1 1 (by omega)) li.1 lj.1 (e := (yq_p m n a s i).2.2) (j0 := j0) j01 j02 (fun w w1 w2 => by
      have q : yq_in m n (yq_p m n a s j).1 1 ((yq_p m n a s j).1 1 w) := ⟨w, w1, rfl⟩
      have hcm := lb oj (by omega) q
      have q2 := (uj _ hcm).mp q
      have ne : (yq_p m n a s j).1 1 w ≠ (yq_p m n a s i).2.2 := fun z => w2 (yq_inj lj w j0 w1 j01 (by rw [z, j02]))
      obtain ⟨v, v1, v2⟩ := (ui _ hcm).mpr ⟨ne, by rw [in0]; exact q2.2⟩
      exact ⟨v, v1, v2.symm⟩) nei er
    have hlm : (yq_p m n a s i).1 1 r < m + n := li.2 r hr
    have ql := (ui _ hlm).mp ⟨r, hr, rfl⟩
    have lv : (yq_p m n a s i).1 1 r = (yq_p m n a s j).2.2 := by
      apply Classical.byContradiction
      intro z
      obtain ⟨v, v1, v2⟩ := (uj _ hlm).mpr ⟨z, by rw [← in0]; exact ql.2⟩
      exact ed v v1 v2
    have hr' : r < yy_rw m n (yq_p m n a s i).2.1 := by rw [ti]; exact hr
    have inji := yq_inj (oi.2.1 _ oi.1)
    obtain ⟨d, hd⟩ : ∃ d, j = i + 1 + d := ⟨j - (i + 1), by omega⟩
    refine yq_fold g h0 hc hk d (i + 1) (by omega) ?_
    rw [← hd]
    have e1 : yq_p m n a s (i + 1) = yq_put (yq_p m n a s i) r := by
      show yq_st m n a (yq_p m n a s i) = _
      exact es
    rw [e1]
    refine ⟨fun t ht => ?_, ?_, ?_⟩
    · refine yh_eq_in.mpr (fun c => ?_)
      have pin := yq_put_in (t := t) (c := c) hr' inji
      have pin : (∃ w, w < yy_rw m n t ∧ (yq_put (yq_p m n a s i) r).1 t w = c) ↔ _ := pin
      rw [pin]
      show _ ↔ yq_in m n (yq_p m n a s j).1 t c
      rw [ti]
      by_cases z : t = 0
      · subst z
        rw [if_neg (by decide)]; exact in0 c
      · have z : t = 1 := by omega
        subst z
        rw [if_pos rfl, lv]
        constructor
        · rintro (q | ⟨q1, q2⟩)
          · rw [q]; exact ⟨j0, j01, j02⟩
          · have hcm := lb oi (by omega) q1
            refine (uj c hcm).mpr ⟨q2, ?_⟩
            rw [← in0]; exact ((ui c hcm).mp q1).2
        · intro q
          have hcm := lb oj (by omega) q
          have q2 := (uj c hcm).mp q
          by_cases w : c = (yq_p m n a s i).2.2
          · exact Or.inl w
          · exact Or.inr ⟨(ui c hcm).mpr ⟨w, by rw [in0]; exact q2.2⟩, q2.1⟩
    · show 1 - (yq_p m n a s i).2.1 = 1 - (yq_p m n a s j).2.1
      rw [ti, tj]
    · show (yq_p m n a s i).1 (yq_p m n a s i).2.1 r = (yq_p m n a s j).2.2
      rw [ti]; exact lv
end YQ
