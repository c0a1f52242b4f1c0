/-! ===== a game's tables and the path's start ===== -/
/-- wholes in their bounds, the leasts below them -/
def yg_ok (m n : Nat) (W : Nat → Nat → Nat → Int) (le : Nat → Int) : Prop := 1 ≤ m ∧ m ≤ 6 ∧ 1 ≤ n ∧ n ≤ 6 ∧ (∀ p, p < 2 → ∀ i, i < m → ∀ j, j < n → (W p i j).natAbs ≤ 277172280 ∧ le p ≤ W p i j) ∧ ∀ p, p < 2 → (le p).natAbs ≤ 277172280
theorem yh_e_nn (i r : Nat) : 0 ≤ yh_e i r := by unfold yh_e; split <;> decide
theorem yg_g {m n : Nat} {W : Nat → Nat → Nat → Int} {le : Nat → Int} (h : yg_ok m n W le) : yq_g m n (yg_a m n W le) := by
  obtain ⟨m1, m6, n1, n6, hW, hl⟩ := h
  refine ⟨fun t ht i hi r hr => ?_, fun t ht c hc r hr => ?_, fun t ht c hc => ?_⟩
  · unfold yg_a yq_fl
    unfold yy_rw at hi
    by_cases e : t = 0
    · rw [if_pos e] at hi
      rw [if_pos e, if_neg (by omega), if_pos e, if_neg (by omega), Nat.add_sub_cancel_left]
    · rw [if_neg e] at hi
      rw [if_neg e, if_neg (by omega), if_neg e, if_pos (by omega), Nat.zero_add]
  · unfold yg_a
    unfold yy_rw at hr
    by_cases a : c = m + n
    · rw [if_pos a]; decide
    · rw [if_neg a]
      by_cases e : t = 0
      · rw [if_pos e] at hr ⊢
        by_cases d : c < m
        · rw [if_pos d]; have := (hW 1 (by decide) c d r hr).2; omega
        · rw [if_neg d]; exact yh_e_nn _ _
      · rw [if_neg e] at hr ⊢
        by_cases d : c < m
        · rw [if_pos d]; exact yh_e_nn _ _
        · rw [if_neg d]; have := (hW 0 (by decide) r hr (c - m) (by omega)).2; omega
  · unfold yg_a yy_rw
    by_cases e : t = 0
    · by_cases d : c < m
      · refine ⟨0, by rw [if_pos e]; omega, ?_⟩
        rw [if_neg (by omega), if_pos e, if_pos d]
        have := (hW 1 (by decide) c d 0 (by omega)).2; omega
      · refine ⟨c - m, by rw [if_pos e]; omega, ?_⟩
        rw [if_neg (by omega), if_pos e, if_neg d]
        unfold yh_e; rw [if_pos rfl]; decide
    · by_cases d : c < m
      · refine ⟨c, by rw [if_neg e]; omega, ?_⟩
        rw [if_neg (by omega), if_neg e, if_pos d]
        unfold yh_e; rw [if_pos rfl]; decide
      · refine ⟨0, by rw [if_neg e]; omega, ?_⟩
        rw [if_neg (by omega), if_neg e, if_neg d]
        have := (hW 0 (by decide) 0 (by omega) (c - m) (by omega)).2; omega
theorem yg_b {m n : Nat} {W : Nat → Nat → Nat → Int} {le : Nat → Int} (h : yg_ok m n W le) : ∀ t, t < 2 → ∀ c, c ≤ m + n → ∀ r, r < yy_rw m n t → (yg_a m n W le t c r).natAbs ≤ 554344561 := fun _ ht _ hc _ hr => yg_bd (fun p hp i hi j hj => (h.2.2.2.2.1 p hp i hi j hj).1) h.2.2.2.2.2 ht hr hc
theorem yy_rw6 {m n t : Nat} (hm : m ≤ 6) (hn : n ≤ 6) : yy_rw m n t ≤ 6 := by unfold yy_rw; split <;> assumption
/-- where a run begins -/
def yg_s (m label : Nat) : yq_S := (fun t i => yq_fl m t + i, if label < m then 0 else 1, label)
theorem yg_s_lf {m n : Nat} {W : Nat → Nat → Nat → Int} {le : Nat → Int} (h : yg_ok m n W le) {t : Nat} (ht : t < 2) : yq_lf m n (yg_a m n W le) t (fun i => yq_fl m t + i) := by
  have g := yg_g h
  obtain ⟨i1, i2⟩ := yh_init (g.1 t ht)
  refine ⟨⟨by rw [i2]; decide, fun k hk => ⟨0, by omega, fun j hj => absurd hj (Nat.not_lt_zero j), ?_⟩⟩, fun i hi => ?_⟩
  · show (0 : Int) < yh_T _ _ _ k (m + n)
    rw [i1 k hk]
    unfold yg_a
    rw [if_pos rfl]; decide
  · show yq_fl m t + i < m + n
    unfold yy_rw at hi
    unfold yq_fl
    by_cases e : t = 0
    · rw [if_pos e] at hi ⊢; omega
    · rw [if_neg e] at hi ⊢; omega
theorem yg_s_in {m n : Nat} {label t c : Nat} : yq_in m n (yg_s m label).1 t c ↔ if t = 0 then (m ≤ c ∧ c < m + n) else c < m := by
  show (∃ i, i < yy_rw m n t ∧ yq_fl m t + i = c) ↔ _
  by_cases e : t = 0
  · have rR : yy_rw m n t = n := if_pos e
    have fF : yq_fl m t = m := if_pos e
    rw [rR, fF, if_pos e]
    constructor
    · rintro ⟨i, a1, a2⟩; omega
    · intro h; exact ⟨c - m, by omega, by omega⟩
  · have rR : yy_rw m n t = m := if_neg e
    have fF : yq_fl m t = 0 := if_neg e
    rw [rR, fF, if_neg e]
    constructor
    · rintro ⟨i, a1, a2⟩; omega
    · intro h; exact ⟨c, by omega, by omega⟩
theorem yg_start {m n label : Nat} {W : Nat → Nat → Nat → Int} {le : Nat → Int} (h : yg_ok m n W le) (hl : label < m + n) : yq_ok m n (yg_a m n W le) (yg_s m label) ∧ yq_c m n label (yg_s m label) := by
  have et : (yg_s m label).2.1 = if label < m then 0 else 1 := rfl
  have ee : (yg_s m label).2.2 = label := rfl
  constructor
  · refine ⟨by rw [et]; split <;> omega, fun t ht => yg_s_lf h ht, hl, fun i hi w => ?_⟩
    have : yq_in m n (yg_s m label).1 (yg_s m label).2.1 label := ⟨i, hi, w⟩
    rw [yg_s_in, et] at this
    by_cases z : label < m
    · rw [if_pos z, if_pos rfl] at this; omega
    · rw [if_neg z, if_neg (by decide)] at this; omega
  · refine ⟨fun t ht c hc h1 h2 => ?_, fun w => absurd ee w, fun _ => ?_⟩
    · rw [yg_s_in, yg_s_in]
      by_cases z : t = 0
      · rw [if_pos z, if_neg (by omega)]; omega
      · rw [if_neg z, if_pos (by omega)]; omega
    · rw [yg_s_in, et]
      by_cases z : label < m
      · rw [if_pos z, if_neg (by decide)]; exact z
      · rw [if_neg z, if_pos (by decide)]; omega
/-- how many steps a run has -/
theorem yg_run {m n label : Nat} {W : Nat → Nat → Nat → Int} {le : Nat → Int} (h : yg_ok m n W le) (hl : label < m + n) : ∃ q, q < 227 ∧ (yq_p m n (yg_a m n W le) (yg_s m label) (q + 1)).2.2 = label ∧ ∀ i, i < q → (yq_p m n (yg_a m n W le) (yg_s m label) (i + 1)).2.2 ≠ label := by
  obtain ⟨ok, cc⟩ := yg_start h hl
  obtain ⟨i, hi, e⟩ := yq_bound h.1 h.2.1 h.2.2.1 h.2.2.2.1 (yg_g h) ok cc rfl hl
  have st : ∀ i, i < 227 → (yq_p m n (yg_a m n W le) (yg_s m label) (i + 1)).2.2 = label → ∃ q, q < 227 ∧ (yq_p m n (yg_a m n W le) (yg_s m label) (q + 1)).2.2 = label ∧ ∀ i, i < q → (yq_p m n (yg_a m n W le) (yg_s m label) (i + 1)).2.2 ≠ label := by
    intro i
    induction i using Nat.strongRecOn with
    | ind i ih =>
      intro hi e
      by_cases w : ∃ j, j < i ∧ (yq_p m n (yg_a m n W le) (yg_s m label) (j + 1)).2.2 = label
      · obtain ⟨j, hj, e2⟩ := w
        exact ih j hj (by omega) e2
      · exact ⟨i, hi, e, fun j hj z => w ⟨j, hj, z⟩⟩
  exact st i hi e
/-- what both programs need of a state of the path -/
theorem yg_at {m n label : Nat} {W : Nat → Nat → Nat → Int} {le : Nat → Int} (h : yg_ok m n W le) {s : yq_S} (ok : yq_ok m n (yg_a m n W le) s) : ∃ r, r < yy_rw m n s.2.1 ∧ yq_o m n (yg_a m n W le) s = some r ∧ yq_st m n (yg_a m n W le) s = yq_put s r ∧ (∀ t, t < 2 → ∀ k c, c ≤ m + n → (yh_T (yy_rw m n t) (yg_a m n W le t) (s.1 t) k c).natAbs < 2 ^ 200) ∧ (∀ k, k < yy_rw m n s.2.1 → ∀ c, c ≤ m + n → (yt_n (yh_T (yy_rw m n s.2.1) (yg_a m n W le s.2.1) (s.1 s.2.1)) (yh_d (yy_rw m n s.2.1) (yg_a m n W le s.2.1) (s.1 s.2.1)) r s.2.2 k c).natAbs < 2 ^ 200) ∧ ∀ t, t < 2 → 0 < yh_d (yy_rw m n t) (yg_a m n W le t) (s.1 t) := by
  obtain ⟨r, e, hr, es⟩ := yq_row (yg_g h) ok
  refine ⟨r, hr, e, es, fun t ht k c hc => ?_, fun k hk c hc => ?_, fun t ht => (ok.2.1 t ht).1.1⟩
  · exact (yh_bd (yy_rw6 h.2.1 h.2.2.2.1) (yg_b h t ht) (fun i hi => Nat.le_of_lt ((ok.2.1 t ht).2 i hi)) hc).1
  · have d := (ok.2.1 _ ok.1).1.1
    rw [yh_step (by omega) hr hk]
    refine (yh_bd (mn := m + n) (yy_rw6 h.2.1 h.2.2.2.1) (yg_b h _ ok.1) (fun i hi => ?_) hc).1
    by_cases z : i = r
    · rw [z, yy_ud_s]; exact Nat.le_of_lt ok.2.2.1
    · rw [yy_ud_n z]; exact Nat.le_of_lt ((ok.2.1 _ ok.1).2 i hi)
