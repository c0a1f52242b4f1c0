/-! ===== sets as bits ===== -/
def yb_n (f : Nat → Bool) : Nat → Nat
  | 0 => 0
  | n + 1 => yb_n f n + if f n then 2 ^ n else 0
theorem yb_lt (f : Nat → Bool) : ∀ n : Nat, yb_n f n < 2 ^ n
  | 0 => by show 0 < 1; decide
  | n + 1 => by
    have := yb_lt f n
    show yb_n f n + (if f n then 2 ^ n else 0) < 2 ^ (n + 1)
    rw [Nat.pow_succ]
    split <;> omega
theorem yb_ts (f : Nat → Bool) : ∀ {n k : Nat}, k < n → Nat.testBit (yb_n f n) k = f k
  | 0, k, h => absurd h (Nat.not_lt_zero k)
  | n + 1, k, h => by
    have hl := yb_lt f n
    show Nat.testBit (yb_n f n + if f n then 2 ^ n else 0) k = f k
    by_cases e : k = n
    · subst e
      by_cases z : f k = true
      · rw [if_pos z, Nat.add_comm, Nat.testBit_two_pow_add_eq, Nat.testBit_lt_two_pow hl, z]; rfl
      · rw [if_neg z, Nat.add_zero, Nat.testBit_lt_two_pow hl]
        exact (Bool.not_eq_true _ ▸ z).symm
    · by_cases z : f n = true
      · rw [if_pos z, Nat.add_comm, Nat.testBit_two_pow_add_gt (by omega)]; exact yb_ts f (by omega)
      · rw [if_neg z, Nat.add_zero]; exact yb_ts f (by omega)
theorem yb_cg {f g : Nat → Bool} : ∀ {n : Nat}, (∀ k, k < n → f k = g k) → yb_n f n = yb_n g n
  | 0, _ => rfl
  | n + 1, h => by
    show yb_n f n + (if f n then 2 ^ n else 0) = yb_n g n + (if g n then 2 ^ n else 0)
    rw [h n (by omega), yb_cg (fun k hk => h k (by omega))]
theorem yb_s1 {f : Nat → Bool} {n : Nat} (h : f n = true) : yb_n f (n + 1) = yb_n f n + 2 ^ n := by
  show yb_n f n + (if f n = true then 2 ^ n else 0) = _
  rw [if_pos h]
theorem yb_s0 {f : Nat → Bool} {n : Nat} (h : ¬ f n = true) : yb_n f (n + 1) = yb_n f n := by
  show yb_n f n + (if f n = true then 2 ^ n else 0) = _
  rw [if_neg h, Nat.add_zero]
theorem yb_or6 : ∀ k, k < 6 → ∀ a, a < 2 ^ k → nI a ||| ((1 : Int32) <<< (nI k &&& 31)) = nI (a + 2 ^ k) := by decide +kernel
theorem yb_or {k a : Nat} (hk : k < 6) (ha : a < 2 ^ k) : nI a ||| ((1 : Int32) <<< (nI k &&& 31)) = nI (a + 2 ^ k) := yb_or6 k hk a ha
theorem yb_sh6 : ∀ a, a < 64 → ∀ k, k < 6 → (nI a >>> (nI k &&& 31)) &&& 1 = if Nat.testBit a k then 1 else 0 := by decide +kernel
theorem yb_sh {a k : Nat} (ha : a < 64) (hk : k < 6) : (nI a >>> (nI k &&& 31)) &&& 1 = if Nat.testBit a k then 1 else 0 := yb_sh6 a ha k hk
theorem yb_1s6 : ∀ k, k < 7 → (1 : Int32) <<< (nI k &&& 31) = nI (2 ^ k) := by decide +kernel
theorem yb_sgp (v : Int) : (iz v.sign ≤ 0) ↔ ¬ 0 < v := by
  rcases Int.lt_trichotomy v 0 with h | h | h
  · rw [Int.sign_eq_neg_one_of_neg h]; exact ⟨fun _ => by omega, fun _ => by decide⟩
  · rw [h]; exact ⟨fun _ => by omega, fun _ => by decide⟩
  · rw [Int.sign_eq_one_of_pos h]; exact ⟨fun q => absurd q (by decide), fun q => absurd h q⟩
/-! ===== Weights ===== -/
/-- a Weights at s -/
def xx_wt (B : xx_H) (s : Nat) (X : Nat → Int) (t : Int) : Prop := B.2 s = xx_o 7 [.ref (s + 1), .ref (s + 14)] ∧ (∃ h, B.2 (s + 1) = xx_r 10 6 h ∧ ∀ k, k < 6 → h k = some (s + 2 + 2 * k)) ∧ (∀ k, k < 6 → xx_bg B (s + 2 + 2 * k) (X k)) ∧ xx_bg B (s + 14) t
theorem xx_wt.to {B C : xx_H} {s : Nat} {X : Nat → Int} {t : Int} (h : xx_wt B s X t) (hq : ∀ q, s ≤ q → q < s + 16 → C.2 q = B.2 q) : xx_wt C s X t := by
  obtain ⟨a1, ⟨h9, a2, a3⟩, a4, a5⟩ := h
  exact ⟨(hq _ (by omega) (by omega)).trans a1, ⟨h9, (hq _ (by omega) (by omega)).trans a2, a3⟩, fun k hk => (a4 k hk).to (hq _ (by omega) (by omega)) (hq _ (by omega) (by omega)), a5.to (hq _ (by omega) (by omega)) (hq _ (by omega) (by omega))⟩
theorem xx_wt.cg {B : xx_H} {s : Nat} {X Y : Nat → Int} {t : Int} (h : xx_wt B s X t) (e : ∀ k, k < 6 → X k = Y k) : xx_wt B s Y t := ⟨h.1, h.2.1, fun k hk => e k hk ▸ h.2.2.1 k hk, h.2.2.2⟩
theorem xx_wt.put {B C : xx_H} {s i : Nat} {X : Nat → Int} {t v : Int} (h : xx_wt B s X t) (hi : i < 6) (hv : xx_bg C (s + 2 + 2 * i) v) (hq : ∀ q, q ≠ s + 2 + 2 * i → q ≠ s + 2 + 2 * i + 1 → C.2 q = B.2 q) : xx_wt C s (yy_un X i v) t := by
  obtain ⟨a1, ⟨h9, a2, a3⟩, a4, a5⟩ := h
  refine ⟨(hq _ (by omega) (by omega)).trans a1, ⟨h9, (hq _ (by omega) (by omega)).trans a2, a3⟩, fun k hk => ?_, a5.to (hq _ (by omega) (by omega)) (hq _ (by omega) (by omega))⟩
  by_cases e : k = i
  · rw [e, yy_un_s]; exact hv
  · rw [yy_un_n e]; exact (a4 k hk).to (hq _ (by omega) (by omega)) (hq _ (by omega) (by omega))
theorem xx_wt.tot {B C : xx_H} {s : Nat} {X : Nat → Int} {t v : Int} (h : xx_wt B s X t) (hv : xx_bg C (s + 14) v) (hq : ∀ q, q ≠ s + 14 → q ≠ s + 14 + 1 → C.2 q = B.2 q) : xx_wt C s X v := by
  obtain ⟨a1, ⟨h9, a2, a3⟩, a4, a5⟩ := h
  exact ⟨(hq _ (by omega) (by omega)).trans a1, ⟨h9, (hq _ (by omega) (by omega)).trans a2, a3⟩, fun k hk => (a4 k hk).to (hq _ (by omega) (by omega)) (hq _ (by omega) (by omega)), hv⟩
set_option maxRecDepth 100000 in
theorem l_X7_clear {G : xx_G} {l : Launch} {A : xx_H} {s : Nat} {X : Nat → Int} {t : Int} {Q : Option Value ⊕ String → xx_H → Prop}  (k : ∀ (B : xx_H) (Y : Nat → Int), (B.1 = A.1) → (xx_wt B s Y t) → (∀ k, k < 6 → Y k = 0) → (∀ q, (q < s ∨ s + 16 ≤ q) → B.2 q = A.2 q) → xx_X G l mX7_clear 2 0 0 23 [(0, .ref s)] [] B Q) :
    ∀ (v i : Nat), i + v = 6 → ∀ (B : xx_H) (Y : Nat → Int), (B.1 = A.1) → (xx_wt B s Y t) → (∀ k, k < i → Y k = 0) → (∀ q, (q < s ∨ s + 16 ≤ q) → B.2 q = A.2 q) → xx_X G l mX7_clear 2 0 0 2 [(0, .ref s), (1, .int (nI i))] [] B Q := by
  intro v
  induction v with
  | zero =>
    intro i h9i B Y y1 H y3 y4
    have h9e : i = 6 := by omega
    subst h9e
    refine xx_clv (lv2 := [(0, .ref s), (1, .int 6)]) rfl ?_
    refine xx_iload_n dX7_clear_2 rfl ?_
    refine xx_bipush (v := 6) dX7_clear_3 (by decide) ?_
    refine xx_icmp_ge (tgt := 23) dX7_clear_5 (by decide) (fun j5 => ?_) (fun h => absurd (by decide) h)
    refine xx_less [0] ?_
    refine xx_clv (lv2 := [(0, .ref s)]) rfl ?_
    exact k B Y y1 H y3 y4
  | succ v ih =>
    intro i h9i B Y y1 H y3 y4
    obtain ⟨e1, ⟨h9, e2, e3⟩, e4, e5⟩ := id H
    obtain ⟨f9, l9, bo, _⟩ := id (e4 i (by omega))
    refine xx_iload_n dX7_clear_2 rfl ?_
    refine xx_bipush (v := 6) dX7_clear_3 (by decide) ?_
    refine xx_icmp_ge (tgt := 23) dX7_clear_5 (by decide) (fun h => absurd h (nI_ge (a := i) (b := 6) (by omega) (by omega))) (fun j5 => ?_)
    refine xx_aload_n dX7_clear_8 rfl ?_
    refine xx_get xx_c7 dX7_clear_9 wf_X7_13 (j := 0) (by decide) e1 rfl ?_
    refine xx_iload_n dX7_clear_12 rfl ?_
    refine xx_aald (kd := 10) (b := s + 2 + 2 * i) dX7_clear_13 (by decide) rfl e2 (vp_in_nI (by omega) (by decide)) (by rw [nI_clamp (by omega)]; exact e3 _ (by omega)) ?_
    refine xx_callV (N := mX0_clear) (vs := []) (b := (s + 2 + 2 * i)) (rest := []) (d2 := 0) (c2 := 0) (s2 := 0) (c3 := 0) (s3 := 0) dX7_clear_14 wm_X7_26 wi_X0_clear wv_X0_clear (k := 0) rfl (by decide) bo nX0_clear ⟨pX0_clear, Nat.le_of_ble_eq_true rfl, by decide, Nat.le_of_ble_eq_true rfl, by decide, by decide⟩ (c_X0_clear (e4 i (by omega))) (fun v9 D hC => ?_) (fun E9 B9 hC => absurd hC.1 (by simp))
    obtain ⟨hv9, k1, k2, k3⟩ := hC
    cases hv9
    refine xx_cst (st2 := []) rfl ?_
    refine xx_iinc (v := nI (i + 1)) dX7_clear_17 rfl (nI_1 i) (by decide) ?_
    refine xx_clv (lv2 := [(0, .ref s), (1, .int (nI (i + 1)))]) rfl ?_
    refine xx_goto (tgt := 2) dX7_clear_20 (by decide) ?_
    refine xx_less [0, 1] ?_
    refine xx_clv (lv2 := [(0, .ref s), (1, .int (nI (i + 1)))]) rfl ?_
    refine ih (i + 1) (by omega) D _ (by omega) (H.put (by omega) k2 (fun q a _ => k3 q a)) (fun k hk => ?_) (fun q hq => (k3 q (by omega)).trans (y4 q hq))
    by_cases e : k = i
    · rw [e, yy_un_s]
    · rw [yy_un_n e]; exact y3 k (by omega)
set_option maxRecDepth 100000 in
theorem c_X7_clear {G : xx_G} {l : Launch} {A : xx_H} {s : Nat} {X : Nat → Int} {t : Int} (H : xx_wt A s X t) : xx_X G l mX7_clear 2 0 0 0 (lv_args 0 [.ref s]) [] A (fun z B => z = .inl none ∧ B.1 = A.1 ∧ xx_wt B s (fun _ => 0) t ∧ ∀ q, (q < s ∨ s + 16 ≤ q) → B.2 q = A.2 q) := by
  refine xx_clv (lv2 := [(0, .ref s)]) rfl ?_
  refine xx_iconst (v := 0) dX7_clear_0 (by decide) ?_
  refine xx_istore_n dX7_clear_1 (by decide) ?_
  refine xx_clv (lv2 := [(0, .ref s), (1, .int 0)]) rfl ?_
  refine xx_clv (lv2 := [(0, .ref s), (1, .int (nI 0))]) rfl ?_
  refine l_X7_clear (A := A) (X := X) (t := t) (fun B Y y1 H2 y3 y4 => ?_) 6 0 (by omega) A X rfl H (fun k hk => absurd hk (Nat.not_lt_zero k)) (fun q _ => rfl)
  exact xx_vret dX7_clear_23 rfl ⟨rfl, y1, H2.cg y3, y4⟩
theorem yb_400 : 6 * 2 ^ 400 + 2 ^ 400 < yB ^ 14 := by decide +kernel
set_option maxRecDepth 100000 in
theorem l_X7_sumUp {G : xx_G} {l : Launch} {A : xx_H} {s : Nat} {X : Nat → Int} {t : Int} {Q : Option Value ⊕ String → xx_H → Prop} (hX : ∀ k, k < 6 → (X k).natAbs < 2 ^ 400) (k : ∀ (B : xx_H), (B.1 = A.1) → (xx_wt B s X (yd_s 6 X)) → (∀ q, (q < s ∨ s + 16 ≤ q) → B.2 q = A.2 q) → xx_X G l mX7_sumUp 4 0 0 34 [(0, .ref s)] [] B Q) :
    ∀ (v i : Nat), i + v = 6 → ∀ (B : xx_H), (B.1 = A.1) → (xx_wt B s X (yd_s i X)) → (∀ q, (q < s ∨ s + 16 ≤ q) → B.2 q = A.2 q) → xx_X G l mX7_sumUp 4 0 0 9 [(0, .ref s), (1, .int (nI i))] [] B Q := by
  intro v
  induction v with
  | zero =>
    intro i h9i B y1 H y4
    have h9e : i = 6 := by omega
    subst h9e
    refine xx_clv (lv2 := [(0, .ref s), (1, .int 6)]) rfl ?_
    refine xx_iload_n dX7_sumUp_9 rfl ?_
    refine xx_bipush (v := 6) dX7_sumUp_10 (by decide) ?_
    refine xx_icmp_ge (tgt := 34) dX7_sumUp_12 (by decide) (fun j12 => ?_) (fun h => absurd (by decide) h)
    refine xx_less [0] ?_
    refine xx_clv (lv2 := [(0, .ref s)]) rfl ?_
    exact k B y1 H y4
  | succ v ih =>
    intro i h9i B y1 H y4
    obtain ⟨e1, ⟨h9, e2, e3⟩, e4, e5⟩ := id H
    obtain ⟨f9, l9, bo, _⟩ := id (e4 i (by omega))
    obtain ⟨f8, l8, bt, _⟩ := id e5
    refine xx_iload_n dX7_sumUp_9 rfl ?_
    refine xx_bipush (v := 6) dX7_sumUp_10 (by decide) ?_
    refine xx_icmp_ge (tgt := 34) dX7_sumUp_12 (by decide) (fun h => absurd h (nI_ge (a := i) (b := 6) (by omega) (by omega))) (fun j12 => ?_)
    refine xx_aload_n dX7_sumUp_15 rfl ?_
    refine xx_get xx_c7 dX7_sumUp_16 wf_X7_22 (j := 1) (by decide) e1 rfl ?_
    refine xx_aload_n dX7_sumUp_19 rfl ?_
    refine xx_get xx_c7 dX7_sumUp_20 wf_X7_13 (j := 0) (by decide) e1 rfl ?_
    refine xx_iload_n dX7_sumUp_23 rfl ?_
    refine xx_aald (kd := 10) (b := s + 2 + 2 * i) dX7_sumUp_24 (by decide) rfl e2 (vp_in_nI (by omega) (by decide)) (by rw [nI_clamp (by omega)]; exact e3 _ (by omega)) ?_
    refine xx_callV (N := mX0_add) (vs := [.ref (s + 2 + 2 * i)]) (b := (s + 14)) (rest := []) (d2 := 3) (c2 := 0) (s2 := 0) (c3 := 0) (s3 := 0) dX7_sumUp_25 wm_X7_29 wi_X0_add wv_X0_add (k := 0) rfl (by decide) bt nX0_add ⟨pX0_add, Nat.le_of_ble_eq_true rfl, by decide, Nat.le_of_ble_eq_true rfl, by decide, by decide⟩ (c_X0_add e5 (e4 i (by omega)) (by omega) (by omega) (by omega) (Nat.lt_of_le_of_lt (Nat.add_le_add (yd_s_abs (K := 2 ^ 400) (fun j hj => Nat.le_of_lt (hX j (by omega)))) (Nat.le_of_lt (hX i (by omega)))) (Nat.lt_of_le_of_lt (Nat.add_le_add_right (Nat.mul_le_mul_right _ (show i ≤ 6 by omega)) _) yb_400))) (fun v9 D hC => ?_) (fun E9 B9 hC => absurd hC.1 (by simp))
    obtain ⟨hv9, k1, k2, k3⟩ := hC
    cases hv9
    refine xx_cst (st2 := []) rfl ?_
    refine xx_iinc (v := nI (i + 1)) dX7_sumUp_28 rfl (nI_1 i) (by decide) ?_
    refine xx_clv (lv2 := [(0, .ref s), (1, .int (nI (i + 1)))]) rfl ?_
    refine xx_goto (tgt := 9) dX7_sumUp_31 (by decide) ?_
    refine xx_less [0, 1] ?_
    refine xx_clv (lv2 := [(0, .ref s), (1, .int (nI (i + 1)))]) rfl ?_
    refine ih (i + 1) (by omega) D (by omega) (H.tot k2 k3) (fun q hq => (k3 q (by omega) (by omega)).trans (y4 q hq))
set_option maxRecDepth 100000 in
theorem c_X7_sumUp {G : xx_G} {l : Launch} {A : xx_H} {s : Nat} {X : Nat → Int} {t : Int} (H : xx_wt A s X t) (hX : ∀ k, k < 6 → (X k).natAbs < 2 ^ 400) : xx_X G l mX7_sumUp 4 0 0 0 (lv_args 0 [.ref s]) [] A (fun z B => z = .inl none ∧ B.1 = A.1 ∧ xx_wt B s X (yd_s 6 X) ∧ ∀ q, (q < s ∨ s + 16 ≤ q) → B.2 q = A.2 q) := by
  obtain ⟨e1, ⟨h9, e2, e3⟩, e4, e5⟩ := id H
  obtain ⟨f8, l8, bt, _⟩ := id e5
  refine xx_clv (lv2 := [(0, .ref s)]) rfl ?_
  refine xx_aload_n dX7_sumUp_0 rfl ?_
  refine xx_get xx_c7 dX7_sumUp_1 wf_X7_22 (j := 1) (by decide) e1 rfl ?_
  refine xx_callV (N := mX0_clear) (vs := []) (b := (s + 14)) (rest := []) (d2 := 0) (c2 := 0) (s2 := 0) (c3 := 0) (s3 := 0) dX7_sumUp_4 wm_X7_26 wi_X0_clear wv_X0_clear (k := 0) rfl (by decide) bt nX0_clear ⟨pX0_clear, Nat.le_of_ble_eq_true rfl, by decide, Nat.le_of_ble_eq_true rfl, by decide, by decide⟩ (c_X0_clear e5) (fun v9 D hC => ?_) (fun E9 B9 hC => absurd hC.1 (by simp))
  obtain ⟨hv9, k1, k2, k3⟩ := hC
  cases hv9
  refine xx_cst (st2 := []) rfl ?_
  refine xx_iconst (v := 0) dX7_sumUp_7 (by decide) ?_
  refine xx_istore_n dX7_sumUp_8 (by decide) ?_
  refine xx_clv (lv2 := [(0, .ref s), (1, .int 0)]) rfl ?_
  refine xx_clv (lv2 := [(0, .ref s), (1, .int (nI 0))]) rfl ?_
  refine l_X7_sumUp (A := D) (X := X) (t := t) hX (fun B y1 H2 y4 => ?_) 6 0 (by omega) D rfl (H.tot k2 (fun q a _ => k3 q a)) (fun q _ => rfl)
  exact xx_vret dX7_sumUp_34 rfl ⟨rfl, by omega, H2, fun q hq => (y4 q hq).trans (k3 q (by omega))⟩
set_option maxRecDepth 100000 in
theorem l_X7_bits {G : xx_G} {l : Launch} {A : xx_H} {s : Nat} {X : Nat → Int} {t : Int} {Q : Option Value ⊕ String → xx_H → Prop} (H : xx_wt A s X t) (k : ∀ (B : xx_H), (B = A) → xx_X G l mX7_bits 0 0 0 34 [(1, .int (nI (yb_n (fun k => decide (0 < X k)) 6)))] [] B Q) :
    ∀ (v i : Nat), i + v = 6 → ∀ (B : xx_H), (B = A) → xx_X G l mX7_bits 0 0 0 4 [(0, .ref s), (1, .int (nI (yb_n (fun k => decide (0 < X k)) i))), (2, .int (nI i))] [] B Q := by
  obtain ⟨e1, ⟨h9, e2, e3⟩, e4, e5⟩ := id H
  intro v
  induction v with
  | zero =>
    intro i h9i B y1
    have h9e : i = 6 := by omega
    subst h9e
    refine xx_clv (lv2 := [(0, .ref s), (1, .int (nI (yb_n (fun k => decide (0 < X k)) 6))), (2, .int 6)]) rfl ?_
    refine xx_iload_n dX7_bits_4 rfl ?_
    refine xx_bipush (v := 6) dX7_bits_5 (by decide) ?_
    refine xx_icmp_ge (tgt := 34) dX7_bits_7 (by decide) (fun j7 => ?_) (fun h => absurd (by decide) h)
    refine xx_less [1] ?_
    refine xx_clv (lv2 := [(1, .int (nI (yb_n (fun k => decide (0 < X k)) 6)))]) rfl ?_
    exact k B y1
  | succ v ih =>
    intro i h9i B y1
    rw [y1]
    obtain ⟨f9, l9, bo, _⟩ := id (e4 i (by omega))
    refine xx_iload_n dX7_bits_4 rfl ?_
    refine xx_bipush (v := 6) dX7_bits_5 (by decide) ?_
    refine xx_icmp_ge (tgt := 34) dX7_bits_7 (by decide) (fun h => absurd h (nI_ge (a := i) (b := 6) (by omega) (by omega))) (fun j7 => ?_)
    refine xx_aload_n dX7_bits_10 rfl ?_
    refine xx_get xx_c7 dX7_bits_11 wf_X7_13 (j := 0) (by decide) e1 rfl ?_
    refine xx_iload_n dX7_bits_14 rfl ?_
    refine xx_aald (kd := 10) (b := s + 2 + 2 * i) dX7_bits_15 (by decide) rfl e2 (vp_in_nI (by omega) (by decide)) (by rw [nI_clamp (by omega)]; exact e3 _ (by omega)) ?_
    refine xx_get xx_c0 dX7_bits_16 wf_X7_33 (j := 0) (by decide) bo rfl ?_
    refine xx_if_le (tgt := 28) dX7_bits_19 (by decide) (fun j19 => ?_) (fun j19 => ?_)
    · have ee : yb_n (fun k => decide (0 < X k)) (i + 1) = yb_n (fun k => decide (0 < X k)) i := yb_s0 (fun h => (yb_sgp _).mp j19 (of_decide_eq_true h))
      rw [← ee]
      refine xx_iinc (v := nI (i + 1)) dX7_bits_28 rfl (nI_1 i) (by decide) ?_
      refine xx_clv (lv2 := [(0, .ref s), (1, .int (nI (yb_n (fun k => decide (0 < X k)) (i + 1)))), (2, .int (nI (i + 1)))]) rfl ?_
      refine xx_goto (tgt := 4) dX7_bits_31 (by decide) ?_
      refine xx_less [0, 1, 2] ?_
      refine xx_clv (lv2 := [(0, .ref s), (1, .int (nI (yb_n (fun k => decide (0 < X k)) (i + 1)))), (2, .int (nI (i + 1)))]) rfl ?_
      refine ih (i + 1) (by omega) A rfl
    · refine xx_iload_n dX7_bits_22 rfl ?_
      refine xx_iconst (v := 1) dX7_bits_23 (by decide) ?_
      refine xx_iload_n dX7_bits_24 rfl ?_
      refine xx_ishl dX7_bits_25 ?_
      refine xx_ior dX7_bits_26 ?_
      refine xx_eqi (y := nI (yb_n (fun k => decide (0 < X k)) (i + 1))) (by rw [yb_or (by omega) (yb_lt _ i), yb_s1 (decide_eq_true (Classical.byContradiction (fun h => j19 ((yb_sgp _).mpr h))))]) ?_
      refine xx_istore_n dX7_bits_27 (by decide) ?_
      refine xx_clv (lv2 := [(0, .ref s), (1, .int (nI (yb_n (fun k => decide (0 < X k)) (i + 1)))), (2, .int (nI i))]) rfl ?_
      refine xx_iinc (v := nI (i + 1)) dX7_bits_28 rfl (nI_1 i) (by decide) ?_
      refine xx_clv (lv2 := [(0, .ref s), (1, .int (nI (yb_n (fun k => decide (0 < X k)) (i + 1)))), (2, .int (nI (i + 1)))]) rfl ?_
      refine xx_goto (tgt := 4) dX7_bits_31 (by decide) ?_
      refine xx_less [0, 1, 2] ?_
      refine xx_clv (lv2 := [(0, .ref s), (1, .int (nI (yb_n (fun k => decide (0 < X k)) (i + 1)))), (2, .int (nI (i + 1)))]) rfl ?_
      refine ih (i + 1) (by omega) A rfl
set_option maxRecDepth 100000 in
theorem c_X7_bits {G : xx_G} {l : Launch} {A : xx_H} {s : Nat} {X : Nat → Int} {t : Int} (H : xx_wt A s X t) : xx_X G l mX7_bits 0 0 0 0 (lv_args 0 [.ref s]) [] A (fun z B => z = .inl (some (.int (nI (yb_n (fun k => decide (0 < X k)) 6)))) ∧ B = A) := by
  refine xx_clv (lv2 := [(0, .ref s)]) rfl ?_
  refine xx_iconst (v := 0) dX7_bits_0 (by decide) ?_
  refine xx_istore_n dX7_bits_1 (by decide) ?_
  refine xx_clv (lv2 := [(0, .ref s), (1, .int 0)]) rfl ?_
  refine xx_iconst (v := 0) dX7_bits_2 (by decide) ?_
  refine xx_istore_n dX7_bits_3 (by decide) ?_
  refine xx_clv (lv2 := [(0, .ref s), (1, .int 0), (2, .int 0)]) rfl ?_
  refine xx_clv (lv2 := [(0, .ref s), (1, .int (nI (yb_n (fun k => decide (0 < X k)) 0))), (2, .int (nI 0))]) rfl ?_
  refine l_X7_bits H (fun B y1 => ?_) 6 0 (by omega) A rfl
  rw [y1]
  refine xx_iload_n dX7_bits_34 rfl ?_
  exact xx_iret dX7_bits_35 rfl ⟨rfl, rfl⟩
