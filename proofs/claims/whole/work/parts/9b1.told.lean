/-! ===== Told ===== -/
def yp_d (tb : Nat → Nat) : Nat → Nat
  | 0 => 1
  | n + 1 => yp_d tb n * tb n
theorem yp_d_p {tb : Nat → Nat} : ∀ {n : Nat}, (∀ k, k < n → 1 ≤ tb k) → 1 ≤ yp_d tb n
  | 0, _ => Nat.le_refl _
  | n + 1, h => Nat.mul_le_mul (yp_d_p (fun k hk => h k (by omega))) (h n (by omega))
theorem yp_d_b {tb : Nat → Nat} : ∀ {n : Nat}, (∀ k, k < n → tb k ≤ 999) → yp_d tb n ≤ 999 ^ n
  | 0, _ => Nat.le_refl _
  | n + 1, h => by rw [Nat.pow_succ]; exact Nat.mul_le_mul (yp_d_b (fun k hk => h k (by omega))) (h n (by omega))
theorem yp_d_cg {tb tc : Nat → Nat} : ∀ {n : Nat}, (∀ k, k < n → tb k = tc k) → yp_d tb n = yp_d tc n
  | 0, _ => rfl
  | n + 1, h => by
    show yp_d tb n * tb n = yp_d tc n * tc n
    rw [yp_d_cg (fun k hk => h k (by omega)), h n (by omega)]
/-- all but one -/
def yp_o (tb : Nat → Nat) (i n : Nat) : Nat := yp_d (fun j => if j = i then 1 else tb j) n
theorem yp_o_m {tb : Nat → Nat} {i : Nat} : ∀ {n : Nat}, i < n → yp_d tb n = yp_o tb i n * tb i
  | 0, h => absurd h (Nat.not_lt_zero i)
  | n + 1, h => by
    show yp_d tb n * tb n = yp_o tb i n * (if n = i then 1 else tb n) * tb i
    by_cases e : n = i
    · subst e
      rw [if_pos rfl, Nat.mul_one]
      congr 1
      exact yp_d_cg (fun k hk => (if_neg (by omega)).symm)
    · rw [if_neg e, yp_o_m (i := i) (n := n) (by omega), Nat.mul_right_comm]
theorem yp_o_b {tb : Nat → Nat} {i n : Nat} (hi : i < n) (h : ∀ k, k < n → tb k ≤ 999) : yp_o tb i n * 999 ≤ 999 ^ n := by
  have e := yp_o_m (tb := fun j => if j = i then 999 else tb j) hi
  have e : yp_d (fun j => if j = i then 999 else tb j) n = yp_o (fun j => if j = i then 999 else tb j) i n * (if i = i then 999 else tb i) := e
  rw [if_pos rfl] at e
  have e2 : yp_o (fun j => if j = i then 999 else tb j) i n = yp_o tb i n := yp_d_cg (fun k _ => by
    show (if k = i then 1 else if k = i then 999 else tb k) = if k = i then 1 else tb k
    split
    · rfl
    · rfl)
  rw [← e2, ← e]
  exact yp_d_b (fun k hk => by
    show (if k = i then 999 else tb k) ≤ 999
    split
    · exact Nat.le_refl _
    · exact h k hk)
/-- a weight's share of all denominators' product -/
def yp_s (ta tb : Nat → Nat) (i : Nat) : Nat := ta i * (yp_d tb 6 / tb i)
theorem yp_s_q {tb : Nat → Nat} {i : Nat} (hi : i < 6) (h1 : 1 ≤ tb i) : yp_d tb 6 / tb i = yp_o tb i 6 := by rw [yp_o_m hi]; exact Nat.mul_div_cancel _ h1
theorem yp_s_b {ta tb : Nat → Nat} {i : Nat} (hi : i < 6) (h : ∀ k, k < 6 → ta k ≤ 999 ∧ 1 ≤ tb k ∧ tb k ≤ 999) : yp_s ta tb i < 2 ^ 60 := by
  unfold yp_s
  rw [yp_s_q hi (h i hi).2.1, Nat.mul_comm]
  exact Nat.lt_of_le_of_lt (Nat.mul_le_mul_left _ (h i hi).1) (Nat.lt_of_le_of_lt (yp_o_b hi (fun k hk => (h k hk).2.2)) (by decide))
/-- a Told at p -/
def xx_tdl (B : xx_H) (p : Nat) (ta tb : Nat → Nat) : Prop := B.2 p = xx_o 6 [.ref (p + 1), .ref (p + 2)] ∧ (∃ f, B.2 (p + 1) = xx_i 6 f ∧ ∀ k, k < 6 → f k = nI (ta k)) ∧ (∃ f, B.2 (p + 2) = xx_i 6 f ∧ ∀ k, k < 6 → f k = nI (tb k)) ∧ ∀ k, k < 6 → ta k ≤ 999 ∧ 1 ≤ tb k ∧ tb k ≤ 999
theorem xx_tdl.to {B C : xx_H} {p : Nat} {ta tb : Nat → Nat} (h : xx_tdl B p ta tb) (hq : ∀ q, p ≤ q → q < p + 3 → C.2 q = B.2 q) : xx_tdl C p ta tb := by
  obtain ⟨a1, ⟨f, a2, a3⟩, ⟨g, a4, a5⟩, a6⟩ := h
  exact ⟨(hq _ (by omega) (by omega)).trans a1, ⟨f, (hq _ (by omega) (by omega)).trans a2, a3⟩, ⟨g, (hq _ (by omega) (by omega)).trans a4, a5⟩, a6⟩
def yy_u2 (f : Nat → Nat) (i v : Nat) : Nat → Nat := fun k => if k = i then v else f k
theorem xx_mth6max : xx_mth RX6 44 Lib.Math.max.name Lib.Math.max.code 2 := ⟨wm_X6_44, wq_s_max, wq_z, wq_c_max⟩
set_option maxRecDepth 100000 in
theorem c_X6_put {G : xx_G} {l : Launch} {A : xx_H} {p : Nat} {ta tb : Nat → Nat} {i x y : Nat} (H : xx_tdl A p ta tb) (hi : i < 6) (hx : x ≤ 999) (hy1 : 1 ≤ y) (hy : y ≤ 999) : xx_X G l mX6_put 0 0 0 0 (lv_args 0 [.ref p, .int (nI i), .int (nI x), .int (nI y)]) [] A (fun z B => z = .inl none ∧ B.1 = A.1 ∧ xx_tdl B p (yy_u2 ta i x) (yy_u2 tb i y) ∧ ∀ q, q ≠ p + 1 → q ≠ p + 2 → B.2 q = A.2 q) := by
  obtain ⟨e1, ⟨fa, e2, e3⟩, ⟨fb, e4, e5⟩, e6⟩ := id H
  refine xx_clv (lv2 := [(0, .ref p), (1, .int (nI i)), (2, .int (nI x)), (3, .int (nI y))]) rfl ?_
  refine xx_aload_n dX6_put_0 rfl ?_
  refine xx_get xx_c6 dX6_put_1 wf_X6_9 (j := 0) (by decide) e1 rfl ?_
  refine xx_iload_n dX6_put_4 rfl ?_
  refine xx_iload_n dX6_put_5 rfl ?_
  refine xx_iast dX6_put_6 e2 (vp_in_nI (by omega) (by decide)) (xx_gu fun Eq1 zq1 hq1 oq1 => ?_)
  rw [nI_clamp (by omega)] at hq1
  have e1_2 := (oq1 p (by omega)).trans e1
  have e4_2 := (oq1 (p + 2) (by omega)).trans e4
  refine xx_aload_n dX6_put_7 rfl ?_
  refine xx_get xx_c6 dX6_put_8 wf_X6_15 (j := 1) (by decide) e1_2 rfl ?_
  refine xx_iload_n dX6_put_11 rfl ?_
  refine xx_iload_n dX6_put_12 rfl ?_
  refine xx_iast dX6_put_13 e4_2 (vp_in_nI (by omega) (by decide)) (xx_gu fun Eq2 zq2 hq2 oq2 => ?_)
  rw [nI_clamp (by omega)] at hq2
  refine xx_vret dX6_put_14 rfl ⟨rfl, by omega, ⟨(oq2 p (by omega)).trans e1_2, ⟨_, (oq2 (p + 1) (by omega)).trans hq1, fun k hk => ?_⟩, ⟨_, hq2, fun k hk => ?_⟩, fun k hk => ?_⟩, fun q a b => (oq2 q b).trans (oq1 q a)⟩
  · unfold yy_u2
    by_cases z : k = i
    · rw [if_pos z, z]; rw [pk_us]
    · rw [if_neg z]; rw [pk_un z]; exact e3 k hk
  · unfold yy_u2
    by_cases z : k = i
    · rw [if_pos z, z]; rw [pk_us]
    · rw [if_neg z]; rw [pk_un z]; exact e5 k hk
  · have := e6 k hk
    unfold yy_u2
    by_cases z : k = i
    · rw [if_pos z, if_pos z]; omega
    · rw [if_neg z, if_neg z]; exact this
set_option maxRecDepth 100000 in
theorem l_X6_den {G : xx_G} {l : Launch} {A : xx_H} {p : Nat} {ta tb : Nat → Nat} {Q : Option Value ⊕ String → xx_H → Prop} (H : xx_tdl A p ta tb) (k : ∀ (B : xx_H), (B = A) → xx_X G l mX6_denominator 0 0 0 26 [(1, .long (lN (yp_d tb 6)))] [] B Q) :
    ∀ (v i : Nat), i + v = 6 → ∀ (B : xx_H), (B = A) → xx_X G l mX6_denominator 0 0 0 4 [(0, .ref p), (1, .long (lN (yp_d tb i))), (3, .int (nI i))] [] B Q := by
  obtain ⟨e1, ⟨fa, e2, e3⟩, ⟨fb, e4, e5⟩, e6⟩ := id H
  intro v
  induction v with
  | zero =>
    intro i h9i B y1
    have h9e : i = 6 := by omega
    subst h9e
    refine xx_clv (lv2 := [(0, .ref p), (1, .long (lN (yp_d tb 6))), (3, .int 6)]) rfl ?_
    refine xx_iload_n dX6_denominator_4 rfl ?_
    refine xx_bipush (v := 6) dX6_denominator_5 (by decide) ?_
    refine xx_icmp_ge (tgt := 26) dX6_denominator_7 (by decide) (fun j7 => ?_) (fun h => absurd (by decide) h)
    refine xx_less [1] ?_
    refine xx_clv (lv2 := [(1, .long (lN (yp_d tb 6)))]) rfl ?_
    exact k B y1
  | succ v ih =>
    intro i h9i B y1
    rw [y1]
    have t9 := e6 i (by omega)
    refine xx_iload_n dX6_denominator_4 rfl ?_
    refine xx_bipush (v := 6) dX6_denominator_5 (by decide) ?_
    refine xx_icmp_ge (tgt := 26) dX6_denominator_7 (by decide) (fun h => absurd h (nI_ge (a := i) (b := 6) (by omega) (by omega))) (fun j7 => ?_)
    refine xx_lload_n dX6_denominator_10 rfl ?_
    refine xx_aload_n dX6_denominator_11 rfl ?_
    refine xx_get xx_c6 dX6_denominator_12 wf_X6_15 (j := 1) (by decide) e1 rfl ?_
    refine xx_iload_n dX6_denominator_15 rfl ?_
    refine xx_iald dX6_denominator_16 e4 (vp_in_nI (by omega) (by decide)) ?_
    refine xx_eqi (y := nI (tb i)) (by rw [nI_clamp (by omega)]; exact e5 i (by omega)) ?_
    refine xx_i2l dX6_denominator_17 ?_
    refine xx_eql (y := lN (tb i)) (nI_l (by omega)) ?_
    refine xx_lmul dX6_denominator_18 ?_
    refine xx_eql (y := lN ((yp_d tb i) * (tb i))) (lN_mul (yp_d tb i) (tb i)) ?_
    refine xx_lstore_n dX6_denominator_19 (by decide) ?_
    refine xx_clv (lv2 := [(0, .ref p), (1, .long (lN ((yp_d tb i) * (tb i)))), (3, .int (nI i))]) rfl ?_
    refine xx_iinc (v := nI (i + 1)) dX6_denominator_20 rfl (nI_1 i) (by decide) ?_
    refine xx_clv (lv2 := [(0, .ref p), (1, .long (lN ((yp_d tb i) * (tb i)))), (3, .int (nI (i + 1)))]) rfl ?_
    refine xx_goto (tgt := 4) dX6_denominator_23 (by decide) ?_
    refine xx_less [0, 1, 3] ?_
    refine xx_clv (lv2 := [(0, .ref p), (1, .long (lN (yp_d tb (i + 1)))), (3, .int (nI (i + 1)))]) rfl ?_
    refine ih (i + 1) (by omega) A rfl
set_option maxRecDepth 100000 in
theorem c_X6_den {G : xx_G} {l : Launch} {A : xx_H} {p : Nat} {ta tb : Nat → Nat} (H : xx_tdl A p ta tb) : xx_X G l mX6_denominator 0 0 0 0 (lv_args 0 [.ref p]) [] A (fun z B => z = .inl (some (.long (lN (yp_d tb 6)))) ∧ B = A) := by
  refine xx_clv (lv2 := [(0, .ref p)]) rfl ?_
  refine xx_lconst (v := 1) dX6_denominator_0 (by decide) ?_
  refine xx_lstore_n dX6_denominator_1 (by decide) ?_
  refine xx_clv (lv2 := [(0, .ref p), (1, .long 1)]) rfl ?_
  refine xx_iconst (v := 0) dX6_denominator_2 (by decide) ?_
  refine xx_istore_n dX6_denominator_3 (by decide) ?_
  refine xx_clv (lv2 := [(0, .ref p), (1, .long 1), (3, .int 0)]) rfl ?_
  refine xx_clv (lv2 := [(0, .ref p), (1, .long (lN (yp_d tb 0))), (3, .int (nI 0))]) rfl ?_
  refine l_X6_den H (fun B y1 => ?_) 6 0 (by omega) A rfl
  rw [y1]
  refine xx_lload_n dX6_denominator_26 rfl ?_
  exact xx_lret dX6_denominator_27 rfl ⟨rfl, rfl⟩
set_option maxRecDepth 100000 in
theorem c_X6_share {G : xx_G} {l : Launch} {A : xx_H} {p : Nat} {ta tb : Nat → Nat} {i : Nat} (H : xx_tdl A p ta tb) (hi : i < 6) : xx_X G l mX6_share 1 0 0 0 (lv_args 0 [.ref p, .int (nI i)]) [] A (fun z B => z = .inl (some (.long (lN (yp_s ta tb i)))) ∧ B = A) := by
  obtain ⟨e1, ⟨fa, e2, e3⟩, ⟨fb, e4, e5⟩, e6⟩ := id H
  have t9 := e6 i hi
  have d9 : yp_d tb 6 < 2 ^ 60 := Nat.lt_of_le_of_lt (yp_d_b (fun k hk => (e6 k hk).2.2)) (by decide)
  refine xx_clv (lv2 := [(0, .ref p), (1, .int (nI i))]) rfl ?_
  refine xx_aload_n dX6_share_0 rfl ?_
  refine xx_get xx_c6 dX6_share_1 wf_X6_9 (j := 0) (by decide) e1 rfl ?_
  refine xx_iload_n dX6_share_4 rfl ?_
  refine xx_iald dX6_share_5 e2 (vp_in_nI (by omega) (by decide)) ?_
  refine xx_eqi (y := nI (ta i)) (by rw [nI_clamp (by omega)]; exact e3 i hi) ?_
  refine xx_i2l dX6_share_6 ?_
  refine xx_eql (y := lN (ta i)) (nI_l (by omega)) ?_
  refine xx_aload_n dX6_share_7 rfl ?_
  refine xx_callV (N := mX6_denominator) (vs := []) (b := p) (rest := [.long (lN (ta i))]) (d2 := 0) (c2 := 0) (s2 := 0) (c3 := 0) (s3 := 0) dX6_share_8 wm_X6_28 wi_X6_denominator wv_X6_denominator (k := 6) rfl (by decide) e1 nX6_denominator ⟨pX6_denominator, Nat.le_of_ble_eq_true rfl, by decide, Nat.le_of_ble_eq_true rfl, by decide, by decide⟩ (c_X6_den H) (fun v9 B9 hC => ?_) (fun E9 B9 hC => absurd hC.1 (by simp))
  obtain ⟨hv9, e9⟩ := hC
  cases hv9
  refine xx_cst (st2 := [.long (lN (yp_d tb 6)), .long (lN (ta i))]) rfl ?_
  rw [e9]
  refine xx_iconst (v := 1) dX6_share_11 (by decide) ?_
  refine xx_aload_n dX6_share_12 rfl ?_
  refine xx_get xx_c6 dX6_share_13 wf_X6_15 (j := 1) (by decide) e1 rfl ?_
  refine xx_iload_n dX6_share_16 rfl ?_
  refine xx_iald dX6_share_17 e4 (vp_in_nI (by omega) (by decide)) ?_
  refine xx_eqi (y := nI (tb i)) (by rw [nI_clamp (by omega)]; exact e5 i hi) ?_
  refine xx_mmax dX6_share_18 xx_mth6max (by decide) (Nat.le_of_ble_eq_true rfl) ?_
  refine xx_eqi (y := nI (tb i)) (by rw [← nI_ofl1, nI_max (by decide) (by omega)]; unfold yy_max; congr 1; split <;> omega) ?_
  refine xx_i2l dX6_share_21 ?_
  refine xx_eql (y := lN (tb i)) (nI_l (by omega)) ?_
  refine xx_ldiv dX6_share_22 (yy_lne0 (n := tb i) (by omega) (by omega)) ?_
  refine xx_eql (y := lN ((yp_d tb 6) / (tb i))) (pk_lDiv (by omega) (by omega) (by omega)) ?_
  refine xx_lmul dX6_share_23 ?_
  refine xx_eql (y := lN ((ta i) * ((yp_d tb 6) / (tb i)))) (lN_mul (ta i) ((yp_d tb 6) / (tb i))) ?_
  exact xx_lret dX6_share_24 rfl ⟨rfl, rfl⟩
def yp_t (ta tb : Nat → Nat) : Nat → Nat
  | 0 => 0
  | n + 1 => yp_t ta tb n + yp_s ta tb n
theorem yp_t_b {ta tb : Nat → Nat} (h : ∀ k, k < 6 → ta k ≤ 999 ∧ 1 ≤ tb k ∧ tb k ≤ 999) : ∀ n, n ≤ 6 → yp_t ta tb n ≤ n * 2 ^ 60
  | 0, _ => by show 0 ≤ _; omega
  | n + 1, hn => by
    have h1 := yp_t_b h n (by omega)
    have h2 := yp_s_b (ta := ta) (tb := tb) (i := n) (by omega) h
    show yp_t ta tb n + yp_s ta tb n ≤ _
    omega
set_option maxRecDepth 100000 in
theorem l_X6_one {G : xx_G} {l : Launch} {A : xx_H} {p : Nat} {ta tb : Nat → Nat} {Q : Option Value ⊕ String → xx_H → Prop} (H : xx_tdl A p ta tb) (k : ∀ (B : xx_H), (B = A) → xx_X G l mX6_isOne 2 0 0 24 [(0, .ref p), (1, .long (lN (yp_t ta tb 6)))] [] B Q) :
    ∀ (v i : Nat), i + v = 6 → ∀ (B : xx_H), (B = A) → xx_X G l mX6_isOne 2 0 0 4 [(0, .ref p), (1, .long (lN (yp_t ta tb i))), (3, .int (nI i))] [] B Q := by
  obtain ⟨e1, ⟨fa, e2, e3⟩, ⟨fb, e4, e5⟩, e6⟩ := id H
  intro v
  induction v with
  | zero =>
    intro i h9i B y1
    have h9e : i = 6 := by omega
    subst h9e
    refine xx_clv (lv2 := [(0, .ref p), (1, .long (lN (yp_t ta tb 6))), (3, .int 6)]) rfl ?_
    refine xx_iload_n dX6_isOne_4 rfl ?_
    refine xx_bipush (v := 6) dX6_isOne_5 (by decide) ?_
    refine xx_icmp_ge (tgt := 24) dX6_isOne_7 (by decide) (fun j7 => ?_) (fun h => absurd (by decide) h)
    refine xx_less [0, 1] ?_
    refine xx_clv (lv2 := [(0, .ref p), (1, .long (lN (yp_t ta tb 6)))]) rfl ?_
    exact k B y1
  | succ v ih =>
    intro i h9i B y1
    rw [y1]
    refine xx_iload_n dX6_isOne_4 rfl ?_
    refine xx_bipush (v := 6) dX6_isOne_5 (by decide) ?_
    refine xx_icmp_ge (tgt := 24) dX6_isOne_7 (by decide) (fun h => absurd h (nI_ge (a := i) (b := 6) (by omega) (by omega))) (fun j7 => ?_)
    refine xx_lload_n dX6_isOne_10 rfl ?_
    refine xx_aload_n dX6_isOne_11 rfl ?_
    refine xx_iload_n dX6_isOne_12 rfl ?_
    refine xx_callV (N := mX6_share) (vs := [.int (nI i)]) (b := p) (rest := [.long (lN (yp_t ta tb i))]) (d2 := 1) (c2 := 0) (s2 := 0) (c3 := 0) (s3 := 0) dX6_isOne_13 wm_X6_24 wi_X6_share wv_X6_share (k := 6) rfl (by decide) e1 nX6_share ⟨pX6_share, Nat.le_of_ble_eq_true rfl, by decide, Nat.le_of_ble_eq_true rfl, by decide, by decide⟩ (c_X6_share H (show i < 6 by omega)) (fun v9 B9 hC => ?_) (fun E9 B9 hC => absurd hC.1 (by simp))
    obtain ⟨hv9, e9⟩ := hC
    cases hv9
    refine xx_cst (st2 := [.long (lN (yp_s ta tb i)), .long (lN (yp_t ta tb i))]) rfl ?_
    rw [e9]
    refine xx_ladd dX6_isOne_16 ?_
    refine xx_eql (y := lN (yp_t ta tb i + (yp_s ta tb i))) (lN_add (yp_t ta tb i) (yp_s ta tb i)) ?_
    refine xx_lstore_n dX6_isOne_17 (by decide) ?_
    refine xx_clv (lv2 := [(0, .ref p), (1, .long (lN (yp_t ta tb i + (yp_s ta tb i)))), (3, .int (nI i))]) rfl ?_
    refine xx_iinc (v := nI (i + 1)) dX6_isOne_18 rfl (nI_1 i) (by decide) ?_
    refine xx_clv (lv2 := [(0, .ref p), (1, .long (lN (yp_t ta tb i + (yp_s ta tb i)))), (3, .int (nI (i + 1)))]) rfl ?_
    refine xx_goto (tgt := 4) dX6_isOne_21 (by decide) ?_
    refine xx_less [0, 1, 3] ?_
    refine xx_clv (lv2 := [(0, .ref p), (1, .long (lN (yp_t ta tb (i + 1)))), (3, .int (nI (i + 1)))]) rfl ?_
    refine ih (i + 1) (by omega) A rfl
set_option maxRecDepth 100000 in
theorem c_X6_isOne {G : xx_G} {l : Launch} {A : xx_H} {p : Nat} {ta tb : Nat → Nat} (H : xx_tdl A p ta tb) : xx_X G l mX6_isOne 2 0 0 0 (lv_args 0 [.ref p]) [] A (fun z B => z = .inl (some (.int (if yp_t ta tb 6 = yp_d tb 6 then 1 else 0))) ∧ B = A) := by
  obtain ⟨e1, ⟨fa, e2, e3⟩, ⟨fb, e4, e5⟩, e6⟩ := id H
  have t9 := yp_t_b e6 6 (Nat.le_refl _)
  have d9 : yp_d tb 6 < 2 ^ 60 := Nat.lt_of_le_of_lt (yp_d_b (fun k hk => (e6 k hk).2.2)) (by decide)
  refine xx_clv (lv2 := [(0, .ref p)]) rfl ?_
  refine xx_lconst (v := 0) dX6_isOne_0 (by decide) ?_
  refine xx_lstore_n dX6_isOne_1 (by decide) ?_
  refine xx_clv (lv2 := [(0, .ref p), (1, .long 0)]) rfl ?_
  refine xx_iconst (v := 0) dX6_isOne_2 (by decide) ?_
  refine xx_istore_n dX6_isOne_3 (by decide) ?_
  refine xx_clv (lv2 := [(0, .ref p), (1, .long 0), (3, .int 0)]) rfl ?_
  refine xx_clv (lv2 := [(0, .ref p), (1, .long (lN (yp_t ta tb 0))), (3, .int (nI 0))]) rfl ?_
  refine l_X6_one H (fun B y1 => ?_) 6 0 (by omega) A rfl
  rw [y1]
  refine xx_lload_n dX6_isOne_24 rfl ?_
  refine xx_aload_n dX6_isOne_25 rfl ?_
  refine xx_callV (N := mX6_denominator) (vs := []) (b := p) (rest := [.long (lN (yp_t ta tb 6))]) (d2 := 0) (c2 := 0) (s2 := 0) (c3 := 0) (s3 := 0) dX6_isOne_26 wm_X6_28 wi_X6_denominator wv_X6_denominator (k := 6) rfl (by decide) e1 nX6_denominator ⟨pX6_denominator, Nat.le_of_ble_eq_true rfl, by decide, Nat.le_of_ble_eq_true rfl, by decide, by decide⟩ (c_X6_den H) (fun v9 B9 hC => ?_) (fun E9 B9 hC => absurd hC.1 (by simp))
  obtain ⟨hv9, e9⟩ := hC
  cases hv9
  refine xx_cst (st2 := [.long (lN (yp_d tb 6)), .long (lN (yp_t ta tb 6))]) rfl ?_
  rw [e9]
  refine xx_lcmp dX6_isOne_29 ?_
  refine xx_if_ne (tgt := 37) dX6_isOne_30 (by decide) (fun j30 => ?_) (fun j30 => ?_)
  · have j30 : ¬ yp_t ta tb 6 = yp_d tb 6 := fun hq9 => j30 ((lg_cmp_eq _ _).mpr ((pk_lEQ (a := yp_t ta tb 6) (b := yp_d tb 6) (by omega) (by omega)).mpr hq9))
    refine xx_iconst (v := 0) dX6_isOne_37 (by decide) ?_
    exact xx_zret dX6_isOne_38 rfl rfl ⟨by rw [if_neg j30], rfl⟩
  · have j30 : yp_t ta tb 6 = yp_d tb 6 := (pk_lEQ (a := yp_t ta tb 6) (b := yp_d tb 6) (by omega) (by omega)).mp ((lg_cmp_eq _ _).mp j30)
    refine xx_iconst (v := 1) dX6_isOne_33 (by decide) ?_
    refine xx_goto (tgt := 38) dX6_isOne_34 (by decide) ?_
    exact xx_zret dX6_isOne_38 rfl rfl ⟨by rw [if_pos j30], rfl⟩
set_option maxRecDepth 100000 in
theorem l_X6_read {G : xx_G} {l : Launch} {A : xx_H} {p : Nat} {ta tb : Nat → Nat} {s : Nat} {t : Int} {Q : Option Value ⊕ String → xx_H → Prop} (H : xx_tdl A p ta tb) (dj : p + 3 ≤ s ∨ s + 16 ≤ p) (k : ∀ (B : xx_H) (Y : Nat → Int), (B.1 = A.1) → (xx_wt B s Y t) → (∀ k, k < 6 → Y k = (yp_s ta tb k : Int)) → (∀ q, (q < s ∨ s + 16 ≤ q) → B.2 q = A.2 q) → xx_X G l mX6_read 2 0 0 28 [(0, .ref p)] [] B Q) :
    ∀ (v i : Nat), i + v = 6 → ∀ (B : xx_H) (Y : Nat → Int), (B.1 = A.1) → (xx_wt B s Y t) → (∀ k, k < i → Y k = (yp_s ta tb k : Int)) → (∀ q, (q < s ∨ s + 16 ≤ q) → B.2 q = A.2 q) → xx_X G l mX6_read 2 0 0 2 [(0, .ref p), (1, .ref s), (2, .int (nI i))] [] B Q := by
  obtain ⟨e1, ⟨fa, e2, e3⟩, ⟨fb, e4, e5⟩, e6⟩ := id H
  intro v
  induction v with
  | zero =>
    intro i h9i B Y y1 W y3 y4
    have h9e : i = 6 := by omega
    subst h9e
    refine xx_clv (lv2 := [(0, .ref p), (1, .ref s), (2, .int 6)]) rfl ?_
    refine xx_iload_n dX6_read_2 rfl ?_
    refine xx_bipush (v := 6) dX6_read_3 (by decide) ?_
    refine xx_icmp_ge (tgt := 28) dX6_read_5 (by decide) (fun j5 => ?_) (fun h => absurd (by decide) h)
    refine xx_less [0] ?_
    refine xx_clv (lv2 := [(0, .ref p)]) rfl ?_
    exact k B Y y1 W y3 y4
  | succ v ih =>
    intro i h9i B Y y1 W y3 y4
    obtain ⟨w1, ⟨h9, w2, w3⟩, w4, w5⟩ := id W
    obtain ⟨f9, l9, bo, _⟩ := id (w4 i (by omega))
    have H2 := H.to (C := B) (fun q a b => y4 q (by omega))
    have e1b := H2.1
    have b9 := yp_s_b (ta := ta) (tb := tb) (i := i) (by omega) e6
    refine xx_iload_n dX6_read_2 rfl ?_
    refine xx_bipush (v := 6) dX6_read_3 (by decide) ?_
    refine xx_icmp_ge (tgt := 28) dX6_read_5 (by decide) (fun h => absurd h (nI_ge (a := i) (b := 6) (by omega) (by omega))) (fun j5 => ?_)
    refine xx_aload_n dX6_read_8 rfl ?_
    refine xx_get xx_c7 dX6_read_9 wf_X6_32 (j := 0) (by decide) w1 rfl ?_
    refine xx_iload_n dX6_read_12 rfl ?_
    refine xx_aald (kd := 10) (b := s + 2 + 2 * i) dX6_read_13 (by decide) rfl w2 (vp_in_nI (by omega) (by decide)) (by rw [nI_clamp (by omega)]; exact w3 _ (by omega)) ?_
    refine xx_aload_n dX6_read_14 rfl ?_
    refine xx_iload_n dX6_read_15 rfl ?_
    refine xx_callV (N := mX6_share) (vs := [.int (nI i)]) (b := p) (rest := [.ref (s + 2 + 2 * i)]) (d2 := 1) (c2 := 0) (s2 := 0) (c3 := 0) (s3 := 0) dX6_read_16 wm_X6_24 wi_X6_share wv_X6_share (k := 6) rfl (by decide) e1b nX6_share ⟨pX6_share, Nat.le_of_ble_eq_true rfl, by decide, Nat.le_of_ble_eq_true rfl, by decide, by decide⟩ (c_X6_share H2 (show i < 6 by omega)) (fun v9 B9 hC => ?_) (fun E9 B9 hC => absurd hC.1 (by simp))
    obtain ⟨hv9, e9⟩ := hC
    cases hv9
    refine xx_cst (st2 := [.long (lz (yp_s ta tb i : Int)), .ref (s + 2 + 2 * i)]) rfl ?_
    rw [e9]
    refine xx_callV (N := mX0_setTo) (vs := [.long (lz (yp_s ta tb i : Int))]) (b := (s + 2 + 2 * i)) (rest := []) (d2 := 1) (c2 := 0) (s2 := 0) (c3 := 0) (s3 := 0) dX6_read_19 wm_X6_38 wi_X0_setTo wv_X0_setTo (k := 0) rfl (by decide) bo nX0_setTo ⟨pX0_setTo, Nat.le_of_ble_eq_true rfl, by decide, Nat.le_of_ble_eq_true rfl, by decide, by decide⟩ (c_setTo (v := (yp_s ta tb i : Int)) (w4 i (by omega)) (by omega) (by omega)) (fun v9 D hC => ?_) (fun E9 B9 hC => absurd hC.1 (by simp))
    obtain ⟨hv8, k1, k2, k3⟩ := hC
    cases hv8
    refine xx_cst (st2 := []) rfl ?_
    refine xx_iinc (v := nI (i + 1)) dX6_read_22 rfl (nI_1 i) (by decide) ?_
    refine xx_clv (lv2 := [(0, .ref p), (1, .ref s), (2, .int (nI (i + 1)))]) rfl ?_
    refine xx_goto (tgt := 2) dX6_read_25 (by decide) ?_
    refine xx_less [0, 1, 2] ?_
    refine xx_clv (lv2 := [(0, .ref p), (1, .ref s), (2, .int (nI (i + 1)))]) rfl ?_
    refine ih (i + 1) (by omega) D _ (by omega) (W.put (by omega) k2 k3) (fun k hk => ?_) (fun q hq => (k3 q (by omega) (by omega)).trans (y4 q hq))
    by_cases e : k = i
    · rw [e, yy_un_s]
    · rw [yy_un_n e]; exact y3 k (by omega)
set_option maxRecDepth 100000 in
theorem c_X6_read {G : xx_G} {l : Launch} {A : xx_H} {p : Nat} {ta tb : Nat → Nat} {s : Nat} {t : Int} {X : Nat → Int} (H : xx_tdl A p ta tb) (W : xx_wt A s X t) (dj : p + 3 ≤ s ∨ s + 16 ≤ p) : xx_X G l mX6_read 2 0 0 0 (lv_args 0 [.ref p, .ref s]) [] A (fun z B => z = .inl none ∧ B.1 = A.1 ∧ xx_wt B s (fun k => (yp_s ta tb k : Int)) t ∧ ∀ q, (q < s ∨ s + 16 ≤ q) → B.2 q = A.2 q) := by
  refine xx_clv (lv2 := [(0, .ref p), (1, .ref s)]) rfl ?_
  refine xx_iconst (v := 0) dX6_read_0 (by decide) ?_
  refine xx_istore_n dX6_read_1 (by decide) ?_
  refine xx_clv (lv2 := [(0, .ref p), (1, .ref s), (2, .int 0)]) rfl ?_
  refine xx_clv (lv2 := [(0, .ref p), (1, .ref s), (2, .int (nI 0))]) rfl ?_
  refine l_X6_read (t := t) H dj (fun B Y y1 W2 y3 y4 => ?_) 6 0 (by omega) A X rfl W (fun k hk => absurd hk (Nat.not_lt_zero k)) (fun q _ => rfl)
  exact xx_vret dX6_read_28 rfl ⟨rfl, y1, W2.cg y3, y4⟩
