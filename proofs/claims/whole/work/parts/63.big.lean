/-! ===== Big: what it holds ===== -/
abbrev yB : Nat := 2147483648
def yy_dig (f : Nat → Int32) (len n : Nat) : Prop := len ≤ 14 ∧ ∃ D : Nat → Nat, (∀ i, i < len → D i < yB ∧ f i = nI (D i)) ∧ (0 < len → D (len - 1) ≠ 0) ∧ n = yy_val yB D len
/-- the Big at a holds v, its digits lie behind it -/
def xx_bg (B : xx_H) (a : Nat) (v : Int) : Prop := ∃ (f : Nat → Int32) (len : Nat), B.2 a = xx_o 0 [.int (iz v.sign), .int (nI len), .ref (a + 1)] ∧ B.2 (a + 1) = xx_i 14 f ∧ yy_dig f len v.natAbs
theorem xx_bg.to {B C : xx_H} {a : Nat} {v : Int} (h : xx_bg B a v) (h1 : C.2 a = B.2 a) (h2 : C.2 (a + 1) = B.2 (a + 1)) : xx_bg C a v := by
  obtain ⟨f, len, g1, g2, g3⟩ := h
  exact ⟨f, len, h1.trans g1, h2.trans g2, g3⟩
theorem xx_zb.bg {B : xx_H} {a : Nat} (h : xx_zb B a) : xx_bg B a 0 := ⟨_, 0, h.1, h.2, Nat.zero_le _, fun _ => 0, fun i hi => absurd hi (Nat.not_lt_zero i), fun h => absurd h (Nat.lt_irrefl 0), rfl⟩
theorem yy_dig.lt {f : Nat → Int32} {len n : Nat} (h : yy_dig f len n) : n < yB ^ len := by
  obtain ⟨_, D, h1, _, rfl⟩ := h
  exact yy_val_lt (fun i hi => (h1 i hi).1)
theorem yy_dig.ge {f : Nat → Int32} {len n : Nat} (h : yy_dig f (len + 1) n) : yB ^ len ≤ n := by
  obtain ⟨_, D, h1, h2, rfl⟩ := h
  exact yy_val_top (h2 (Nat.succ_pos len))
theorem yy_dig.zero {f : Nat → Int32} {len : Nat} (h : yy_dig f len 0) : len = 0 := by
  cases len with
  | zero => rfl
  | succ k => have := h.ge; have := Nat.pow_pos (n := k) (show 0 < yB by decide); omega
theorem yy_dig.pos {f : Nat → Int32} {len n : Nat} (h : yy_dig f len n) (h0 : n ≠ 0) : 0 < len := by
  cases len with
  | zero => obtain ⟨_, D, _, _, e⟩ := h; exact absurd e h0
  | succ k => exact Nat.succ_pos k
/-- the k-th digit, 0 above -/
def yy_pad (D : Nat → Nat) (len : Nat) : Nat → Nat := fun i => if i < len then D i else 0
theorem yy_pad_val {β : Nat} {D : Nat → Nat} {len m : Nat} (h : len ≤ m) : yy_val β (yy_pad D len) m = yy_val β D len := by
  rw [yy_val_z (D := yy_pad D len) (n := len) h (fun i h1 _ => if_neg (by omega))]
  exact yy_val_ext (fun i hi => if_pos hi)
/-- the digits above one are the same, that one is smaller -/
theorem yy_val_cmp {D E : Nat → Nat} {i : Nat} : ∀ {n : Nat}, i < n → (∀ j, j ≤ i → D j < yB) → (∀ j, i < j → j < n → D j = E j) → D i < E i → yy_val yB D n < yy_val yB E n
  | 0, h, _, _, _ => absurd h (Nat.not_lt_zero i)
  | n + 1, h, hd, he, hl => by
    show yy_val yB D n + D n * yB ^ n < yy_val yB E n + E n * yB ^ n
    by_cases e : i = n
    · subst e
      have h1 := yy_val_lt (β := yB) (D := D) (n := i) (fun j hj => hd j (by omega))
      have h3 : (D i + 1) * yB ^ i ≤ E i * yB ^ i := Nat.mul_le_mul_right _ hl
      rw [Nat.add_mul, Nat.one_mul] at h3
      omega
    · have := yy_val_cmp (n := n) (by omega) hd (fun j h1 h2 => he j h1 (by omega)) hl
      rw [he n (by omega) (by omega)]
      omega
def yy_cmp (a b : Nat) : Int32 := if a < b then -1 else if a = b then 0 else 1
def yy_cmz (a b : Int) : Int32 := if a < b then -1 else if a = b then 0 else 1
set_option maxRecDepth 100000 in
theorem c_X0_clear {G : xx_G} {l : Launch} {A : xx_H} {b : Nat} {v : Int} (hb : xx_bg A b v) : xx_X G l mX0_clear 0 0 0 0 (lv_args 0 [.ref b]) [] A (fun r B => r = .inl none ∧ B.1 = A.1 ∧ xx_bg B b 0 ∧ ∀ q, q ≠ b → B.2 q = A.2 q) := by
  obtain ⟨f, len, g1, g2, g3⟩ := hb
  refine xx_clv (lv2 := [(0, .ref b)]) rfl ?_
  refine xx_aload_n dX0_clear_0 rfl ?_
  refine xx_iconst (v := 0) dX0_clear_1 (by decide) ?_
  refine xx_put xx_c0 dX0_clear_2 wf_X0_7 (j := 0) (by decide) rfl rfl rfl g1 (Nat.le_of_ble_eq_true rfl) (xx_gu fun A1 z1 h1 o1 => ?_)
  have h1 : A1.2 b = xx_o 0 [.int 0, .int (nI len), .ref (b + 1)] := h1
  have g2_1 := (o1 (b + 1) (by omega)).trans g2
  refine xx_aload_n dX0_clear_5 rfl ?_
  refine xx_iconst (v := 0) dX0_clear_6 (by decide) ?_
  refine xx_put xx_c0 dX0_clear_7 wf_X0_13 (j := 1) (by decide) rfl rfl rfl h1 (Nat.le_of_ble_eq_true rfl) (xx_gu fun A2 z2 h2 o2 => ?_)
  have h2 : A2.2 b = xx_o 0 [.int 0, .int 0, .ref (b + 1)] := h2
  have g2_2 := (o2 (b + 1) (by omega)).trans g2_1
  exact xx_vret dX0_clear_10 rfl ⟨rfl, by omega, ⟨f, 0, h2, g2_2, Nat.zero_le _, fun _ => 0, fun i hi => absurd hi (Nat.not_lt_zero i), fun h => absurd h (Nat.lt_irrefl 0), rfl⟩, fun q hq => by rw [o2 q hq, o1 q hq]⟩
theorem yy_sg_neg (v : Int) : -iz v.sign = iz (-v).sign := by
  rcases Int.lt_trichotomy v 0 with h | h | h
  · rw [Int.sign_eq_neg_one_of_neg h, Int.sign_eq_one_of_pos (by omega)]; decide
  · subst h; decide
  · rw [Int.sign_eq_one_of_pos h, Int.sign_eq_neg_one_of_neg (by omega)]; decide
set_option maxRecDepth 100000 in
theorem c_X0_turn {G : xx_G} {l : Launch} {A : xx_H} {b : Nat} {v : Int} (hb : xx_bg A b v) : xx_X G l mX0_turn 0 0 0 0 (lv_args 0 [.ref b]) [] A (fun r B => r = .inl none ∧ B.1 = A.1 ∧ xx_bg B b (-v) ∧ ∀ q, q ≠ b → B.2 q = A.2 q) := by
  obtain ⟨f, len, g1, g2, g3⟩ := hb
  refine xx_clv (lv2 := [(0, .ref b)]) rfl ?_
  refine xx_aload_n dX0_turn_0 rfl ?_
  refine xx_aload_n dX0_turn_1 rfl ?_
  refine xx_get xx_c0 dX0_turn_2 wf_X0_7 (j := 0) (by decide) g1 rfl ?_
  refine xx_ineg dX0_turn_5 ?_
  refine xx_put xx_c0 dX0_turn_6 wf_X0_7 (j := 0) (by decide) rfl rfl rfl g1 (Nat.le_of_ble_eq_true rfl) (xx_gu fun A1 z1 h1 o1 => ?_)
  have h1 : A1.2 b = xx_o 0 [.int (-((iz v.sign))), .int (nI len), .ref (b + 1)] := h1
  have g2_1 := (o1 (b + 1) (by omega)).trans g2
  exact xx_vret dX0_turn_9 rfl ⟨rfl, by omega, ⟨f, len, by rw [← yy_sg_neg]; exact h1, g2_1, by rw [Int.natAbs_neg]; exact g3⟩, fun q hq => by rw [o1 q hq]⟩
set_option maxRecDepth 100000 in
theorem c_X0_copy {G : xx_G} {l : Launch} {A : xx_H} {b x : Nat} {u v : Int} (hb : xx_bg A b u) (hx : xx_bg A x v) (n1 : x ≠ b) (n2 : x ≠ b + 1) (n3 : x + 1 ≠ b) : xx_X G l mX0_copy 1 0 0 0 (lv_args 0 [.ref b, .ref x]) [] A (fun r B => r = .inl none ∧ B.1 = A.1 ∧ xx_bg B b v ∧ ∀ q, q ≠ b → q ≠ b + 1 → B.2 q = A.2 q) := by
  obtain ⟨f, len, g1, g2, g3⟩ := hb
  obtain ⟨g, lex, k1, k2, k3⟩ := hx
  refine xx_clv (lv2 := [(0, .ref b), (1, .ref x)]) rfl ?_
  refine xx_aload_n dX0_copy_0 rfl ?_
  refine xx_aload_n dX0_copy_1 rfl ?_
  refine xx_get xx_c0 dX0_copy_2 wf_X0_7 (j := 0) (by decide) k1 rfl ?_
  refine xx_put xx_c0 dX0_copy_5 wf_X0_7 (j := 0) (by decide) rfl rfl rfl g1 (Nat.le_of_ble_eq_true rfl) (xx_gu fun A1 z1 h1 o1 => ?_)
  have h1 : A1.2 b = xx_o 0 [.int (iz v.sign), .int (nI len), .ref (b + 1)] := h1
  have g2_1 := (o1 (b + 1) (by omega)).trans g2
  have k1_1 := (o1 x (by omega)).trans k1
  have k2_1 := (o1 (x + 1) (by omega)).trans k2
  refine xx_aload_n dX0_copy_8 rfl ?_
  refine xx_aload_n dX0_copy_9 rfl ?_
  refine xx_get xx_c0 dX0_copy_10 wf_X0_13 (j := 1) (by decide) k1_1 rfl ?_
  refine xx_put xx_c0 dX0_copy_13 wf_X0_13 (j := 1) (by decide) rfl rfl rfl h1 (Nat.le_of_ble_eq_true rfl) (xx_gu fun A2 z2 h2 o2 => ?_)
  have h2 : A2.2 b = xx_o 0 [.int (iz v.sign), .int (nI lex), .ref (b + 1)] := h2
  have g2_2 := (o2 (b + 1) (by omega)).trans g2_1
  have k1_2 := (o2 x (by omega)).trans k1_1
  have k2_2 := (o2 (x + 1) (by omega)).trans k2_1
  refine xx_aload_n dX0_copy_16 rfl ?_
  refine xx_get xx_c0 dX0_copy_17 wf_X0_16 (j := 2) (by decide) k1_2 rfl ?_
  refine xx_iconst (v := 0) dX0_copy_20 (by decide) ?_
  refine xx_aload_n dX0_copy_21 rfl ?_
  refine xx_get xx_c0 dX0_copy_22 wf_X0_16 (j := 2) (by decide) h2 rfl ?_
  refine xx_iconst (v := 0) dX0_copy_25 (by decide) ?_
  refine xx_aload_n dX0_copy_26 rfl ?_
  refine xx_get xx_c0 dX0_copy_27 wf_X0_13 (j := 1) (by decide) h2 rfl ?_
  have hle := k3.1
  refine xx_acopy (f := g) (g := f) dX0_copy_30 wq_ac_l (by decide) (by decide) k2_2 g2_2 (by decide) (by decide) (nI_pos (by omega)) (by rw [nI_clamp (by omega)]; show 0 + lex ≤ 14; omega) (by rw [nI_clamp (by omega)]; show 0 + lex ≤ 14; omega) (xx_gu fun A3 z3 h3 o3 => ?_)
  rw [nI_clamp (by omega)] at h3
  have h3 : A3.2 (b + 1) = xx_i 14 (va_cpy g f 0 0 lex) := h3
  have h2_3 := (o3 b (by omega)).trans h2
  have k1_3 := (o3 x (by omega)).trans k1_2
  have k2_3 := (o3 (x + 1) (by omega)).trans k2_2
  refine xx_vret dX0_copy_33 rfl ⟨rfl, by omega, ⟨_, lex, h2_3, h3, k3.1, ?_⟩, fun q h1 h2 => by rw [o3 q (by assumption), o2 q (by assumption), o1 q (by assumption)]⟩
  obtain ⟨_, D, d1, d2, d3⟩ := k3
  exact ⟨D, fun i hi => ⟨(d1 i hi).1, by rw [pk_cpy_in (by omega) (by omega)]; show g (0 + (i - 0)) = _; rw [show 0 + (i - 0) = i by omega]; exact (d1 i hi).2⟩, d2, d3⟩
def yy_lb (f : Nat → Int32) (len i : Nat) : Int32 := if i < len then f i else 0
set_option maxRecDepth 100000 in
theorem c_X0_limb {G : xx_G} {l : Launch} {A : xx_H} {b i len : Nat} {s0 : Value} {f : Nat → Int32} (hb : A.2 b = xx_o 0 [s0, .int (nI len), .ref (b + 1)]) (hf : A.2 (b + 1) = xx_i 14 f) (hl : len ≤ 14) (hi : i < 100) : xx_X G l mX0_limb 0 0 0 0 (lv_args 0 [.ref b, .int (nI i)]) [] A (fun r B => r = .inl (some (.int (yy_lb f len i))) ∧ B = A) := by
  refine xx_clv (lv2 := [(0, .ref b), (1, .int (nI i))]) rfl ?_
  by_cases hc : i < len
  · refine xx_iload_n dX0_limb_0 rfl ?_
    refine xx_if_lt (tgt := 21) dX0_limb_1 (by decide) (fun h => absurd h (nI_pos (by omega))) (fun j1 => ?_)
    refine xx_iload_n dX0_limb_4 rfl ?_
    refine xx_aload_n dX0_limb_5 rfl ?_
    refine xx_get xx_c0 dX0_limb_6 wf_X0_13 (j := 1) (by decide) hb rfl ?_
    refine xx_icmp_ge (tgt := 21) dX0_limb_9 (by decide) (fun h => absurd h (nI_ge hc (by omega))) (fun j9 => ?_)
    refine xx_aload_n dX0_limb_12 rfl ?_
    refine xx_get xx_c0 dX0_limb_13 wf_X0_16 (j := 2) (by decide) hb rfl ?_
    refine xx_iload_n dX0_limb_16 rfl ?_
    refine xx_iald dX0_limb_17 hf (vp_in_nI (by omega) (by decide)) ?_
    refine xx_eqi (y := f i) (by rw [nI_clamp (by omega)]) ?_
    refine xx_goto (tgt := 22) dX0_limb_18 (by decide) ?_
    exact xx_iret dX0_limb_22 rfl ⟨by unfold yy_lb; rw [if_pos hc], rfl⟩
  · refine xx_iload_n dX0_limb_0 rfl ?_
    refine xx_if_lt (tgt := 21) dX0_limb_1 (by decide) (fun h => absurd h (nI_pos (by omega))) (fun j1 => ?_)
    refine xx_iload_n dX0_limb_4 rfl ?_
    refine xx_aload_n dX0_limb_5 rfl ?_
    refine xx_get xx_c0 dX0_limb_6 wf_X0_13 (j := 1) (by decide) hb rfl ?_
    refine xx_icmp_ge (tgt := 21) dX0_limb_9 (by decide) (fun j9 => ?_) (fun h => absurd (nI_le (by omega) (by omega)) h)
    refine xx_iconst (v := 0) dX0_limb_21 (by decide) ?_
    exact xx_iret dX0_limb_22 rfl ⟨by unfold yy_lb; rw [if_neg hc], rfl⟩
set_option maxRecDepth 100000 in
theorem c_X0_isOne {G : xx_G} {l : Launch} {A : xx_H} {b : Nat} {v : Int} (hb : xx_bg A b v) : xx_X G l mX0_isOne 0 0 0 0 (lv_args 0 [.ref b]) [] A (fun r B => r = .inl (some (.int (if v = 1 then 1 else 0))) ∧ B = A) := by
  obtain ⟨f, len, g1, g2, g3⟩ := hb
  refine xx_clv (lv2 := [(0, .ref b)]) rfl ?_
  refine xx_aload_n dX0_isOne_0 rfl ?_
  refine xx_get xx_c0 dX0_isOne_1 wf_X0_7 (j := 0) (by decide) g1 rfl ?_
  refine xx_iconst (v := 1) dX0_isOne_4 (by decide) ?_
  refine xx_icmp_ne (tgt := 30) dX0_isOne_5 (by decide) (fun j5 => ?_) (fun j5 => ?_)
  · refine xx_iconst (v := 0) dX0_isOne_30 (by decide) ?_
    refine xx_zret dX0_isOne_31 rfl rfl ⟨?_, rfl⟩
    rw [if_neg (fun e => j5 (by rw [e]; rfl))]
  · refine xx_aload_n dX0_isOne_8 rfl ?_
    refine xx_get xx_c0 dX0_isOne_9 wf_X0_13 (j := 1) (by decide) g1 rfl ?_
    refine xx_iconst (v := 1) dX0_isOne_12 (by decide) ?_
    refine xx_icmp_ne (tgt := 30) dX0_isOne_13 (by decide) (fun j13 => ?_) (fun j13 => ?_)
    · refine xx_iconst (v := 0) dX0_isOne_30 (by decide) ?_
      refine xx_zret dX0_isOne_31 rfl rfl ⟨?_, rfl⟩
      rw [if_neg (fun e => ?_)]
      subst e
      have h1 := g3.pos (by decide)
      have h2 : len ≠ 1 := fun q => j13 (by rw [q]; rfl)
      have h3 : len = (len - 2) + 1 + 1 := by omega
      rw [h3] at g3
      have h4 := g3.ge
      have h5 : yB ^ 1 ≤ yB ^ (len - 2 + 1) := Nat.pow_le_pow_right (by decide) (by omega)
      have h6 : Int.natAbs 1 = 1 := rfl
      rw [h6] at h4
      have h7 : yB ^ 1 = 2147483648 := by decide
      omega
    · refine xx_aload_n dX0_isOne_16 rfl ?_
      refine xx_get xx_c0 dX0_isOne_17 wf_X0_16 (j := 2) (by decide) g1 rfl ?_
      refine xx_iconst (v := 0) dX0_isOne_20 (by decide) ?_
      refine xx_iald dX0_isOne_21 g2 (by unfold vp_in; decide) ?_
      refine xx_eqi (y := f 0) rfl ?_
      refine xx_iconst (v := 1) dX0_isOne_22 (by decide) ?_
      refine xx_icmp_ne (tgt := 30) dX0_isOne_23 (by decide) (fun j23 => ?_) (fun j23 => ?_)
      · refine xx_iconst (v := 0) dX0_isOne_30 (by decide) ?_
        refine xx_zret dX0_isOne_31 rfl rfl ⟨?_, rfl⟩
        have hl : len = 1 := (nI_eq (by have := g3.1; omega) (by decide)).mp (show nI len = nI 1 from j13)
        subst hl
        obtain ⟨_, D, d1, d2, d3⟩ := g3
        have e0 : v.natAbs = D 0 := by rw [d3]; show 0 + D 0 * 2147483648 ^ 0 = D 0; omega
        have hs : v.sign = 1 := by
          rcases Int.lt_trichotomy v 0 with h | h | h
          · rw [Int.sign_eq_neg_one_of_neg h] at j5; exact absurd j5 (by decide)
          · subst h; exact absurd j5 (by decide)
          · exact Int.sign_eq_one_of_pos h
        have hp : 0 < v := Int.sign_eq_one_iff_pos.mp hs
        have hf := (d1 0 (by decide)).2
        have hD := (d1 0 (by decide)).1
        rw [if_neg]
        intro e
        have e2 : D 0 = 1 := by omega
        exact j23 (by rw [hf, e2]; rfl)
      · refine xx_iconst (v := 1) dX0_isOne_26 (by decide) ?_
        refine xx_goto (tgt := 31) dX0_isOne_27 (by decide) ?_
        refine xx_zret dX0_isOne_31 rfl rfl ⟨?_, rfl⟩
        have hl : len = 1 := (nI_eq (by have := g3.1; omega) (by decide)).mp (show nI len = nI 1 from j13)
        subst hl
        obtain ⟨_, D, d1, d2, d3⟩ := g3
        have e0 : v.natAbs = D 0 := by rw [d3]; show 0 + D 0 * 2147483648 ^ 0 = D 0; omega
        have hs : v.sign = 1 := by
          rcases Int.lt_trichotomy v 0 with h | h | h
          · rw [Int.sign_eq_neg_one_of_neg h] at j5; exact absurd j5 (by decide)
          · subst h; exact absurd j5 (by decide)
          · exact Int.sign_eq_one_of_pos h
        have hp : 0 < v := Int.sign_eq_one_iff_pos.mp hs
        have hf := (d1 0 (by decide)).2
        have hD := (d1 0 (by decide)).1
        rw [if_pos]
        have : D 0 = 1 := (nI_eq hD (by decide)).mp (by rw [← hf]; exact j23)
        omega
