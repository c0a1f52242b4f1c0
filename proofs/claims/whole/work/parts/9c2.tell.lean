/-! ===== the reference's tell, placeOf ===== -/
theorem yy_qtN (a c : Nat) : yy_qt (a : Int) (c : Int) = ((a / c : Nat) : Int) := by
  unfold yy_qt
  rw [Int.natAbs_natCast, Int.natAbs_natCast]
  rcases Nat.eq_zero_or_pos a with h | h
  · subst h; rw [Nat.zero_div]; simp
  · rcases Nat.eq_zero_or_pos c with h2 | h2
    · subst h2; rw [Nat.div_zero]; simp
    · rw [Int.sign_eq_one_of_pos (show (0 : Int) < (a : Int) by omega), Int.sign_eq_one_of_pos (show (0 : Int) < (c : Int) by omega), Int.one_mul, Int.one_mul]
theorem w_X9_divide {G : xx_G} {l : Launch} {A : xx_H} {b : Nat} {th hr st hl en tu : Value} {m n : Nat} {x y c d : Nat} {N : Nat → Int} (hb : A.2 b = xx_o 9 (xx_mf b th (.int (nI m)) (.int (nI n)) hr st hl en tu)) (hN : xx_rw A b N) (hx : x < 1740) (hy : y < 1740) (hc : c < 1740) (hd : d < 1740) (n1 : x ≠ c) (n2 : y ≠ c) (n3 : x ≠ d) (n4 : y ≠ d) (n5 : c ≠ d) (h0 : N y ≠ 0) : xx_X G l mX9_divide 1 0 0 0 (lv_args 0 [.ref b, .int (nI x), .int (nI y), .int (nI c), .int (nI d)]) [] A (fun z B => z = .inl none ∧ B.1 = A.1 ∧ (∃ N2, xx_rw B b N2 ∧ N2 c = yy_qt (N x) (N y) ∧ ∀ r, r ≠ c → r ≠ d → N2 r = N r) ∧ ∀ q, q ≠ b + 1 → q ≠ b + 2 → q ≠ b + 3 → q ≠ b + 17 → q ≠ b + 18 → B.2 q = A.2 q) := by
  refine xx_mono (fun z B h => ?_) (c_X9_divide hb hN.1 hN.2.1 hN.2.2 hx hy hc hd n1 n2 n3 n4 n5 h0)
  obtain ⟨h1, h2, h3, h4, h5, h6⟩ := h
  exact ⟨h1, h2, ⟨_, ⟨h3, h4, h5⟩, by rw [yy_un_n n5, yy_un_s], fun r a1 a2 => by rw [yy_un_n a2, yy_un_n a1]⟩, h6⟩
theorem yy_p60 {k : Nat} (h : k < 2 ^ 62) : ((k : Nat) : Int).natAbs < 65536 ^ 4 := by rw [Int.natAbs_natCast]; exact Nat.lt_trans h (by decide +kernel)
theorem yy_p36 {k : Nat} (h : k < 2 ^ 62) : ((k : Nat) : Int).natAbs < 65536 ^ 36 := by rw [Int.natAbs_natCast]; exact Nat.lt_trans h (by decide +kernel)
theorem yy_p39n {k : Nat} (h : k < 2 ^ 63) : ((k : Nat) : Int).natAbs < 65536 ^ 39 := by rw [Int.natAbs_natCast]; exact Nat.lt_trans h (by decide +kernel)
/-- what the reference was told -/
def xx_rtl (B : xx_H) (b m n : Nat) (ta tb : Nat → Nat → Nat) : Prop := (∃ f, B.2 (b + 6) = xx_i 12 f ∧ ∀ p, p < 2 → ∀ k, k < 6 → f (6 * p + k) = nI (ta p k)) ∧ (∃ f, B.2 (b + 7) = xx_i 12 f ∧ ∀ p, p < 2 → ∀ k, k < 6 → f (6 * p + k) = nI (tb p k))
theorem xx_rtl.to {B C : xx_H} {b m n : Nat} {ta tb : Nat → Nat → Nat} (h : xx_rtl B b m n ta tb) (h1 : C.2 (b + 6) = B.2 (b + 6)) (h2 : C.2 (b + 7) = B.2 (b + 7)) : xx_rtl C b m n ta tb := by
  obtain ⟨⟨f, a1, a2⟩, ⟨g, a3, a4⟩⟩ := h
  exact ⟨⟨f, h1.trans a1, a2⟩, ⟨g, h2.trans a3, a4⟩⟩
/-- how the told weights are -/
def yt_ok (m n : Nat) (ta tb : Nat → Nat → Nat) : Prop := ∀ p, p < 2 → ∀ k, k < 6 → ta p k ≤ 999 ∧ 1 ≤ tb p k ∧ tb p k ≤ 999 ∧ (yy_cn m n p ≤ k → ta p k = 0 ∧ tb p k = 1)
theorem yp_d_ext {tb : Nat → Nat} {i : Nat} : ∀ {n : Nat}, i ≤ n → (∀ k, i ≤ k → k < n → tb k = 1) → yp_d tb n = yp_d tb i
  | 0, h, _ => by rw [show i = 0 by omega]
  | n + 1, h, hk => by
    by_cases e : i = n + 1
    · rw [e]
    · show yp_d tb n * tb n = _
      rw [hk n (by omega) (by omega), Nat.mul_one]
      exact yp_d_ext (by omega) (fun k a c => hk k a (by omega))
theorem yp_t_s {ta tb : Nat → Nat} : ∀ n : Nat, yd_s n (fun k => ((yp_s ta tb k : Nat) : Int)) = ((yp_t ta tb n : Nat) : Int)
  | 0 => rfl
  | n + 1 => by
    show yd_s n _ + ((yp_s ta tb n : Nat) : Int) = ((yp_t ta tb n + yp_s ta tb n : Nat) : Int)
    rw [yp_t_s n, Int.natCast_add]
theorem yy_cmz_0 (a c : Int) : yy_cmz a c = 0 ↔ a = c := by
  unfold yy_cmz
  rcases Int.lt_trichotomy a c with h | h | h
  · rw [if_pos h]; exact ⟨fun z => absurd z (by decide), fun z => by omega⟩
  · rw [if_neg (by omega), if_pos h]; exact ⟨fun _ => h, fun _ => rfl⟩
  · rw [if_neg (by omega), if_neg (by omega)]; exact ⟨fun z => absurd z (by decide), fun z => by omega⟩
set_option maxRecDepth 100000 in
theorem l_X9_ta0 {G : xx_G} {l : Launch} {A : xx_H} {b : Nat} {th hr st hl en tu : Value} {m n : Nat} {N : Nat → Int} {ta tb : Nat → Nat → Nat} {g9 : Value} {Q : Option Value ⊕ String → xx_H → Prop} (hb : A.2 b = xx_o 9 (xx_mf b th (.int (nI m)) (.int (nI n)) hr st hl en tu)) (hT : xx_rtl A b m n ta tb) (hk : yt_ok m n ta tb) (hm : m ≤ 6) (hn : n ≤ 6) (k : ∀ (B : xx_H) (N2 : Nat → Int), (B.1 = A.1) → (xx_rw B b N2) → (N2 28 = ((yp_d (tb 0) m : Nat) : Int)) → (∀ q, q ≠ 10 → q ≠ 11 → q ≠ 28 → N2 q = N q) → (∀ q, q ≠ b + 1 → q ≠ b + 2 → q ≠ b + 3 → q ≠ b + 17 → q ≠ b + 18 → B.2 q = A.2 q) → xx_X G l mX9_tell 4 0 0 84 [(0, .ref b), (1, g9), (2, .int 0), (3, .int (nI m))] [] B Q) :
    ∀ (v i : Nat), i + v = m → ∀ (B : xx_H) (N2 : Nat → Int), (B.1 = A.1) → (xx_rw B b N2) → (N2 28 = ((yp_d (tb 0) i : Nat) : Int)) → (∀ q, q ≠ 10 → q ≠ 11 → q ≠ 28 → N2 q = N q) → (∀ q, q ≠ b + 1 → q ≠ b + 2 → q ≠ b + 3 → q ≠ b + 17 → q ≠ b + 18 → B.2 q = A.2 q) → xx_X G l mX9_tell 4 0 0 35 [(0, .ref b), (1, g9), (2, .int 0), (3, .int (nI m)), (4, .int (nI i))] [] B Q := by
  obtain ⟨⟨fa, ta1, ta2⟩, ⟨fb, tb1, tb2⟩⟩ := id hT
  intro v
  induction v with
  | zero =>
    intro i h9i B N2 y1 y2 y3 y4 y5
    have h9e : m = i := by omega
    subst h9e
    refine xx_clv (lv2 := [(0, .ref b), (1, g9), (2, .int 0), (3, .int (nI m)), (4, .int (nI m))]) rfl ?_
    refine xx_iload dX9_tell_35 rfl ?_
    refine xx_iload_n dX9_tell_37 rfl ?_
    refine xx_icmp_ge (tgt := 84) dX9_tell_38 (by decide) (fun j38 => ?_) (fun h => absurd (Int32.le_refl _) h)
    refine xx_less [0, 1, 2, 3] ?_
    refine xx_clv (lv2 := [(0, .ref b), (1, g9), (2, .int 0), (3, .int (nI m))]) rfl ?_
    exact k B N2 y1 y2 y3 y4 y5
  | succ v ih =>
    intro i h9i B N2 y1 y2 y3 y4 y5
    have hb2 := (y5 b (by omega) (by omega) (by omega) (by omega) (by omega)).trans hb
    obtain ⟨t1, t2, t3, _⟩ := hk 0 (by decide) i (by omega)
    have d9 : yp_d (tb 0) i < 2 ^ 62 := Nat.lt_of_le_of_lt (yp_d_b (fun k hk9 => (hk 0 (by decide) k (by omega)).2.2.1)) (Nat.lt_of_le_of_lt (Nat.pow_le_pow_right (by decide) (show i ≤ 6 by omega)) (by decide))
    refine xx_iload dX9_tell_35 rfl ?_
    refine xx_iload_n dX9_tell_37 rfl ?_
    refine xx_icmp_ge (tgt := 84) dX9_tell_38 (by decide) (fun h => absurd h (nI_ge (a := i) (b := m) (by omega) (by omega))) (fun j38 => ?_)
    refine xx_aload_n dX9_tell_41 rfl ?_
    refine xx_bipush (v := 10) dX9_tell_42 (by decide) ?_
    refine xx_aload_n dX9_tell_44 rfl ?_
    refine xx_get xx_c9 dX9_tell_45 wf_X9_29 (j := 9) (by decide) hb2 rfl ?_
    refine xx_bipush (v := 6) dX9_tell_48 (by decide) ?_
    refine xx_iload_n dX9_tell_50 rfl ?_
    refine xx_imul dX9_tell_51 ?_
    refine xx_eqi (y := 0) (by decide) ?_
    refine xx_iload dX9_tell_52 rfl ?_
    refine xx_iadd dX9_tell_54 ?_
    refine xx_eqi (y := nI (0 + i)) (nI_add 0 i) ?_
    refine xx_iald dX9_tell_55 ((y5 (b + 7) (by omega) (by omega) (by omega) (by omega) (by omega)).trans tb1) (vp_in_nI (by omega) (by decide)) ?_
    refine xx_eqi (y := nI (tb 0 i)) (by rw [nI_clamp (by omega)]; exact tb2 0 (by decide) i (by omega)) ?_
    refine xx_i2l dX9_tell_56 ?_
    refine xx_eql (y := lN (tb 0 i)) (nI_l (by omega)) ?_
    refine xx_eql (y := lz ((tb 0 i : Int))) (rfl) ?_
    refine xx_callV (N := mX9_set) (vs := [.int 10, .long (lz ((tb 0 i : Int)))]) (b := b) (rest := []) (d2 := 0) (c2 := 0) (s2 := 0) (c3 := 0) (s3 := 0) dX9_tell_57 wm_X9_80 wi_X9_set wv_X9_set (k := 9) rfl (by decide) hb2 nX9_set ⟨pX9_set, Nat.le_of_ble_eq_true rfl, by decide, Nat.le_of_ble_eq_true rfl, by decide, by decide⟩ (w_X9_set hb2 y2 (a := 10) (v := (tb 0 i : Int)) (by omega) (by omega) (by omega)) (fun v9 Eq1 hC => ?_) (fun E9 B9 hC => absurd hC.1 (by simp))
    obtain ⟨hv9, zq1, ⟨Nq1, hNq1, vq1, fq1⟩, oq1⟩ := hC
    cases hv9
    refine xx_cst (st2 := []) rfl ?_
    have hbq1 := (oq1 b (by omega) (by omega) (by omega) (by omega) (by omega)).trans hb2
    refine xx_aload_n dX9_tell_60 rfl ?_
    refine xx_bipush (v := 28) dX9_tell_61 (by decide) ?_
    refine xx_bipush (v := 10) dX9_tell_63 (by decide) ?_
    refine xx_bipush (v := 11) dX9_tell_65 (by decide) ?_
    have x1 : Nq1 28 = ((yp_d (tb 0) i : Nat) : Int) := (fq1 _ (by decide)).trans y3
    refine xx_callV (N := mX9_times) (vs := [.int 28, .int 10, .int 11]) (b := b) (rest := []) (d2 := 1) (c2 := 0) (s2 := 0) (c3 := 0) (s3 := 0) dX9_tell_67 wm_X9_104 wi_X9_times wv_X9_times (k := 9) rfl (by decide) hbq1 nX9_times ⟨pX9_times, Nat.le_of_ble_eq_true rfl, by decide, Nat.le_of_ble_eq_true rfl, by decide, by decide⟩ (w_X9_times hbq1 hNq1 (x := 28) (y := 10) (c := 11) (p := 4) (q := 36) (by omega) (by omega) (by omega) (by omega) (by omega) (by decide) (by rw [x1]; exact yy_p60 d9) (by rw [vq1]; exact yy_p36 (by omega))) (fun v9 Eq2 hC => ?_) (fun E9 B9 hC => absurd hC.1 (by simp))
    obtain ⟨hv9, zq2, ⟨Nq2, hNq2, vq2, fq2⟩, oq2⟩ := hC
    cases hv9
    refine xx_cst (st2 := []) rfl ?_
    have hbq2 := (oq2 b (by omega) (by omega) (by omega) (by omega) (by omega)).trans hbq1
    refine xx_aload_n dX9_tell_70 rfl ?_
    refine xx_bipush (v := 11) dX9_tell_71 (by decide) ?_
    refine xx_bipush (v := 28) dX9_tell_73 (by decide) ?_
    refine xx_callV (N := mX9_copy) (vs := [.int 11, .int 28]) (b := b) (rest := []) (d2 := 0) (c2 := 0) (s2 := 0) (c3 := 0) (s3 := 0) dX9_tell_75 wm_X9_98 wi_X9_copy wv_X9_copy (k := 9) rfl (by decide) hbq2 nX9_copy ⟨pX9_copy, Nat.le_of_ble_eq_true rfl, by decide, Nat.le_of_ble_eq_true rfl, by decide, by decide⟩ (w_X9_copy hbq2 hNq2 (x := 11) (a := 28) (by omega) (by omega) (by omega)) (fun v9 Eq3 hC => ?_) (fun E9 B9 hC => absurd hC.1 (by simp))
    obtain ⟨hv9, zq3, ⟨Nq3, hNq3, vq3, fq3⟩, oq3⟩ := hC
    cases hv9
    refine xx_cst (st2 := []) rfl ?_
    have hbq3 := (oq3 b (by omega) (by omega) (by omega) (by omega) (by omega)).trans hbq2
    refine xx_iinc (v := nI (i + 1)) dX9_tell_78 rfl (nI_1 i) (by decide) ?_
    refine xx_clv (lv2 := [(0, .ref b), (1, g9), (2, .int 0), (3, .int (nI m)), (4, .int (nI (i + 1)))]) rfl ?_
    refine xx_goto (tgt := 35) dX9_tell_81 (by decide) ?_
    refine xx_less [0, 1, 2, 3, 4] ?_
    refine xx_clv (lv2 := [(0, .ref b), (1, g9), (2, .int 0), (3, .int (nI m)), (4, .int (nI (i + 1)))]) rfl ?_
    refine ih (i + 1) (by omega) Eq3 Nq3 (by omega) hNq3 (by rw [vq3, vq2, x1, vq1, ← Int.natCast_mul]; rfl) (fun q a1 a2 a3 => (fq3 q a3).trans ((fq2 q a2).trans ((fq1 q a1).trans (y4 q a1 a2 a3)))) (fun q a1 a2 a3 a4 a5 => (oq3 q a1 a2 a3 a4 a5).trans ((oq2 q a1 a2 a3 a4 a5).trans ((oq1 q a1 a2 a3 a4 a5).trans (y5 q a1 a2 a3 a4 a5))))
set_option maxRecDepth 100000 in
theorem l_X9_tc0 {G : xx_G} {l : Launch} {A : xx_H} {b : Nat} {th hr st hl en tu : Value} {m n : Nat} {N : Nat → Int} {ta tb : Nat → Nat → Nat} {g9 : Value} {Q : Option Value ⊕ String → xx_H → Prop} (hb : A.2 b = xx_o 9 (xx_mf b th (.int (nI m)) (.int (nI n)) hr st hl en tu)) (hT : xx_rtl A b m n ta tb) (hk : yt_ok m n ta tb) (hm : m ≤ 6) (hn : n ≤ 6) (hD : N 28 = ((yp_d (tb 0) 6 : Nat) : Int)) (k : ∀ (B : xx_H) (N2 : Nat → Int), (B.1 = A.1) → (xx_rw B b N2) → (N2 29 = ((yp_t (ta 0) (tb 0) 6 : Nat) : Int)) → (∀ j, j < 6 → N2 (314 + j) = ((yp_s (ta 0) (tb 0) j : Nat) : Int)) → (∀ q, q ≠ 10 → q ≠ 11 → q ≠ 12 → q ≠ 29 → (q < 314 ∨ 320 ≤ q) → N2 q = N q) → (∀ q, q ≠ b + 1 → q ≠ b + 2 → q ≠ b + 3 → q ≠ b + 17 → q ≠ b + 18 → B.2 q = A.2 q) → xx_X G l mX9_tell 4 0 0 204 [(0, .ref b), (1, g9), (2, .int 0)] [] B Q) :
    ∀ (v i : Nat), i + v = 6 → ∀ (B : xx_H) (N2 : Nat → Int), (B.1 = A.1) → (xx_rw B b N2) → (N2 29 = ((yp_t (ta 0) (tb 0) i : Nat) : Int)) → (∀ j, j < i → N2 (314 + j) = ((yp_s (ta 0) (tb 0) j : Nat) : Int)) → (∀ q, q ≠ 10 → q ≠ 11 → q ≠ 12 → q ≠ 29 → (q < 314 ∨ 320 ≤ q) → N2 q = N q) → (∀ q, q ≠ b + 1 → q ≠ b + 2 → q ≠ b + 3 → q ≠ b + 17 → q ≠ b + 18 → B.2 q = A.2 q) → xx_X G l mX9_tell 4 0 0 94 [(0, .ref b), (1, g9), (2, .int 0), (3, .int (nI m)), (4, .int (nI i))] [] B Q := by
  obtain ⟨⟨fa, ta1, ta2⟩, ⟨fb, tb1, tb2⟩⟩ := id hT
  have d6 : yp_d (tb 0) 6 < 2 ^ 60 := Nat.lt_of_le_of_lt (yp_d_b (fun k hk9 => (hk 0 (by decide) k hk9).2.2.1)) (by decide)
  have hk6 : ∀ k, k < 6 → ta 0 k ≤ 999 ∧ 1 ≤ tb 0 k ∧ tb 0 k ≤ 999 := fun k hk9 => by have := hk 0 (by decide) k hk9; omega
  intro v
  induction v with
  | zero =>
    intro i h9i B N2 y1 y2 y3 y6 y4 y5
    have h9e : 6 = i := by omega
    subst h9e
    refine xx_clv (lv2 := [(0, .ref b), (1, g9), (2, .int 0), (3, .int (nI m)), (4, .int 6)]) rfl ?_
    refine xx_iload dX9_tell_94 rfl ?_
    refine xx_bipush (v := 6) dX9_tell_96 (by decide) ?_
    refine xx_icmp_ge (tgt := 204) dX9_tell_98 (by decide) (fun j98 => ?_) (fun h => absurd (by decide) h)
    refine xx_less [0, 1, 2] ?_
    refine xx_clv (lv2 := [(0, .ref b), (1, g9), (2, .int 0)]) rfl ?_
    exact k B N2 y1 y2 y3 y6 y4 y5
  | succ v ih =>
    intro i h9i B N2 y1 y2 y3 y6 y4 y5
    have hb2 := (y5 b (by omega) (by omega) (by omega) (by omega) (by omega)).trans hb
    obtain ⟨t1, t2, t3, t4⟩ := hk 0 (by decide) i (by omega)
    have s60 := yp_s_b (ta := ta 0) (tb := tb 0) (i := i) (by omega) hk6
    have s63 := yp_t_b hk6 i (by omega)
    refine xx_iload dX9_tell_94 rfl ?_
    refine xx_bipush (v := 6) dX9_tell_96 (by decide) ?_
    refine xx_icmp_ge (tgt := 204) dX9_tell_98 (by decide) (fun h => absurd h (nI_ge (a := i) (b := 6) (by omega) (by omega))) (fun j98 => ?_)
    refine xx_sipush (v := 314) dX9_tell_101 (by decide) ?_
    refine xx_bipush (v := 6) dX9_tell_104 (by decide) ?_
    refine xx_iload_n dX9_tell_106 rfl ?_
    refine xx_imul dX9_tell_107 ?_
    refine xx_eqi (y := 0) (by decide) ?_
    refine xx_iadd dX9_tell_108 ?_
    refine xx_eqi (y := 314) (by decide) ?_
    refine xx_iload dX9_tell_109 rfl ?_
    refine xx_iadd dX9_tell_111 ?_
    refine xx_eqi (y := nI (314 + i)) (nI_add 314 i) ?_
    refine xx_istore dX9_tell_112 (by decide) ?_
    refine xx_clv (lv2 := [(0, .ref b), (1, g9), (2, .int 0), (3, .int (nI m)), (4, .int (nI i)), (5, .int (nI (314 + i)))]) rfl ?_
    refine xx_aload_n dX9_tell_114 rfl ?_
    refine xx_iload dX9_tell_115 rfl ?_
    refine xx_lconst (v := 0) dX9_tell_117 (by decide) ?_
    refine xx_eql (y := lz 0) (by decide) ?_
    refine xx_callV (N := mX9_set) (vs := [.int (nI (314 + i)), .long (lz 0)]) (b := b) (rest := []) (d2 := 0) (c2 := 0) (s2 := 0) (c3 := 0) (s3 := 0) dX9_tell_118 wm_X9_80 wi_X9_set wv_X9_set (k := 9) rfl (by decide) hb2 nX9_set ⟨pX9_set, Nat.le_of_ble_eq_true rfl, by decide, Nat.le_of_ble_eq_true rfl, by decide, by decide⟩ (w_X9_set hb2 y2 (a := 314 + i) (v := 0) (by omega) (by decide) (by decide)) (fun v9 Eq1 hC => ?_) (fun E9 B9 hC => absurd hC.1 (by simp))
    obtain ⟨hv9, zq1, ⟨Nq1, hNq1, vq1, fq1⟩, oq1⟩ := hC
    cases hv9
    refine xx_cst (st2 := []) rfl ?_
    have hbq1 := (oq1 b (by omega) (by omega) (by omega) (by omega) (by omega)).trans hb2
    refine xx_iload dX9_tell_121 rfl ?_
    refine xx_iload_n dX9_tell_123 rfl ?_
    refine xx_icmp_ge (tgt := 198) dX9_tell_124 (by decide) (fun j124 => ?_) (fun j124 => ?_)
    · have j124 : m ≤ i := (nI_leI (a := m) (b := i) (by omega) (by omega)).mp j124
      have st9 : yp_t (ta 0) (tb 0) (i + 1) = yp_t (ta 0) (tb 0) i + yp_s (ta 0) (tb 0) i := rfl
      have s0 : yp_s (ta 0) (tb 0) i = 0 := by unfold yp_s; rw [(t4 (show yy_cn m n 0 ≤ i from j124)).1, Nat.zero_mul]
      refine xx_iinc (v := nI (i + 1)) dX9_tell_198 rfl (nI_1 i) (by decide) ?_
      refine xx_clv (lv2 := [(0, .ref b), (1, g9), (2, .int 0), (3, .int (nI m)), (4, .int (nI (i + 1))), (5, .int (nI (314 + i)))]) rfl ?_
      refine xx_goto (tgt := 94) dX9_tell_201 (by decide) ?_
      refine xx_less [0, 1, 2, 3, 4] ?_
      refine xx_clv (lv2 := [(0, .ref b), (1, g9), (2, .int 0), (3, .int (nI m)), (4, .int (nI (i + 1)))]) rfl ?_
      refine ih (i + 1) (by omega) Eq1 Nq1 (by omega) hNq1 (by rw [fq1 _ (by omega), y3, st9, s0, Nat.add_zero]) (fun j hj => ?_) (fun q a1 a2 a3 a4 a5 => (fq1 q (by omega)).trans (y4 q a1 a2 a3 a4 a5)) (fun q a1 a2 a3 a4 a5 => (oq1 q a1 a2 a3 a4 a5).trans (y5 q a1 a2 a3 a4 a5))
      by_cases z : j = i
      · rw [z, vq1, s0]; rfl
      · rw [fq1 _ (by omega)]; exact y6 j (by omega)
    · have j124 : ¬ m ≤ i := fun hq9 => j124 ((nI_leI (a := m) (b := i) (by omega) (by omega)).mpr hq9)
      refine xx_aload_n dX9_tell_127 rfl ?_
      refine xx_bipush (v := 10) dX9_tell_128 (by decide) ?_
      refine xx_aload_n dX9_tell_130 rfl ?_
      refine xx_get xx_c9 dX9_tell_131 wf_X9_29 (j := 9) (by decide) hbq1 rfl ?_
      refine xx_bipush (v := 6) dX9_tell_134 (by decide) ?_
      refine xx_iload_n dX9_tell_136 rfl ?_
      refine xx_imul dX9_tell_137 ?_
      refine xx_eqi (y := 0) (by decide) ?_
      refine xx_iload dX9_tell_138 rfl ?_
      refine xx_iadd dX9_tell_140 ?_
      refine xx_eqi (y := nI (0 + i)) (nI_add 0 i) ?_
      refine xx_iald dX9_tell_141 ((oq1 (b + 7) (by omega) (by omega) (by omega) (by omega) (by omega)).trans ((y5 (b + 7) (by omega) (by omega) (by omega) (by omega) (by omega)).trans tb1)) (vp_in_nI (by omega) (by decide)) ?_
      refine xx_eqi (y := nI (tb 0 i)) (by rw [nI_clamp (by omega)]; exact tb2 0 (by decide) i (by omega)) ?_
      refine xx_i2l dX9_tell_142 ?_
      refine xx_eql (y := lN (tb 0 i)) (nI_l (by omega)) ?_
      refine xx_eql (y := lz ((tb 0 i : Int))) (rfl) ?_
      refine xx_callV (N := mX9_set) (vs := [.int 10, .long (lz ((tb 0 i : Int)))]) (b := b) (rest := []) (d2 := 0) (c2 := 0) (s2 := 0) (c3 := 0) (s3 := 0) dX9_tell_143 wm_X9_80 wi_X9_set wv_X9_set (k := 9) rfl (by decide) hbq1 nX9_set ⟨pX9_set, Nat.le_of_ble_eq_true rfl, by decide, Nat.le_of_ble_eq_true rfl, by decide, by decide⟩ (w_X9_set hbq1 hNq1 (a := 10) (v := (tb 0 i : Int)) (by omega) (by omega) (by omega)) (fun v9 Eq2 hC => ?_) (fun E9 B9 hC => absurd hC.1 (by simp))
      obtain ⟨hv9, zq2, ⟨Nq2, hNq2, vq2, fq2⟩, oq2⟩ := hC
      cases hv9
      refine xx_cst (st2 := []) rfl ?_
      have hbq2 := (oq2 b (by omega) (by omega) (by omega) (by omega) (by omega)).trans hbq1
      have x1 : Nq2 28 = ((yp_d (tb 0) 6 : Nat) : Int) := (fq2 _ (by decide)).trans ((fq1 _ (by omega)).trans ((y4 _ (by decide) (by decide) (by decide) (by decide) (by decide)).trans hD))
      refine xx_aload_n dX9_tell_146 rfl ?_
      refine xx_bipush (v := 28) dX9_tell_147 (by decide) ?_
      refine xx_bipush (v := 10) dX9_tell_149 (by decide) ?_
      refine xx_bipush (v := 11) dX9_tell_151 (by decide) ?_
      refine xx_bipush (v := 12) dX9_tell_153 (by decide) ?_
      refine xx_callV (N := mX9_divide) (vs := [.int 28, .int 10, .int 11, .int 12]) (b := b) (rest := []) (d2 := 1) (c2 := 0) (s2 := 0) (c3 := 0) (s3 := 0) dX9_tell_155 wm_X9_112 wi_X9_divide wv_X9_divide (k := 9) rfl (by decide) hbq2 nX9_divide ⟨pX9_divide, Nat.le_of_ble_eq_true rfl, by decide, Nat.le_of_ble_eq_true rfl, by decide, by decide⟩ (w_X9_divide hbq2 hNq2 (x := 28) (y := 10) (c := 11) (d := 12) (by decide) (by decide) (by decide) (by decide) (by decide) (by decide) (by decide) (by decide) (by decide) (by rw [vq2]; omega)) (fun v9 Eq3 hC => ?_) (fun E9 B9 hC => absurd hC.1 (by simp))
      obtain ⟨hv9, zq3, ⟨Nq3, hNq3, vq3, fq3⟩, oq3⟩ := hC
      cases hv9
      refine xx_cst (st2 := []) rfl ?_
      have hbq3 := (oq3 b (by omega) (by omega) (by omega) (by omega) (by omega)).trans hbq2
      rw [x1, vq2, yy_qtN] at vq3
      refine xx_aload_n dX9_tell_158 rfl ?_
      refine xx_bipush (v := 10) dX9_tell_159 (by decide) ?_
      refine xx_aload_n dX9_tell_161 rfl ?_
      refine xx_get xx_c9 dX9_tell_162 wf_X9_26 (j := 8) (by decide) hbq3 rfl ?_
      refine xx_bipush (v := 6) dX9_tell_165 (by decide) ?_
      refine xx_iload_n dX9_tell_167 rfl ?_
      refine xx_imul dX9_tell_168 ?_
      refine xx_eqi (y := 0) (by decide) ?_
      refine xx_iload dX9_tell_169 rfl ?_
      refine xx_iadd dX9_tell_171 ?_
      refine xx_eqi (y := nI (0 + i)) (nI_add 0 i) ?_
      refine xx_iald dX9_tell_172 ((oq3 (b + 6) (by omega) (by omega) (by omega) (by omega) (by omega)).trans ((oq2 (b + 6) (by omega) (by omega) (by omega) (by omega) (by omega)).trans ((oq1 (b + 6) (by omega) (by omega) (by omega) (by omega) (by omega)).trans ((y5 (b + 6) (by omega) (by omega) (by omega) (by omega) (by omega)).trans ta1)))) (vp_in_nI (by omega) (by decide)) ?_
      refine xx_eqi (y := nI (ta 0 i)) (by rw [nI_clamp (by omega)]; exact ta2 0 (by decide) i (by omega)) ?_
      refine xx_i2l dX9_tell_173 ?_
      refine xx_eql (y := lN (ta 0 i)) (nI_l (by omega)) ?_
      refine xx_eql (y := lz ((ta 0 i : Int))) (rfl) ?_
      refine xx_callV (N := mX9_set) (vs := [.int 10, .long (lz ((ta 0 i : Int)))]) (b := b) (rest := []) (d2 := 0) (c2 := 0) (s2 := 0) (c3 := 0) (s3 := 0) dX9_tell_174 wm_X9_80 wi_X9_set wv_X9_set (k := 9) rfl (by decide) hbq3 nX9_set ⟨pX9_set, Nat.le_of_ble_eq_true rfl, by decide, Nat.le_of_ble_eq_true rfl, by decide, by decide⟩ (w_X9_set hbq3 hNq3 (a := 10) (v := (ta 0 i : Int)) (by omega) (by omega) (by omega)) (fun v9 Eq4 hC => ?_) (fun E9 B9 hC => absurd hC.1 (by simp))
      obtain ⟨hv9, zq4, ⟨Nq4, hNq4, vq4, fq4⟩, oq4⟩ := hC
      cases hv9
      refine xx_cst (st2 := []) rfl ?_
      have hbq4 := (oq4 b (by omega) (by omega) (by omega) (by omega) (by omega)).trans hbq3
      refine xx_aload_n dX9_tell_177 rfl ?_
      refine xx_bipush (v := 11) dX9_tell_178 (by decide) ?_
      refine xx_bipush (v := 10) dX9_tell_180 (by decide) ?_
      refine xx_iload dX9_tell_182 rfl ?_
      have x2 : Nq4 11 = ((yp_d (tb 0) 6 / tb 0 i : Nat) : Int) := (fq4 _ (by decide)).trans vq3
      refine xx_callV (N := mX9_times) (vs := [.int 11, .int 10, .int (nI (314 + i))]) (b := b) (rest := []) (d2 := 1) (c2 := 0) (s2 := 0) (c3 := 0) (s3 := 0) dX9_tell_184 wm_X9_104 wi_X9_times wv_X9_times (k := 9) rfl (by decide) hbq4 nX9_times ⟨pX9_times, Nat.le_of_ble_eq_true rfl, by decide, Nat.le_of_ble_eq_true rfl, by decide, by decide⟩ (w_X9_times hbq4 hNq4 (x := 11) (y := 10) (c := 314 + i) (p := 4) (q := 36) (by omega) (by omega) (by omega) (by omega) (by omega) (by decide) (by rw [x2]; exact yy_p60 (Nat.lt_of_le_of_lt (Nat.div_le_self _ _) (by omega))) (by rw [vq4]; exact yy_p36 (by omega))) (fun v9 Eq5 hC => ?_) (fun E9 B9 hC => absurd hC.1 (by simp))
      obtain ⟨hv9, zq5, ⟨Nq5, hNq5, vq5, fq5⟩, oq5⟩ := hC
      cases hv9
      refine xx_cst (st2 := []) rfl ?_
      have hbq5 := (oq5 b (by omega) (by omega) (by omega) (by omega) (by omega)).trans hbq4
      have x3 : Nq5 (314 + i) = ((yp_s (ta 0) (tb 0) i : Nat) : Int) := by rw [vq5, x2, vq4, ← Int.natCast_mul, Nat.mul_comm]; rfl
      have x4 : Nq5 29 = ((yp_t (ta 0) (tb 0) i : Nat) : Int) := (fq5 _ (by omega)).trans ((fq4 _ (by decide)).trans ((fq3 _ (by decide) (by decide)).trans ((fq2 _ (by decide)).trans ((fq1 _ (by omega)).trans y3))))
      refine xx_aload_n dX9_tell_187 rfl ?_
      refine xx_bipush (v := 29) dX9_tell_188 (by decide) ?_
      refine xx_iload dX9_tell_190 rfl ?_
      refine xx_iconst (v := 0) dX9_tell_192 (by decide) ?_
      refine xx_bipush (v := 29) dX9_tell_193 (by decide) ?_
      refine xx_cst (st2 := [.int 29, .int (if false then 1 else 0), .int (nI (314 + i)), .int 29, .ref b]) rfl ?_
      refine xx_callV (N := mX9_add) (vs := [.int 29, .int (nI (314 + i)), .int (if false then 1 else 0), .int 29]) (b := b) (rest := []) (d2 := 2) (c2 := 0) (s2 := 0) (c3 := 0) (s3 := 0) dX9_tell_195 wm_X9_108 wi_X9_add wv_X9_add (k := 9) rfl (by decide) hbq5 nX9_add ⟨pX9_add, Nat.le_of_ble_eq_true rfl, by decide, Nat.le_of_ble_eq_true rfl, by decide, by decide⟩ (w_X9_add hbq5 hNq5 (x := 29) (y := 314 + i) (c := 29) (mn := false) (by omega) (by omega) (by omega) (by rw [x4]; exact yy_p39n (by omega)) (by rw [x3]; exact yy_p39n (by omega))) (fun v9 Eq6 hC => ?_) (fun E9 B9 hC => absurd hC.1 (by simp))
      obtain ⟨hv9, zq6, ⟨Nq6, hNq6, vq6, fq6⟩, oq6⟩ := hC
      cases hv9
      refine xx_cst (st2 := []) rfl ?_
      have hbq6 := (oq6 b (by omega) (by omega) (by omega) (by omega) (by omega)).trans hbq5
      have st9 : yp_t (ta 0) (tb 0) (i + 1) = yp_t (ta 0) (tb 0) i + yp_s (ta 0) (tb 0) i := rfl
      refine xx_iinc (v := nI (i + 1)) dX9_tell_198 rfl (nI_1 i) (by decide) ?_
      refine xx_clv (lv2 := [(0, .ref b), (1, g9), (2, .int 0), (3, .int (nI m)), (4, .int (nI (i + 1))), (5, .int (nI (314 + i)))]) rfl ?_
      refine xx_goto (tgt := 94) dX9_tell_201 (by decide) ?_
      refine xx_less [0, 1, 2, 3, 4] ?_
      refine xx_clv (lv2 := [(0, .ref b), (1, g9), (2, .int 0), (3, .int (nI m)), (4, .int (nI (i + 1)))]) rfl ?_
      refine ih (i + 1) (by omega) Eq6 Nq6 (by omega) hNq6 (by rw [vq6, x4, x3, st9, Int.natCast_add]; rfl) (fun j hj => ?_) (fun q a1 a2 a3 a4 a5 => (fq6 q a4).trans ((fq5 q (by omega)).trans ((fq4 q a1).trans ((fq3 q a2 a3).trans ((fq2 q a1).trans ((fq1 q (by omega)).trans (y4 q a1 a2 a3 a4 a5))))))) (fun q a1 a2 a3 a4 a5 => (oq6 q a1 a2 a3 a4 a5).trans ((oq5 q a1 a2 a3 a4 a5).trans ((oq4 q a1 a2 a3 a4 a5).trans ((oq3 q a1 a2 a3 a4 a5).trans ((oq2 q a1 a2 a3 a4 a5).trans ((oq1 q a1 a2 a3 a4 a5).trans (y5 q a1 a2 a3 a4 a5)))))))
      by_cases z : j = i
      · rw [z, fq6 _ (by omega), x3]
      · rw [fq6 _ (by omega), fq5 _ (by omega), fq4 _ (by omega), fq3 _ (by omega) (by omega), fq2 _ (by omega), fq1 _ (by omega)]; exact y6 j (by omega)
set_option maxRecDepth 100000 in
theorem l_X9_ta1 {G : xx_G} {l : Launch} {A : xx_H} {b : Nat} {th hr st hl en tu : Value} {m n : Nat} {N : Nat → Int} {ta tb : Nat → Nat → Nat} {g9 : Value} {Q : Option Value ⊕ String → xx_H → Prop} (hb : A.2 b = xx_o 9 (xx_mf b th (.int (nI m)) (.int (nI n)) hr st hl en tu)) (hT : xx_rtl A b m n ta tb) (hk : yt_ok m n ta tb) (hm : m ≤ 6) (hn : n ≤ 6) (k : ∀ (B : xx_H) (N2 : Nat → Int), (B.1 = A.1) → (xx_rw B b N2) → (N2 28 = ((yp_d (tb 1) n : Nat) : Int)) → (∀ q, q ≠ 10 → q ≠ 11 → q ≠ 28 → N2 q = N q) → (∀ q, q ≠ b + 1 → q ≠ b + 2 → q ≠ b + 3 → q ≠ b + 17 → q ≠ b + 18 → B.2 q = A.2 q) → xx_X G l mX9_tell 4 0 0 84 [(0, .ref b), (1, g9), (2, .int 1), (3, .int (nI n))] [] B Q) :
    ∀ (v i : Nat), i + v = n → ∀ (B : xx_H) (N2 : Nat → Int), (B.1 = A.1) → (xx_rw B b N2) → (N2 28 = ((yp_d (tb 1) i : Nat) : Int)) → (∀ q, q ≠ 10 → q ≠ 11 → q ≠ 28 → N2 q = N q) → (∀ q, q ≠ b + 1 → q ≠ b + 2 → q ≠ b + 3 → q ≠ b + 17 → q ≠ b + 18 → B.2 q = A.2 q) → xx_X G l mX9_tell 4 0 0 35 [(0, .ref b), (1, g9), (2, .int 1), (3, .int (nI n)), (4, .int (nI i))] [] B Q := by
  obtain ⟨⟨fa, ta1, ta2⟩, ⟨fb, tb1, tb2⟩⟩ := id hT
  intro v
  induction v with
  | zero =>
    intro i h9i B N2 y1 y2 y3 y4 y5
    have h9e : n = i := by omega
    subst h9e
    refine xx_clv (lv2 := [(0, .ref b), (1, g9), (2, .int 1), (3, .int (nI n)), (4, .int (nI n))]) rfl ?_
    refine xx_iload dX9_tell_35 rfl ?_
    refine xx_iload_n dX9_tell_37 rfl ?_
    refine xx_icmp_ge (tgt := 84) dX9_tell_38 (by decide) (fun j38 => ?_) (fun h => absurd (Int32.le_refl _) h)
    refine xx_less [0, 1, 2, 3] ?_
    refine xx_clv (lv2 := [(0, .ref b), (1, g9), (2, .int 1), (3, .int (nI n))]) rfl ?_
    exact k B N2 y1 y2 y3 y4 y5
  | succ v ih =>
    intro i h9i B N2 y1 y2 y3 y4 y5
    have hb2 := (y5 b (by omega) (by omega) (by omega) (by omega) (by omega)).trans hb
    obtain ⟨t1, t2, t3, _⟩ := hk 1 (by decide) i (by omega)
    have d9 : yp_d (tb 1) i < 2 ^ 62 := Nat.lt_of_le_of_lt (yp_d_b (fun k hk9 => (hk 1 (by decide) k (by omega)).2.2.1)) (Nat.lt_of_le_of_lt (Nat.pow_le_pow_right (by decide) (show i ≤ 6 by omega)) (by decide))
    refine xx_iload dX9_tell_35 rfl ?_
    refine xx_iload_n dX9_tell_37 rfl ?_
    refine xx_icmp_ge (tgt := 84) dX9_tell_38 (by decide) (fun h => absurd h (nI_ge (a := i) (b := n) (by omega) (by omega))) (fun j38 => ?_)
    refine xx_aload_n dX9_tell_41 rfl ?_
    refine xx_bipush (v := 10) dX9_tell_42 (by decide) ?_
    refine xx_aload_n dX9_tell_44 rfl ?_
    refine xx_get xx_c9 dX9_tell_45 wf_X9_29 (j := 9) (by decide) hb2 rfl ?_
    refine xx_bipush (v := 6) dX9_tell_48 (by decide) ?_
    refine xx_iload_n dX9_tell_50 rfl ?_
    refine xx_imul dX9_tell_51 ?_
    refine xx_eqi (y := 6) (by decide) ?_
    refine xx_iload dX9_tell_52 rfl ?_
    refine xx_iadd dX9_tell_54 ?_
    refine xx_eqi (y := nI (6 + i)) (nI_add 6 i) ?_
    refine xx_iald dX9_tell_55 ((y5 (b + 7) (by omega) (by omega) (by omega) (by omega) (by omega)).trans tb1) (vp_in_nI (by omega) (by decide)) ?_
    refine xx_eqi (y := nI (tb 1 i)) (by rw [nI_clamp (by omega)]; exact tb2 1 (by decide) i (by omega)) ?_
    refine xx_i2l dX9_tell_56 ?_
    refine xx_eql (y := lN (tb 1 i)) (nI_l (by omega)) ?_
    refine xx_eql (y := lz ((tb 1 i : Int))) (rfl) ?_
    refine xx_callV (N := mX9_set) (vs := [.int 10, .long (lz ((tb 1 i : Int)))]) (b := b) (rest := []) (d2 := 0) (c2 := 0) (s2 := 0) (c3 := 0) (s3 := 0) dX9_tell_57 wm_X9_80 wi_X9_set wv_X9_set (k := 9) rfl (by decide) hb2 nX9_set ⟨pX9_set, Nat.le_of_ble_eq_true rfl, by decide, Nat.le_of_ble_eq_true rfl, by decide, by decide⟩ (w_X9_set hb2 y2 (a := 10) (v := (tb 1 i : Int)) (by omega) (by omega) (by omega)) (fun v9 Eq1 hC => ?_) (fun E9 B9 hC => absurd hC.1 (by simp))
    obtain ⟨hv9, zq1, ⟨Nq1, hNq1, vq1, fq1⟩, oq1⟩ := hC
    cases hv9
    refine xx_cst (st2 := []) rfl ?_
    have hbq1 := (oq1 b (by omega) (by omega) (by omega) (by omega) (by omega)).trans hb2
    refine xx_aload_n dX9_tell_60 rfl ?_
    refine xx_bipush (v := 28) dX9_tell_61 (by decide) ?_
    refine xx_bipush (v := 10) dX9_tell_63 (by decide) ?_
    refine xx_bipush (v := 11) dX9_tell_65 (by decide) ?_
    have x1 : Nq1 28 = ((yp_d (tb 1) i : Nat) : Int) := (fq1 _ (by decide)).trans y3
    refine xx_callV (N := mX9_times) (vs := [.int 28, .int 10, .int 11]) (b := b) (rest := []) (d2 := 1) (c2 := 0) (s2 := 0) (c3 := 0) (s3 := 0) dX9_tell_67 wm_X9_104 wi_X9_times wv_X9_times (k := 9) rfl (by decide) hbq1 nX9_times ⟨pX9_times, Nat.le_of_ble_eq_true rfl, by decide, Nat.le_of_ble_eq_true rfl, by decide, by decide⟩ (w_X9_times hbq1 hNq1 (x := 28) (y := 10) (c := 11) (p := 4) (q := 36) (by omega) (by omega) (by omega) (by omega) (by omega) (by decide) (by rw [x1]; exact yy_p60 d9) (by rw [vq1]; exact yy_p36 (by omega))) (fun v9 Eq2 hC => ?_) (fun E9 B9 hC => absurd hC.1 (by simp))
    obtain ⟨hv9, zq2, ⟨Nq2, hNq2, vq2, fq2⟩, oq2⟩ := hC
    cases hv9
    refine xx_cst (st2 := []) rfl ?_
    have hbq2 := (oq2 b (by omega) (by omega) (by omega) (by omega) (by omega)).trans hbq1
    refine xx_aload_n dX9_tell_70 rfl ?_
    refine xx_bipush (v := 11) dX9_tell_71 (by decide) ?_
    refine xx_bipush (v := 28) dX9_tell_73 (by decide) ?_
    refine xx_callV (N := mX9_copy) (vs := [.int 11, .int 28]) (b := b) (rest := []) (d2 := 0) (c2 := 0) (s2 := 0) (c3 := 0) (s3 := 0) dX9_tell_75 wm_X9_98 wi_X9_copy wv_X9_copy (k := 9) rfl (by decide) hbq2 nX9_copy ⟨pX9_copy, Nat.le_of_ble_eq_true rfl, by decide, Nat.le_of_ble_eq_true rfl, by decide, by decide⟩ (w_X9_copy hbq2 hNq2 (x := 11) (a := 28) (by omega) (by omega) (by omega)) (fun v9 Eq3 hC => ?_) (fun E9 B9 hC => absurd hC.1 (by simp))
    obtain ⟨hv9, zq3, ⟨Nq3, hNq3, vq3, fq3⟩, oq3⟩ := hC
    cases hv9
    refine xx_cst (st2 := []) rfl ?_
    have hbq3 := (oq3 b (by omega) (by omega) (by omega) (by omega) (by omega)).trans hbq2
    refine xx_iinc (v := nI (i + 1)) dX9_tell_78 rfl (nI_1 i) (by decide) ?_
    refine xx_clv (lv2 := [(0, .ref b), (1, g9), (2, .int 1), (3, .int (nI n)), (4, .int (nI (i + 1)))]) rfl ?_
    refine xx_goto (tgt := 35) dX9_tell_81 (by decide) ?_
    refine xx_less [0, 1, 2, 3, 4] ?_
    refine xx_clv (lv2 := [(0, .ref b), (1, g9), (2, .int 1), (3, .int (nI n)), (4, .int (nI (i + 1)))]) rfl ?_
    refine ih (i + 1) (by omega) Eq3 Nq3 (by omega) hNq3 (by rw [vq3, vq2, x1, vq1, ← Int.natCast_mul]; rfl) (fun q a1 a2 a3 => (fq3 q a3).trans ((fq2 q a2).trans ((fq1 q a1).trans (y4 q a1 a2 a3)))) (fun q a1 a2 a3 a4 a5 => (oq3 q a1 a2 a3 a4 a5).trans ((oq2 q a1 a2 a3 a4 a5).trans ((oq1 q a1 a2 a3 a4 a5).trans (y5 q a1 a2 a3 a4 a5))))
set_option maxRecDepth 100000 in
theorem l_X9_tc1 {G : xx_G} {l : Launch} {A : xx_H} {b : Nat} {th hr st hl en tu : Value} {m n : Nat} {N : Nat → Int} {ta tb : Nat → Nat → Nat} {g9 : Value} {Q : Option Value ⊕ String → xx_H → Prop} (hb : A.2 b = xx_o 9 (xx_mf b th (.int (nI m)) (.int (nI n)) hr st hl en tu)) (hT : xx_rtl A b m n ta tb) (hk : yt_ok m n ta tb) (hm : m ≤ 6) (hn : n ≤ 6) (hD : N 28 = ((yp_d (tb 1) 6 : Nat) : Int)) (k : ∀ (B : xx_H) (N2 : Nat → Int), (B.1 = A.1) → (xx_rw B b N2) → (N2 29 = ((yp_t (ta 1) (tb 1) 6 : Nat) : Int)) → (∀ j, j < 6 → N2 (320 + j) = ((yp_s (ta 1) (tb 1) j : Nat) : Int)) → (∀ q, q ≠ 10 → q ≠ 11 → q ≠ 12 → q ≠ 29 → (q < 320 ∨ 326 ≤ q) → N2 q = N q) → (∀ q, q ≠ b + 1 → q ≠ b + 2 → q ≠ b + 3 → q ≠ b + 17 → q ≠ b + 18 → B.2 q = A.2 q) → xx_X G l mX9_tell 4 0 0 204 [(0, .ref b), (1, g9), (2, .int 1)] [] B Q) :
    ∀ (v i : Nat), i + v = 6 → ∀ (B : xx_H) (N2 : Nat → Int), (B.1 = A.1) → (xx_rw B b N2) → (N2 29 = ((yp_t (ta 1) (tb 1) i : Nat) : Int)) → (∀ j, j < i → N2 (320 + j) = ((yp_s (ta 1) (tb 1) j : Nat) : Int)) → (∀ q, q ≠ 10 → q ≠ 11 → q ≠ 12 → q ≠ 29 → (q < 320 ∨ 326 ≤ q) → N2 q = N q) → (∀ q, q ≠ b + 1 → q ≠ b + 2 → q ≠ b + 3 → q ≠ b + 17 → q ≠ b + 18 → B.2 q = A.2 q) → xx_X G l mX9_tell 4 0 0 94 [(0, .ref b), (1, g9), (2, .int 1), (3, .int (nI n)), (4, .int (nI i))] [] B Q := by
  obtain ⟨⟨fa, ta1, ta2⟩, ⟨fb, tb1, tb2⟩⟩ := id hT
  have d6 : yp_d (tb 1) 6 < 2 ^ 60 := Nat.lt_of_le_of_lt (yp_d_b (fun k hk9 => (hk 1 (by decide) k hk9).2.2.1)) (by decide)
  have hk6 : ∀ k, k < 6 → ta 1 k ≤ 999 ∧ 1 ≤ tb 1 k ∧ tb 1 k ≤ 999 := fun k hk9 => by have := hk 1 (by decide) k hk9; omega
  intro v
  induction v with
  | zero =>
    intro i h9i B N2 y1 y2 y3 y6 y4 y5
    have h9e : 6 = i := by omega
    subst h9e
    refine xx_clv (lv2 := [(0, .ref b), (1, g9), (2, .int 1), (3, .int (nI n)), (4, .int 6)]) rfl ?_
    refine xx_iload dX9_tell_94 rfl ?_
    refine xx_bipush (v := 6) dX9_tell_96 (by decide) ?_
    refine xx_icmp_ge (tgt := 204) dX9_tell_98 (by decide) (fun j98 => ?_) (fun h => absurd (by decide) h)
    refine xx_less [0, 1, 2] ?_
    refine xx_clv (lv2 := [(0, .ref b), (1, g9), (2, .int 1)]) rfl ?_
    exact k B N2 y1 y2 y3 y6 y4 y5
  | succ v ih =>
    intro i h9i B N2 y1 y2 y3 y6 y4 y5
    have hb2 := (y5 b (by omega) (by omega) (by omega) (by omega) (by omega)).trans hb
    obtain ⟨t1, t2, t3, t4⟩ := hk 1 (by decide) i (by omega)
    have s60 := yp_s_b (ta := ta 1) (tb := tb 1) (i := i) (by omega) hk6
    have s63 := yp_t_b hk6 i (by omega)
    refine xx_iload dX9_tell_94 rfl ?_
    refine xx_bipush (v := 6) dX9_tell_96 (by decide) ?_
    refine xx_icmp_ge (tgt := 204) dX9_tell_98 (by decide) (fun h => absurd h (nI_ge (a := i) (b := 6) (by omega) (by omega))) (fun j98 => ?_)
    refine xx_sipush (v := 314) dX9_tell_101 (by decide) ?_
    refine xx_bipush (v := 6) dX9_tell_104 (by decide) ?_
    refine xx_iload_n dX9_tell_106 rfl ?_
    refine xx_imul dX9_tell_107 ?_
    refine xx_eqi (y := 6) (by decide) ?_
    refine xx_iadd dX9_tell_108 ?_
    refine xx_eqi (y := 320) (by decide) ?_
    refine xx_iload dX9_tell_109 rfl ?_
    refine xx_iadd dX9_tell_111 ?_
    refine xx_eqi (y := nI (320 + i)) (nI_add 320 i) ?_
    refine xx_istore dX9_tell_112 (by decide) ?_
    refine xx_clv (lv2 := [(0, .ref b), (1, g9), (2, .int 1), (3, .int (nI n)), (4, .int (nI i)), (5, .int (nI (320 + i)))]) rfl ?_
    refine xx_aload_n dX9_tell_114 rfl ?_
    refine xx_iload dX9_tell_115 rfl ?_
    refine xx_lconst (v := 0) dX9_tell_117 (by decide) ?_
    refine xx_eql (y := lz 0) (by decide) ?_
    refine xx_callV (N := mX9_set) (vs := [.int (nI (320 + i)), .long (lz 0)]) (b := b) (rest := []) (d2 := 0) (c2 := 0) (s2 := 0) (c3 := 0) (s3 := 0) dX9_tell_118 wm_X9_80 wi_X9_set wv_X9_set (k := 9) rfl (by decide) hb2 nX9_set ⟨pX9_set, Nat.le_of_ble_eq_true rfl, by decide, Nat.le_of_ble_eq_true rfl, by decide, by decide⟩ (w_X9_set hb2 y2 (a := 320 + i) (v := 0) (by omega) (by decide) (by decide)) (fun v9 Eq1 hC => ?_) (fun E9 B9 hC => absurd hC.1 (by simp))
    obtain ⟨hv9, zq1, ⟨Nq1, hNq1, vq1, fq1⟩, oq1⟩ := hC
    cases hv9
    refine xx_cst (st2 := []) rfl ?_
    have hbq1 := (oq1 b (by omega) (by omega) (by omega) (by omega) (by omega)).trans hb2
    refine xx_iload dX9_tell_121 rfl ?_
    refine xx_iload_n dX9_tell_123 rfl ?_
    refine xx_icmp_ge (tgt := 198) dX9_tell_124 (by decide) (fun j124 => ?_) (fun j124 => ?_)
    · have j124 : n ≤ i := (nI_leI (a := n) (b := i) (by omega) (by omega)).mp j124
      have st9 : yp_t (ta 1) (tb 1) (i + 1) = yp_t (ta 1) (tb 1) i + yp_s (ta 1) (tb 1) i := rfl
      have s0 : yp_s (ta 1) (tb 1) i = 0 := by unfold yp_s; rw [(t4 (show yy_cn m n 1 ≤ i from j124)).1, Nat.zero_mul]
      refine xx_iinc (v := nI (i + 1)) dX9_tell_198 rfl (nI_1 i) (by decide) ?_
      refine xx_clv (lv2 := [(0, .ref b), (1, g9), (2, .int 1), (3, .int (nI n)), (4, .int (nI (i + 1))), (5, .int (nI (320 + i)))]) rfl ?_
      refine xx_goto (tgt := 94) dX9_tell_201 (by decide) ?_
      refine xx_less [0, 1, 2, 3, 4] ?_
      refine xx_clv (lv2 := [(0, .ref b), (1, g9), (2, .int 1), (3, .int (nI n)), (4, .int (nI (i + 1)))]) rfl ?_
      refine ih (i + 1) (by omega) Eq1 Nq1 (by omega) hNq1 (by rw [fq1 _ (by omega), y3, st9, s0, Nat.add_zero]) (fun j hj => ?_) (fun q a1 a2 a3 a4 a5 => (fq1 q (by omega)).trans (y4 q a1 a2 a3 a4 a5)) (fun q a1 a2 a3 a4 a5 => (oq1 q a1 a2 a3 a4 a5).trans (y5 q a1 a2 a3 a4 a5))
      by_cases z : j = i
      · rw [z, vq1, s0]; rfl
      · rw [fq1 _ (by omega)]; exact y6 j (by omega)
    · have j124 : ¬ n ≤ i := fun hq9 => j124 ((nI_leI (a := n) (b := i) (by omega) (by omega)).mpr hq9)
      refine xx_aload_n dX9_tell_127 rfl ?_
      refine xx_bipush (v := 10) dX9_tell_128 (by decide) ?_
      refine xx_aload_n dX9_tell_130 rfl ?_
      refine xx_get xx_c9 dX9_tell_131 wf_X9_29 (j := 9) (by decide) hbq1 rfl ?_
      refine xx_bipush (v := 6) dX9_tell_134 (by decide) ?_
      refine xx_iload_n dX9_tell_136 rfl ?_
      refine xx_imul dX9_tell_137 ?_
      refine xx_eqi (y := 6) (by decide) ?_
      refine xx_iload dX9_tell_138 rfl ?_
      refine xx_iadd dX9_tell_140 ?_
      refine xx_eqi (y := nI (6 + i)) (nI_add 6 i) ?_
      refine xx_iald dX9_tell_141 ((oq1 (b + 7) (by omega) (by omega) (by omega) (by omega) (by omega)).trans ((y5 (b + 7) (by omega) (by omega) (by omega) (by omega) (by omega)).trans tb1)) (vp_in_nI (by omega) (by decide)) ?_
      refine xx_eqi (y := nI (tb 1 i)) (by rw [nI_clamp (by omega)]; exact tb2 1 (by decide) i (by omega)) ?_
      refine xx_i2l dX9_tell_142 ?_
      refine xx_eql (y := lN (tb 1 i)) (nI_l (by omega)) ?_
      refine xx_eql (y := lz ((tb 1 i : Int))) (rfl) ?_
      refine xx_callV (N := mX9_set) (vs := [.int 10, .long (lz ((tb 1 i : Int)))]) (b := b) (rest := []) (d2 := 0) (c2 := 0) (s2 := 0) (c3 := 0) (s3 := 0) dX9_tell_143 wm_X9_80 wi_X9_set wv_X9_set (k := 9) rfl (by decide) hbq1 nX9_set ⟨pX9_set, Nat.le_of_ble_eq_true rfl, by decide, Nat.le_of_ble_eq_true rfl, by decide, by decide⟩ (w_X9_set hbq1 hNq1 (a := 10) (v := (tb 1 i : Int)) (by omega) (by omega) (by omega)) (fun v9 Eq2 hC => ?_) (fun E9 B9 hC => absurd hC.1 (by simp))
      obtain ⟨hv9, zq2, ⟨Nq2, hNq2, vq2, fq2⟩, oq2⟩ := hC
      cases hv9
      refine xx_cst (st2 := []) rfl ?_
      have hbq2 := (oq2 b (by omega) (by omega) (by omega) (by omega) (by omega)).trans hbq1
      have x1 : Nq2 28 = ((yp_d (tb 1) 6 : Nat) : Int) := (fq2 _ (by decide)).trans ((fq1 _ (by omega)).trans ((y4 _ (by decide) (by decide) (by decide) (by decide) (by decide)).trans hD))
      refine xx_aload_n dX9_tell_146 rfl ?_
      refine xx_bipush (v := 28) dX9_tell_147 (by decide) ?_
      refine xx_bipush (v := 10) dX9_tell_149 (by decide) ?_
      refine xx_bipush (v := 11) dX9_tell_151 (by decide) ?_
      refine xx_bipush (v := 12) dX9_tell_153 (by decide) ?_
      refine xx_callV (N := mX9_divide) (vs := [.int 28, .int 10, .int 11, .int 12]) (b := b) (rest := []) (d2 := 1) (c2 := 0) (s2 := 0) (c3 := 0) (s3 := 0) dX9_tell_155 wm_X9_112 wi_X9_divide wv_X9_divide (k := 9) rfl (by decide) hbq2 nX9_divide ⟨pX9_divide, Nat.le_of_ble_eq_true rfl, by decide, Nat.le_of_ble_eq_true rfl, by decide, by decide⟩ (w_X9_divide hbq2 hNq2 (x := 28) (y := 10) (c := 11) (d := 12) (by decide) (by decide) (by decide) (by decide) (by decide) (by decide) (by decide) (by decide) (by decide) (by rw [vq2]; omega)) (fun v9 Eq3 hC => ?_) (fun E9 B9 hC => absurd hC.1 (by simp))
      obtain ⟨hv9, zq3, ⟨Nq3, hNq3, vq3, fq3⟩, oq3⟩ := hC
      cases hv9
      refine xx_cst (st2 := []) rfl ?_
      have hbq3 := (oq3 b (by omega) (by omega) (by omega) (by omega) (by omega)).trans hbq2
      rw [x1, vq2, yy_qtN] at vq3
      refine xx_aload_n dX9_tell_158 rfl ?_
      refine xx_bipush (v := 10) dX9_tell_159 (by decide) ?_
      refine xx_aload_n dX9_tell_161 rfl ?_
      refine xx_get xx_c9 dX9_tell_162 wf_X9_26 (j := 8) (by decide) hbq3 rfl ?_
      refine xx_bipush (v := 6) dX9_tell_165 (by decide) ?_
      refine xx_iload_n dX9_tell_167 rfl ?_
      refine xx_imul dX9_tell_168 ?_
      refine xx_eqi (y := 6) (by decide) ?_
      refine xx_iload dX9_tell_169 rfl ?_
      refine xx_iadd dX9_tell_171 ?_
      refine xx_eqi (y := nI (6 + i)) (nI_add 6 i) ?_
      refine xx_iald dX9_tell_172 ((oq3 (b + 6) (by omega) (by omega) (by omega) (by omega) (by omega)).trans ((oq2 (b + 6) (by omega) (by omega) (by omega) (by omega) (by omega)).trans ((oq1 (b + 6) (by omega) (by omega) (by omega) (by omega) (by omega)).trans ((y5 (b + 6) (by omega) (by omega) (by omega) (by omega) (by omega)).trans ta1)))) (vp_in_nI (by omega) (by decide)) ?_
      refine xx_eqi (y := nI (ta 1 i)) (by rw [nI_clamp (by omega)]; exact ta2 1 (by decide) i (by omega)) ?_
      refine xx_i2l dX9_tell_173 ?_
      refine xx_eql (y := lN (ta 1 i)) (nI_l (by omega)) ?_
      refine xx_eql (y := lz ((ta 1 i : Int))) (rfl) ?_
      refine xx_callV (N := mX9_set) (vs := [.int 10, .long (lz ((ta 1 i : Int)))]) (b := b) (rest := []) (d2 := 0) (c2 := 0) (s2 := 0) (c3 := 0) (s3 := 0) dX9_tell_174 wm_X9_80 wi_X9_set wv_X9_set (k := 9) rfl (by decide) hbq3 nX9_set ⟨pX9_set, Nat.le_of_ble_eq_true rfl, by decide, Nat.le_of_ble_eq_true rfl, by decide, by decide⟩ (w_X9_set hbq3 hNq3 (a := 10) (v := (ta 1 i : Int)) (by omega) (by omega) (by omega)) (fun v9 Eq4 hC => ?_) (fun E9 B9 hC => absurd hC.1 (by simp))
      obtain ⟨hv9, zq4, ⟨Nq4, hNq4, vq4, fq4⟩, oq4⟩ := hC
      cases hv9
      refine xx_cst (st2 := []) rfl ?_
      have hbq4 := (oq4 b (by omega) (by omega) (by omega) (by omega) (by omega)).trans hbq3
      refine xx_aload_n dX9_tell_177 rfl ?_
      refine xx_bipush (v := 11) dX9_tell_178 (by decide) ?_
      refine xx_bipush (v := 10) dX9_tell_180 (by decide) ?_
      refine xx_iload dX9_tell_182 rfl ?_
      have x2 : Nq4 11 = ((yp_d (tb 1) 6 / tb 1 i : Nat) : Int) := (fq4 _ (by decide)).trans vq3
      refine xx_callV (N := mX9_times) (vs := [.int 11, .int 10, .int (nI (320 + i))]) (b := b) (rest := []) (d2 := 1) (c2 := 0) (s2 := 0) (c3 := 0) (s3 := 0) dX9_tell_184 wm_X9_104 wi_X9_times wv_X9_times (k := 9) rfl (by decide) hbq4 nX9_times ⟨pX9_times, Nat.le_of_ble_eq_true rfl, by decide, Nat.le_of_ble_eq_true rfl, by decide, by decide⟩ (w_X9_times hbq4 hNq4 (x := 11) (y := 10) (c := 320 + i) (p := 4) (q := 36) (by omega) (by omega) (by omega) (by omega) (by omega) (by decide) (by rw [x2]; exact yy_p60 (Nat.lt_of_le_of_lt (Nat.div_le_self _ _) (by omega))) (by rw [vq4]; exact yy_p36 (by omega))) (fun v9 Eq5 hC => ?_) (fun E9 B9 hC => absurd hC.1 (by simp))
      obtain ⟨hv9, zq5, ⟨Nq5, hNq5, vq5, fq5⟩, oq5⟩ := hC
      cases hv9
      refine xx_cst (st2 := []) rfl ?_
      have hbq5 := (oq5 b (by omega) (by omega) (by omega) (by omega) (by omega)).trans hbq4
      have x3 : Nq5 (320 + i) = ((yp_s (ta 1) (tb 1) i : Nat) : Int) := by rw [vq5, x2, vq4, ← Int.natCast_mul, Nat.mul_comm]; rfl
      have x4 : Nq5 29 = ((yp_t (ta 1) (tb 1) i : Nat) : Int) := (fq5 _ (by omega)).trans ((fq4 _ (by decide)).trans ((fq3 _ (by decide) (by decide)).trans ((fq2 _ (by decide)).trans ((fq1 _ (by omega)).trans y3))))
      refine xx_aload_n dX9_tell_187 rfl ?_
      refine xx_bipush (v := 29) dX9_tell_188 (by decide) ?_
      refine xx_iload dX9_tell_190 rfl ?_
      refine xx_iconst (v := 0) dX9_tell_192 (by decide) ?_
      refine xx_bipush (v := 29) dX9_tell_193 (by decide) ?_
      refine xx_cst (st2 := [.int 29, .int (if false then 1 else 0), .int (nI (320 + i)), .int 29, .ref b]) rfl ?_
      refine xx_callV (N := mX9_add) (vs := [.int 29, .int (nI (320 + i)), .int (if false then 1 else 0), .int 29]) (b := b) (rest := []) (d2 := 2) (c2 := 0) (s2 := 0) (c3 := 0) (s3 := 0) dX9_tell_195 wm_X9_108 wi_X9_add wv_X9_add (k := 9) rfl (by decide) hbq5 nX9_add ⟨pX9_add, Nat.le_of_ble_eq_true rfl, by decide, Nat.le_of_ble_eq_true rfl, by decide, by decide⟩ (w_X9_add hbq5 hNq5 (x := 29) (y := 320 + i) (c := 29) (mn := false) (by omega) (by omega) (by omega) (by rw [x4]; exact yy_p39n (by omega)) (by rw [x3]; exact yy_p39n (by omega))) (fun v9 Eq6 hC => ?_) (fun E9 B9 hC => absurd hC.1 (by simp))
      obtain ⟨hv9, zq6, ⟨Nq6, hNq6, vq6, fq6⟩, oq6⟩ := hC
      cases hv9
      refine xx_cst (st2 := []) rfl ?_
      have hbq6 := (oq6 b (by omega) (by omega) (by omega) (by omega) (by omega)).trans hbq5
      have st9 : yp_t (ta 1) (tb 1) (i + 1) = yp_t (ta 1) (tb 1) i + yp_s (ta 1) (tb 1) i := rfl
      refine xx_iinc (v := nI (i + 1)) dX9_tell_198 rfl (nI_1 i) (by decide) ?_
      refine xx_clv (lv2 := [(0, .ref b), (1, g9), (2, .int 1), (3, .int (nI n)), (4, .int (nI (i + 1))), (5, .int (nI (320 + i)))]) rfl ?_
      refine xx_goto (tgt := 94) dX9_tell_201 (by decide) ?_
      refine xx_less [0, 1, 2, 3, 4] ?_
      refine xx_clv (lv2 := [(0, .ref b), (1, g9), (2, .int 1), (3, .int (nI n)), (4, .int (nI (i + 1)))]) rfl ?_
      refine ih (i + 1) (by omega) Eq6 Nq6 (by omega) hNq6 (by rw [vq6, x4, x3, st9, Int.natCast_add]; rfl) (fun j hj => ?_) (fun q a1 a2 a3 a4 a5 => (fq6 q a4).trans ((fq5 q (by omega)).trans ((fq4 q a1).trans ((fq3 q a2 a3).trans ((fq2 q a1).trans ((fq1 q (by omega)).trans (y4 q a1 a2 a3 a4 a5))))))) (fun q a1 a2 a3 a4 a5 => (oq6 q a1 a2 a3 a4 a5).trans ((oq5 q a1 a2 a3 a4 a5).trans ((oq4 q a1 a2 a3 a4 a5).trans ((oq3 q a1 a2 a3 a4 a5).trans ((oq2 q a1 a2 a3 a4 a5).trans ((oq1 q a1 a2 a3 a4 a5).trans (y5 q a1 a2 a3 a4 a5)))))))
      by_cases z : j = i
      · rw [z, fq6 _ (by omega), x3]
      · rw [fq6 _ (by omega), fq5 _ (by omega), fq4 _ (by omega), fq3 _ (by omega) (by omega), fq2 _ (by omega), fq1 _ (by omega)]; exact y6 j (by omega)
set_option maxRecDepth 100000 in
theorem l_X9_tp0 {G : xx_G} {l : Launch} {A : xx_H} {b : Nat} {th hr st hl en tu : Value} {m n : Nat} {N : Nat → Int} {ta tb : Nat → Nat → Nat} {gd : Prop} [Decidable gd] {Q : Option Value ⊕ String → xx_H → Prop} (hb : A.2 b = xx_o 9 (xx_mf b th (.int (nI m)) (.int (nI n)) hr st hl en tu)) (hT : xx_rtl A b m n ta tb) (hk : yt_ok m n ta tb) (hm : m ≤ 6) (hn : n ≤ 6) (hN : xx_rw A b N) (k : ∀ (B : xx_H) (N2 : Nat → Int), B.1 = A.1 → xx_rw B b N2 → (∀ j, j < 6 → N2 (314 + j) = ((yp_s (ta 0) (tb 0) j : Nat) : Int)) → N2 326 = ((yp_d (tb 0) 6 : Nat) : Int) → (∀ q, q ≠ 10 → q ≠ 11 → q ≠ 12 → q ≠ 28 → q ≠ 29 → (q < 314 ∨ 320 ≤ q) → q ≠ 326 → N2 q = N q) → (∀ q, q ≠ b + 1 → q ≠ b + 2 → q ≠ b + 3 → q ≠ b + 17 → q ≠ b + 18 → B.2 q = A.2 q) → xx_X G l mX9_tell 4 0 0 236 [(0, .ref b), (1, .int (if gd ∧ (yp_t (ta 0) (tb 0) 6 = yp_d (tb 0) 6) then 1 else 0)), (2, .int 0)] [] B Q) : xx_X G l mX9_tell 4 0 0 9 [(0, .ref b), (1, .int (if gd then 1 else 0)), (2, .int 0)] [] A Q := by
  refine xx_iload_n dX9_tell_9 rfl ?_
  refine xx_if_ne (tgt := 20) dX9_tell_10 (by decide) (fun h => absurd rfl h) (fun j10 => ?_)
  refine xx_aload_n dX9_tell_13 rfl ?_
  refine xx_get xx_c9 dX9_tell_14 wf_X9_120 (j := 4) (by decide) hb rfl ?_
  refine xx_goto (tgt := 24) dX9_tell_17 (by decide) ?_
  refine xx_istore_n dX9_tell_24 (by decide) ?_
  refine xx_clv (lv2 := [(0, .ref b), (1, .int (if gd then 1 else 0)), (2, .int 0), (3, .int (nI m))]) rfl ?_
  refine xx_aload_n dX9_tell_25 rfl ?_
  refine xx_bipush (v := 28) dX9_tell_26 (by decide) ?_
  refine xx_lconst (v := 1) dX9_tell_28 (by decide) ?_
  refine xx_eql (y := lz 1) (by decide) ?_
  refine xx_callV (N := mX9_set) (vs := [.int 28, .long (lz 1)]) (b := b) (rest := []) (d2 := 0) (c2 := 0) (s2 := 0) (c3 := 0) (s3 := 0) dX9_tell_29 wm_X9_80 wi_X9_set wv_X9_set (k := 9) rfl (by decide) hb nX9_set ⟨pX9_set, Nat.le_of_ble_eq_true rfl, by decide, Nat.le_of_ble_eq_true rfl, by decide, by decide⟩ (w_X9_set hb hN (a := 28) (v := 1) (by omega) (by decide) (by decide)) (fun v9 Eq1 hC => ?_) (fun E9 B9 hC => absurd hC.1 (by simp))
  obtain ⟨hv9, zq1, ⟨Nq1, hNq1, vq1, fq1⟩, oq1⟩ := hC
  cases hv9
  refine xx_cst (st2 := []) rfl ?_
  have hbq1 := (oq1 b (by omega) (by omega) (by omega) (by omega) (by omega)).trans hb
  refine xx_iconst (v := 0) dX9_tell_32 (by decide) ?_
  refine xx_istore dX9_tell_33 (by decide) ?_
  refine xx_clv (lv2 := [(0, .ref b), (1, .int (if gd then 1 else 0)), (2, .int 0), (3, .int (nI m)), (4, .int 0)]) rfl ?_
  refine xx_clv (lv2 := [(0, .ref b), (1, .int (if gd then 1 else 0)), (2, .int 0), (3, .int (nI m)), (4, .int (nI 0))]) rfl ?_
  refine l_X9_ta0 (A := Eq1) (N := Nq1) hbq1 (hT.to (oq1 _ (by omega) (by omega) (by omega) (by omega) (by omega)) (oq1 _ (by omega) (by omega) (by omega) (by omega) (by omega))) hk hm hn (fun B N2 y1 y2 y3 y4 y5 => ?_) m 0 (by omega) Eq1 Nq1 rfl hNq1 vq1 (fun q _ _ _ => rfl) (fun q _ _ _ _ _ => rfl)
  have hbc := (y5 b (by omega) (by omega) (by omega) (by omega) (by omega)).trans hbq1
  refine xx_aload_n dX9_tell_84 rfl ?_
  refine xx_bipush (v := 29) dX9_tell_85 (by decide) ?_
  refine xx_lconst (v := 0) dX9_tell_87 (by decide) ?_
  refine xx_eql (y := lz 0) (by decide) ?_
  refine xx_callV (N := mX9_set) (vs := [.int 29, .long (lz 0)]) (b := b) (rest := []) (d2 := 0) (c2 := 0) (s2 := 0) (c3 := 0) (s3 := 0) dX9_tell_88 wm_X9_80 wi_X9_set wv_X9_set (k := 9) rfl (by decide) hbc nX9_set ⟨pX9_set, Nat.le_of_ble_eq_true rfl, by decide, Nat.le_of_ble_eq_true rfl, by decide, by decide⟩ (w_X9_set hbc y2 (a := 29) (v := 0) (by omega) (by decide) (by decide)) (fun v9 Eqc1 hC => ?_) (fun E9 B9 hC => absurd hC.1 (by simp))
  obtain ⟨hv9, zqc1, ⟨Nqc1, hNqc1, vqc1, fqc1⟩, oqc1⟩ := hC
  cases hv9
  refine xx_cst (st2 := []) rfl ?_
  have hbqc1 := (oqc1 b (by omega) (by omega) (by omega) (by omega) (by omega)).trans hbc
  refine xx_iconst (v := 0) dX9_tell_91 (by decide) ?_
  refine xx_istore dX9_tell_92 (by decide) ?_
  refine xx_clv (lv2 := [(0, .ref b), (1, .int (if gd then 1 else 0)), (2, .int 0), (3, .int (nI m)), (4, .int 0)]) rfl ?_
  refine xx_clv (lv2 := [(0, .ref b), (1, .int (if gd then 1 else 0)), (2, .int 0), (3, .int (nI m)), (4, .int (nI 0))]) rfl ?_
  have dd : Nqc1 28 = ((yp_d (tb 0) 6 : Nat) : Int) := by rw [fqc1 _ (by decide), y3, yp_d_ext (tb := tb 0) (i := m) (n := 6) (by omega) (fun k a c => ((hk 0 (by decide) k c).2.2.2 a).2)]
  have hTc : xx_rtl Eqc1 b m n ta tb := hT.to ((oqc1 _ (by omega) (by omega) (by omega) (by omega) (by omega)).trans ((y5 _ (by omega) (by omega) (by omega) (by omega) (by omega)).trans (oq1 _ (by omega) (by omega) (by omega) (by omega) (by omega)))) ((oqc1 _ (by omega) (by omega) (by omega) (by omega) (by omega)).trans ((y5 _ (by omega) (by omega) (by omega) (by omega) (by omega)).trans (oq1 _ (by omega) (by omega) (by omega) (by omega) (by omega))))
  refine l_X9_tc0 (A := Eqc1) (N := Nqc1) hbqc1 hTc hk hm hn dd (fun C Ng g1 g2 g3 g6 g4 g5 => ?_) 6 0 (by omega) Eqc1 Nqc1 rfl hNqc1 vqc1 (fun j hj => absurd hj (Nat.not_lt_zero j)) (fun q _ _ _ _ _ => rfl) (fun q _ _ _ _ _ => rfl)
  have hbe := (g5 b (by omega) (by omega) (by omega) (by omega) (by omega)).trans hbqc1
  refine xx_aload_n dX9_tell_204 rfl ?_
  refine xx_bipush (v := 28) dX9_tell_205 (by decide) ?_
  refine xx_sipush (v := 326) dX9_tell_207 (by decide) ?_
  refine xx_iload_n dX9_tell_210 rfl ?_
  refine xx_iadd dX9_tell_211 ?_
  refine xx_eqi (y := 326) (by decide) ?_
  have d28 : Ng 28 = ((yp_d (tb 0) 6 : Nat) : Int) := (g4 28 (by decide) (by decide) (by decide) (by decide) (by decide)).trans dd
  refine xx_callV (N := mX9_copy) (vs := [.int 28, .int 326]) (b := b) (rest := []) (d2 := 0) (c2 := 0) (s2 := 0) (c3 := 0) (s3 := 0) dX9_tell_212 wm_X9_98 wi_X9_copy wv_X9_copy (k := 9) rfl (by decide) hbe nX9_copy ⟨pX9_copy, Nat.le_of_ble_eq_true rfl, by decide, Nat.le_of_ble_eq_true rfl, by decide, by decide⟩ (w_X9_copy hbe g2 (x := 28) (a := 326) (by omega) (by omega) (by omega)) (fun v9 Eqe1 hC => ?_) (fun E9 B9 hC => absurd hC.1 (by simp))
  obtain ⟨hv9, zqe1, ⟨Nqe1, hNqe1, vqe1, fqe1⟩, oqe1⟩ := hC
  cases hv9
  refine xx_cst (st2 := []) rfl ?_
  have hbqe1 := (oqe1 b (by omega) (by omega) (by omega) (by omega) (by omega)).trans hbe
  by_cases gz : gd
  · refine xx_clv (lv2 := [(0, .ref b), (1, .int 1), (2, .int 0)]) (by rw [if_pos gz]) ?_
    refine xx_iload_n dX9_tell_215 rfl ?_
    refine xx_if_eq (tgt := 234) dX9_tell_216 (by decide) (fun h => absurd h (by decide)) (fun j216 => ?_)
    refine xx_aload_n dX9_tell_219 rfl ?_
    refine xx_bipush (v := 29) dX9_tell_220 (by decide) ?_
    refine xx_bipush (v := 28) dX9_tell_222 (by decide) ?_
    have c29 : Nqe1 29 = ((yp_t (ta 0) (tb 0) 6 : Nat) : Int) := (fqe1 _ (by decide)).trans g3
    have c28 : Nqe1 28 = ((yp_d (tb 0) 6 : Nat) : Int) := (fqe1 _ (by decide)).trans d28
    refine xx_callV (N := mX9_compare) (vs := [.int 29, .int 28]) (b := b) (rest := []) (d2 := 1) (c2 := 0) (s2 := 0) (c3 := 0) (s3 := 0) dX9_tell_224 wm_X9_159 wi_X9_compare wv_X9_compare (k := 9) rfl (by decide) hbqe1 nX9_compare ⟨pX9_compare, Nat.le_of_ble_eq_true rfl, by decide, Nat.le_of_ble_eq_true rfl, by decide, by decide⟩ (c_X9_compare hbqe1 hNqe1.1 (x := 29) (y := 28) (by decide) (by decide)) (fun v9 B9 hC => ?_) (fun E9 B9 hC => absurd hC.1 (by simp))
    obtain ⟨hv9, e9⟩ := hC
    cases hv9
    refine xx_cst (st2 := [.int (yy_cmz ((yp_t (ta 0) (tb 0) 6 : Nat) : Int) ((yp_d (tb 0) 6 : Nat) : Int))]) (by rw [c29, c28]; rfl) ?_
    rw [e9]
    refine xx_if_ne (tgt := 234) dX9_tell_227 (by decide) (fun j227 => ?_) (fun j227 => ?_)
    · refine xx_iconst (v := 0) dX9_tell_234 (by decide) ?_
      refine xx_istore_n dX9_tell_235 (by decide) ?_
      refine xx_clv (lv2 := [(0, .ref b), (1, .int 0), (2, .int 0)]) rfl ?_
      refine xx_less [0, 1, 2] ?_
      refine xx_clv (lv2 := [(0, .ref b), (1, .int (if gd ∧ (yp_t (ta 0) (tb 0) 6 = yp_d (tb 0) 6) then 1 else 0)), (2, .int 0)]) (by rw [if_neg (fun h => j227 (by rw [h.2]; exact (yy_cmz_0 _ _).mpr rfl))]; rfl) ?_
      exact k Eqe1 Nqe1 (by omega) hNqe1 (fun j hj => (fqe1 _ (by omega)).trans (g6 j hj)) (vqe1.trans d28) (fun q a1 a2 a3 a4 a5 a6 a7 => (fqe1 q a7).trans ((g4 q a1 a2 a3 a5 a6).trans ((fqc1 q a5).trans ((y4 q a1 a2 a4).trans (fq1 q a4))))) (fun q a1 a2 a3 a4 a5 => (oqe1 q a1 a2 a3 a4 a5).trans ((g5 q a1 a2 a3 a4 a5).trans ((oqc1 q a1 a2 a3 a4 a5).trans ((y5 q a1 a2 a3 a4 a5).trans (oq1 q a1 a2 a3 a4 a5)))))
    · refine xx_iconst (v := 1) dX9_tell_230 (by decide) ?_
      refine xx_goto (tgt := 235) dX9_tell_231 (by decide) ?_
      refine xx_istore_n dX9_tell_235 (by decide) ?_
      refine xx_clv (lv2 := [(0, .ref b), (1, .int 1), (2, .int 0)]) rfl ?_
      refine xx_less [0, 1, 2] ?_
      refine xx_clv (lv2 := [(0, .ref b), (1, .int (if gd ∧ (yp_t (ta 0) (tb 0) 6 = yp_d (tb 0) 6) then 1 else 0)), (2, .int 0)]) (by rw [if_pos ⟨gz, by have := (yy_cmz_0 _ _).mp j227; omega⟩]; rfl) ?_
      exact k Eqe1 Nqe1 (by omega) hNqe1 (fun j hj => (fqe1 _ (by omega)).trans (g6 j hj)) (vqe1.trans d28) (fun q a1 a2 a3 a4 a5 a6 a7 => (fqe1 q a7).trans ((g4 q a1 a2 a3 a5 a6).trans ((fqc1 q a5).trans ((y4 q a1 a2 a4).trans (fq1 q a4))))) (fun q a1 a2 a3 a4 a5 => (oqe1 q a1 a2 a3 a4 a5).trans ((g5 q a1 a2 a3 a4 a5).trans ((oqc1 q a1 a2 a3 a4 a5).trans ((y5 q a1 a2 a3 a4 a5).trans (oq1 q a1 a2 a3 a4 a5)))))
  · refine xx_clv (lv2 := [(0, .ref b), (1, .int 0), (2, .int 0)]) (by rw [if_neg gz]) ?_
    refine xx_iload_n dX9_tell_215 rfl ?_
    refine xx_if_eq (tgt := 234) dX9_tell_216 (by decide) (fun j216 => ?_) (fun h => absurd (by decide) h)
    refine xx_iconst (v := 0) dX9_tell_234 (by decide) ?_
    refine xx_istore_n dX9_tell_235 (by decide) ?_
    refine xx_clv (lv2 := [(0, .ref b), (1, .int 0), (2, .int 0)]) rfl ?_
    refine xx_less [0, 1, 2] ?_
    refine xx_clv (lv2 := [(0, .ref b), (1, .int (if gd ∧ (yp_t (ta 0) (tb 0) 6 = yp_d (tb 0) 6) then 1 else 0)), (2, .int 0)]) (by rw [if_neg (fun h => gz h.1)]; rfl) ?_
    exact k Eqe1 Nqe1 (by omega) hNqe1 (fun j hj => (fqe1 _ (by omega)).trans (g6 j hj)) (vqe1.trans d28) (fun q a1 a2 a3 a4 a5 a6 a7 => (fqe1 q a7).trans ((g4 q a1 a2 a3 a5 a6).trans ((fqc1 q a5).trans ((y4 q a1 a2 a4).trans (fq1 q a4))))) (fun q a1 a2 a3 a4 a5 => (oqe1 q a1 a2 a3 a4 a5).trans ((g5 q a1 a2 a3 a4 a5).trans ((oqc1 q a1 a2 a3 a4 a5).trans ((y5 q a1 a2 a3 a4 a5).trans (oq1 q a1 a2 a3 a4 a5)))))
set_option maxRecDepth 100000 in
theorem l_X9_tp1 {G : xx_G} {l : Launch} {A : xx_H} {b : Nat} {th hr st hl en tu : Value} {m n : Nat} {N : Nat → Int} {ta tb : Nat → Nat → Nat} {gd : Prop} [Decidable gd] {Q : Option Value ⊕ String → xx_H → Prop} (hb : A.2 b = xx_o 9 (xx_mf b th (.int (nI m)) (.int (nI n)) hr st hl en tu)) (hT : xx_rtl A b m n ta tb) (hk : yt_ok m n ta tb) (hm : m ≤ 6) (hn : n ≤ 6) (hN : xx_rw A b N) (k : ∀ (B : xx_H) (N2 : Nat → Int), B.1 = A.1 → xx_rw B b N2 → (∀ j, j < 6 → N2 (320 + j) = ((yp_s (ta 1) (tb 1) j : Nat) : Int)) → N2 327 = ((yp_d (tb 1) 6 : Nat) : Int) → (∀ q, q ≠ 10 → q ≠ 11 → q ≠ 12 → q ≠ 28 → q ≠ 29 → (q < 320 ∨ 326 ≤ q) → q ≠ 327 → N2 q = N q) → (∀ q, q ≠ b + 1 → q ≠ b + 2 → q ≠ b + 3 → q ≠ b + 17 → q ≠ b + 18 → B.2 q = A.2 q) → xx_X G l mX9_tell 4 0 0 236 [(0, .ref b), (1, .int (if gd ∧ (yp_t (ta 1) (tb 1) 6 = yp_d (tb 1) 6) then 1 else 0)), (2, .int 1)] [] B Q) : xx_X G l mX9_tell 4 0 0 9 [(0, .ref b), (1, .int (if gd then 1 else 0)), (2, .int 1)] [] A Q := by
  refine xx_iload_n dX9_tell_9 rfl ?_
  refine xx_if_ne (tgt := 20) dX9_tell_10 (by decide) (fun j10 => ?_) (fun h => absurd h (by decide))
  refine xx_aload_n dX9_tell_20 rfl ?_
  refine xx_get xx_c9 dX9_tell_21 wf_X9_123 (j := 5) (by decide) hb rfl ?_
  refine xx_istore_n dX9_tell_24 (by decide) ?_
  refine xx_clv (lv2 := [(0, .ref b), (1, .int (if gd then 1 else 0)), (2, .int 1), (3, .int (nI n))]) rfl ?_
  refine xx_aload_n dX9_tell_25 rfl ?_
  refine xx_bipush (v := 28) dX9_tell_26 (by decide) ?_
  refine xx_lconst (v := 1) dX9_tell_28 (by decide) ?_
  refine xx_eql (y := lz 1) (by decide) ?_
  refine xx_callV (N := mX9_set) (vs := [.int 28, .long (lz 1)]) (b := b) (rest := []) (d2 := 0) (c2 := 0) (s2 := 0) (c3 := 0) (s3 := 0) dX9_tell_29 wm_X9_80 wi_X9_set wv_X9_set (k := 9) rfl (by decide) hb nX9_set ⟨pX9_set, Nat.le_of_ble_eq_true rfl, by decide, Nat.le_of_ble_eq_true rfl, by decide, by decide⟩ (w_X9_set hb hN (a := 28) (v := 1) (by omega) (by decide) (by decide)) (fun v9 Eq1 hC => ?_) (fun E9 B9 hC => absurd hC.1 (by simp))
  obtain ⟨hv9, zq1, ⟨Nq1, hNq1, vq1, fq1⟩, oq1⟩ := hC
  cases hv9
  refine xx_cst (st2 := []) rfl ?_
  have hbq1 := (oq1 b (by omega) (by omega) (by omega) (by omega) (by omega)).trans hb
  refine xx_iconst (v := 0) dX9_tell_32 (by decide) ?_
  refine xx_istore dX9_tell_33 (by decide) ?_
  refine xx_clv (lv2 := [(0, .ref b), (1, .int (if gd then 1 else 0)), (2, .int 1), (3, .int (nI n)), (4, .int 0)]) rfl ?_
  refine xx_clv (lv2 := [(0, .ref b), (1, .int (if gd then 1 else 0)), (2, .int 1), (3, .int (nI n)), (4, .int (nI 0))]) rfl ?_
  refine l_X9_ta1 (A := Eq1) (N := Nq1) hbq1 (hT.to (oq1 _ (by omega) (by omega) (by omega) (by omega) (by omega)) (oq1 _ (by omega) (by omega) (by omega) (by omega) (by omega))) hk hm hn (fun B N2 y1 y2 y3 y4 y5 => ?_) n 0 (by omega) Eq1 Nq1 rfl hNq1 vq1 (fun q _ _ _ => rfl) (fun q _ _ _ _ _ => rfl)
  have hbc := (y5 b (by omega) (by omega) (by omega) (by omega) (by omega)).trans hbq1
  refine xx_aload_n dX9_tell_84 rfl ?_
  refine xx_bipush (v := 29) dX9_tell_85 (by decide) ?_
  refine xx_lconst (v := 0) dX9_tell_87 (by decide) ?_
  refine xx_eql (y := lz 0) (by decide) ?_
  refine xx_callV (N := mX9_set) (vs := [.int 29, .long (lz 0)]) (b := b) (rest := []) (d2 := 0) (c2 := 0) (s2 := 0) (c3 := 0) (s3 := 0) dX9_tell_88 wm_X9_80 wi_X9_set wv_X9_set (k := 9) rfl (by decide) hbc nX9_set ⟨pX9_set, Nat.le_of_ble_eq_true rfl, by decide, Nat.le_of_ble_eq_true rfl, by decide, by decide⟩ (w_X9_set hbc y2 (a := 29) (v := 0) (by omega) (by decide) (by decide)) (fun v9 Eqc1 hC => ?_) (fun E9 B9 hC => absurd hC.1 (by simp))
  obtain ⟨hv9, zqc1, ⟨Nqc1, hNqc1, vqc1, fqc1⟩, oqc1⟩ := hC
  cases hv9
  refine xx_cst (st2 := []) rfl ?_
  have hbqc1 := (oqc1 b (by omega) (by omega) (by omega) (by omega) (by omega)).trans hbc
  refine xx_iconst (v := 0) dX9_tell_91 (by decide) ?_
  refine xx_istore dX9_tell_92 (by decide) ?_
  refine xx_clv (lv2 := [(0, .ref b), (1, .int (if gd then 1 else 0)), (2, .int 1), (3, .int (nI n)), (4, .int 0)]) rfl ?_
  refine xx_clv (lv2 := [(0, .ref b), (1, .int (if gd then 1 else 0)), (2, .int 1), (3, .int (nI n)), (4, .int (nI 0))]) rfl ?_
  have dd : Nqc1 28 = ((yp_d (tb 1) 6 : Nat) : Int) := by rw [fqc1 _ (by decide), y3, yp_d_ext (tb := tb 1) (i := n) (n := 6) (by omega) (fun k a c => ((hk 1 (by decide) k c).2.2.2 a).2)]
  have hTc : xx_rtl Eqc1 b m n ta tb := hT.to ((oqc1 _ (by omega) (by omega) (by omega) (by omega) (by omega)).trans ((y5 _ (by omega) (by omega) (by omega) (by omega) (by omega)).trans (oq1 _ (by omega) (by omega) (by omega) (by omega) (by omega)))) ((oqc1 _ (by omega) (by omega) (by omega) (by omega) (by omega)).trans ((y5 _ (by omega) (by omega) (by omega) (by omega) (by omega)).trans (oq1 _ (by omega) (by omega) (by omega) (by omega) (by omega))))
  refine l_X9_tc1 (A := Eqc1) (N := Nqc1) hbqc1 hTc hk hm hn dd (fun C Ng g1 g2 g3 g6 g4 g5 => ?_) 6 0 (by omega) Eqc1 Nqc1 rfl hNqc1 vqc1 (fun j hj => absurd hj (Nat.not_lt_zero j)) (fun q _ _ _ _ _ => rfl) (fun q _ _ _ _ _ => rfl)
  have hbe := (g5 b (by omega) (by omega) (by omega) (by omega) (by omega)).trans hbqc1
  refine xx_aload_n dX9_tell_204 rfl ?_
  refine xx_bipush (v := 28) dX9_tell_205 (by decide) ?_
  refine xx_sipush (v := 326) dX9_tell_207 (by decide) ?_
  refine xx_iload_n dX9_tell_210 rfl ?_
  refine xx_iadd dX9_tell_211 ?_
  refine xx_eqi (y := 327) (by decide) ?_
  have d28 : Ng 28 = ((yp_d (tb 1) 6 : Nat) : Int) := (g4 28 (by decide) (by decide) (by decide) (by decide) (by decide)).trans dd
  refine xx_callV (N := mX9_copy) (vs := [.int 28, .int 327]) (b := b) (rest := []) (d2 := 0) (c2 := 0) (s2 := 0) (c3 := 0) (s3 := 0) dX9_tell_212 wm_X9_98 wi_X9_copy wv_X9_copy (k := 9) rfl (by decide) hbe nX9_copy ⟨pX9_copy, Nat.le_of_ble_eq_true rfl, by decide, Nat.le_of_ble_eq_true rfl, by decide, by decide⟩ (w_X9_copy hbe g2 (x := 28) (a := 327) (by omega) (by omega) (by omega)) (fun v9 Eqe1 hC => ?_) (fun E9 B9 hC => absurd hC.1 (by simp))
  obtain ⟨hv9, zqe1, ⟨Nqe1, hNqe1, vqe1, fqe1⟩, oqe1⟩ := hC
  cases hv9
  refine xx_cst (st2 := []) rfl ?_
  have hbqe1 := (oqe1 b (by omega) (by omega) (by omega) (by omega) (by omega)).trans hbe
  by_cases gz : gd
  · refine xx_clv (lv2 := [(0, .ref b), (1, .int 1), (2, .int 1)]) (by rw [if_pos gz]) ?_
    refine xx_iload_n dX9_tell_215 rfl ?_
    refine xx_if_eq (tgt := 234) dX9_tell_216 (by decide) (fun h => absurd h (by decide)) (fun j216 => ?_)
    refine xx_aload_n dX9_tell_219 rfl ?_
    refine xx_bipush (v := 29) dX9_tell_220 (by decide) ?_
    refine xx_bipush (v := 28) dX9_tell_222 (by decide) ?_
    have c29 : Nqe1 29 = ((yp_t (ta 1) (tb 1) 6 : Nat) : Int) := (fqe1 _ (by decide)).trans g3
    have c28 : Nqe1 28 = ((yp_d (tb 1) 6 : Nat) : Int) := (fqe1 _ (by decide)).trans d28
    refine xx_callV (N := mX9_compare) (vs := [.int 29, .int 28]) (b := b) (rest := []) (d2 := 1) (c2 := 0) (s2 := 0) (c3 := 0) (s3 := 0) dX9_tell_224 wm_X9_159 wi_X9_compare wv_X9_compare (k := 9) rfl (by decide) hbqe1 nX9_compare ⟨pX9_compare, Nat.le_of_ble_eq_true rfl, by decide, Nat.le_of_ble_eq_true rfl, by decide, by decide⟩ (c_X9_compare hbqe1 hNqe1.1 (x := 29) (y := 28) (by decide) (by decide)) (fun v9 B9 hC => ?_) (fun E9 B9 hC => absurd hC.1 (by simp))
    obtain ⟨hv9, e9⟩ := hC
    cases hv9
    refine xx_cst (st2 := [.int (yy_cmz ((yp_t (ta 1) (tb 1) 6 : Nat) : Int) ((yp_d (tb 1) 6 : Nat) : Int))]) (by rw [c29, c28]; rfl) ?_
    rw [e9]
    refine xx_if_ne (tgt := 234) dX9_tell_227 (by decide) (fun j227 => ?_) (fun j227 => ?_)
    · refine xx_iconst (v := 0) dX9_tell_234 (by decide) ?_
      refine xx_istore_n dX9_tell_235 (by decide) ?_
      refine xx_clv (lv2 := [(0, .ref b), (1, .int 0), (2, .int 1)]) rfl ?_
      refine xx_less [0, 1, 2] ?_
      refine xx_clv (lv2 := [(0, .ref b), (1, .int (if gd ∧ (yp_t (ta 1) (tb 1) 6 = yp_d (tb 1) 6) then 1 else 0)), (2, .int 1)]) (by rw [if_neg (fun h => j227 (by rw [h.2]; exact (yy_cmz_0 _ _).mpr rfl))]; rfl) ?_
      exact k Eqe1 Nqe1 (by omega) hNqe1 (fun j hj => (fqe1 _ (by omega)).trans (g6 j hj)) (vqe1.trans d28) (fun q a1 a2 a3 a4 a5 a6 a7 => (fqe1 q a7).trans ((g4 q a1 a2 a3 a5 a6).trans ((fqc1 q a5).trans ((y4 q a1 a2 a4).trans (fq1 q a4))))) (fun q a1 a2 a3 a4 a5 => (oqe1 q a1 a2 a3 a4 a5).trans ((g5 q a1 a2 a3 a4 a5).trans ((oqc1 q a1 a2 a3 a4 a5).trans ((y5 q a1 a2 a3 a4 a5).trans (oq1 q a1 a2 a3 a4 a5)))))
    · refine xx_iconst (v := 1) dX9_tell_230 (by decide) ?_
      refine xx_goto (tgt := 235) dX9_tell_231 (by decide) ?_
      refine xx_istore_n dX9_tell_235 (by decide) ?_
      refine xx_clv (lv2 := [(0, .ref b), (1, .int 1), (2, .int 1)]) rfl ?_
      refine xx_less [0, 1, 2] ?_
      refine xx_clv (lv2 := [(0, .ref b), (1, .int (if gd ∧ (yp_t (ta 1) (tb 1) 6 = yp_d (tb 1) 6) then 1 else 0)), (2, .int 1)]) (by rw [if_pos ⟨gz, by have := (yy_cmz_0 _ _).mp j227; omega⟩]; rfl) ?_
      exact k Eqe1 Nqe1 (by omega) hNqe1 (fun j hj => (fqe1 _ (by omega)).trans (g6 j hj)) (vqe1.trans d28) (fun q a1 a2 a3 a4 a5 a6 a7 => (fqe1 q a7).trans ((g4 q a1 a2 a3 a5 a6).trans ((fqc1 q a5).trans ((y4 q a1 a2 a4).trans (fq1 q a4))))) (fun q a1 a2 a3 a4 a5 => (oqe1 q a1 a2 a3 a4 a5).trans ((g5 q a1 a2 a3 a4 a5).trans ((oqc1 q a1 a2 a3 a4 a5).trans ((y5 q a1 a2 a3 a4 a5).trans (oq1 q a1 a2 a3 a4 a5)))))
  · refine xx_clv (lv2 := [(0, .ref b), (1, .int 0), (2, .int 1)]) (by rw [if_neg gz]) ?_
    refine xx_iload_n dX9_tell_215 rfl ?_
    refine xx_if_eq (tgt := 234) dX9_tell_216 (by decide) (fun j216 => ?_) (fun h => absurd (by decide) h)
    refine xx_iconst (v := 0) dX9_tell_234 (by decide) ?_
    refine xx_istore_n dX9_tell_235 (by decide) ?_
    refine xx_clv (lv2 := [(0, .ref b), (1, .int 0), (2, .int 1)]) rfl ?_
    refine xx_less [0, 1, 2] ?_
    refine xx_clv (lv2 := [(0, .ref b), (1, .int (if gd ∧ (yp_t (ta 1) (tb 1) 6 = yp_d (tb 1) 6) then 1 else 0)), (2, .int 1)]) (by rw [if_neg (fun h => gz h.1)]; rfl) ?_
    exact k Eqe1 Nqe1 (by omega) hNqe1 (fun j hj => (fqe1 _ (by omega)).trans (g6 j hj)) (vqe1.trans d28) (fun q a1 a2 a3 a4 a5 a6 a7 => (fqe1 q a7).trans ((g4 q a1 a2 a3 a5 a6).trans ((fqc1 q a5).trans ((y4 q a1 a2 a4).trans (fq1 q a4))))) (fun q a1 a2 a3 a4 a5 => (oqe1 q a1 a2 a3 a4 a5).trans ((g5 q a1 a2 a3 a4 a5).trans ((oqc1 q a1 a2 a3 a4 a5).trans ((y5 q a1 a2 a3 a4 a5).trans (oq1 q a1 a2 a3 a4 a5)))))
set_option maxRecDepth 100000 in
theorem c_X9_tell {G : xx_G} {l : Launch} {A : xx_H} {b : Nat} {th hr st hl en tu : Value} {m n : Nat} {N : Nat → Int} {ta tb : Nat → Nat → Nat} (hb : A.2 b = xx_o 9 (xx_mf b th (.int (nI m)) (.int (nI n)) hr st hl en tu)) (hT : xx_rtl A b m n ta tb) (hk : yt_ok m n ta tb) (hm : m ≤ 6) (hn : n ≤ 6) (hN : xx_rw A b N) : xx_X G l mX9_tell 4 0 0 0 (lv_args 0 [.ref b]) [] A (fun z B => B.1 = A.1 ∧ (∃ N2, xx_rw B b N2 ∧ xx_pl N2 314 (fun p k => ((yp_s (ta p) (tb p) k : Nat) : Int)) (fun p => ((yp_d (tb p) 6 : Nat) : Int)) ∧ (∀ q, q ≠ 10 → q ≠ 11 → q ≠ 12 → q ≠ 28 → q ≠ 29 → (q < 314 ∨ 328 ≤ q) → N2 q = N q)) ∧ (∀ q, q ≠ b + 1 → q ≠ b + 2 → q ≠ b + 3 → q ≠ b + 17 → q ≠ b + 18 → B.2 q = A.2 q) ∧ (((∀ p, p < 2 → yp_t (ta p) (tb p) 6 = yp_d (tb p) 6) ∧ z = .inl (some (.int 1))) ∨ (¬ (∀ p, p < 2 → yp_t (ta p) (tb p) 6 = yp_d (tb p) 6) ∧ z = .inl (some (.int 0))))) := by
  refine xx_clv (lv2 := [(0, .ref b)]) rfl ?_
  refine xx_iconst (v := 1) dX9_tell_0 (by decide) ?_
  refine xx_istore_n dX9_tell_1 (by decide) ?_
  refine xx_clv (lv2 := [(0, .ref b), (1, .int 1)]) rfl ?_
  refine xx_iconst (v := 0) dX9_tell_2 (by decide) ?_
  refine xx_istore_n dX9_tell_3 (by decide) ?_
  refine xx_clv (lv2 := [(0, .ref b), (1, .int 1), (2, .int 0)]) rfl ?_
  refine xx_iload_n dX9_tell_4 rfl ?_
  refine xx_iconst (v := 2) dX9_tell_5 (by decide) ?_
  refine xx_icmp_ge (tgt := 242) dX9_tell_6 (by decide) (fun h => absurd h (by decide)) (fun j6 => ?_)
  refine xx_clv (lv2 := [(0, .ref b), (1, .int (if True then 1 else 0)), (2, .int 0)]) rfl ?_
  refine l_X9_tp0 (gd := True) hb hT hk hm hn hN (fun B N2 y1 y2 y3 y4 y5 y6 => ?_)
  have hb2 := (y6 b (by omega) (by omega) (by omega) (by omega) (by omega)).trans hb
  refine xx_iinc (v := 1) dX9_tell_236 rfl (by decide) (by decide) ?_
  refine xx_clv (lv2 := [(0, .ref b), (1, .int (if True ∧ yp_t (ta 0) (tb 0) 6 = yp_d (tb 0) 6 then 1 else 0)), (2, .int 1)]) rfl ?_
  refine xx_goto (tgt := 4) dX9_tell_239 (by decide) ?_
  refine xx_iload_n dX9_tell_4 rfl ?_
  refine xx_iconst (v := 2) dX9_tell_5 (by decide) ?_
  refine xx_icmp_ge (tgt := 242) dX9_tell_6 (by decide) (fun h => absurd h (by decide)) (fun j6 => ?_)
  refine l_X9_tp1 (gd := True ∧ yp_t (ta 0) (tb 0) 6 = yp_d (tb 0) 6) hb2 (hT.to (y6 _ (by omega) (by omega) (by omega) (by omega) (by omega)) (y6 _ (by omega) (by omega) (by omega) (by omega) (by omega))) hk hm hn y2 (fun C Ng g1 g2 g3 g4 g5 g6 => ?_)
  refine xx_iinc (v := 2) dX9_tell_236 rfl (by decide) (by decide) ?_
  refine xx_clv (lv2 := [(0, .ref b), (1, .int (if (True ∧ yp_t (ta 0) (tb 0) 6 = yp_d (tb 0) 6) ∧ yp_t (ta 1) (tb 1) 6 = yp_d (tb 1) 6 then 1 else 0)), (2, .int 2)]) rfl ?_
  refine xx_goto (tgt := 4) dX9_tell_239 (by decide) ?_
  refine xx_iload_n dX9_tell_4 rfl ?_
  refine xx_iconst (v := 2) dX9_tell_5 (by decide) ?_
  refine xx_icmp_ge (tgt := 242) dX9_tell_6 (by decide) (fun j6 => ?_) (fun h => absurd (by decide) h)
  refine xx_iload_n dX9_tell_242 rfl ?_
  have jj : ((True ∧ yp_t (ta 0) (tb 0) 6 = yp_d (tb 0) 6) ∧ yp_t (ta 1) (tb 1) 6 = yp_d (tb 1) 6) ↔ (∀ p, p < 2 → yp_t (ta p) (tb p) 6 = yp_d (tb p) 6) := ⟨fun h p hp => by rcases (show p = 0 ∨ p = 1 by omega) with z | z; rw [z]; exact h.1.2; rw [z]; exact h.2, fun h => ⟨⟨trivial, h 0 (by decide)⟩, h 1 (by decide)⟩⟩
  refine xx_zret dX9_tell_243 rfl (by split <;> rfl) ⟨by omega, ⟨Ng, g2, ⟨fun q hq k hk9 => ?_, fun q hq => ?_⟩, fun q a1 a2 a3 a4 a5 a6 => (g5 q a1 a2 a3 a4 a5 (by omega) (by omega)).trans (y5 q a1 a2 a3 a4 a5 (by omega) (by omega))⟩, fun q a1 a2 a3 a4 a5 => (g6 q a1 a2 a3 a4 a5).trans (y6 q a1 a2 a3 a4 a5), ?_⟩
  · rcases (show q = 0 ∨ q = 1 by omega) with z | z
    · subst z; rw [g5 _ (by omega) (by omega) (by omega) (by omega) (by omega) (by omega) (by omega)]; exact y3 k hk9
    · subst z; exact g3 k hk9
  · rcases (show q = 0 ∨ q = 1 by omega) with z | z
    · subst z; rw [g5 _ (by omega) (by omega) (by omega) (by omega) (by omega) (by omega) (by omega)]; exact y4
    · subst z; exact g4
  · by_cases z : ((True ∧ yp_t (ta 0) (tb 0) 6 = yp_d (tb 0) 6) ∧ yp_t (ta 1) (tb 1) 6 = yp_d (tb 1) 6)
    · exact Or.inl ⟨jj.mp z, by rw [if_pos z]⟩
    · exact Or.inr ⟨fun h => z (jj.mpr h), by rw [if_neg z]⟩
set_option maxRecDepth 100000 in
theorem c_X9_place_t {G : xx_G} {l : Launch} {A : xx_H} {b : Nat} {th hr st hl en tu : Value} {m n : Nat} {N : Nat → Int} {ta tb : Nat → Nat → Nat} (hb : A.2 b = xx_o 9 (xx_mf b th (.int (nI m)) (.int (nI n)) hr st hl en tu)) (hT : xx_rtl A b m n ta tb) (hk : yt_ok m n ta tb) (hm : m ≤ 6) (hn : n ≤ 6) (hm1 : 1 ≤ m) (hN : xx_rw A b N) : xx_X G l mX9_placeOf 5 0 0 0 (lv_args 0 [.ref b, .int (-2)]) [] A (fun z B => B.1 = A.1 ∧ (∃ N2, xx_rw B b N2 ∧ xx_ns N2 N ∧ (((∀ p, p < 2 → yp_t (ta p) (tb p) 6 = yp_d (tb p) 6) ∧ z = .inl (some (.int (nI 314))) ∧ xx_pl N2 314 (fun p k => ((yp_s (ta p) (tb p) k : Nat) : Int)) (fun p => ((yp_d (tb p) 6 : Nat) : Int))) ∨ (¬ (∀ p, p < 2 → yp_t (ta p) (tb p) 6 = yp_d (tb p) 6) ∧ z = .inl (some (.int (-1)))))) ∧ (∀ q, q ≠ b + 1 → q ≠ b + 2 → q ≠ b + 3 → q ≠ b + 17 → q ≠ b + 18 → B.2 q = A.2 q)) := by
  refine xx_clv (lv2 := [(0, .ref b), (1, .int (-2))]) rfl ?_
  refine xx_aload_n dX9_placeOf_0 rfl ?_
  refine xx_get xx_c9 dX9_placeOf_1 wf_X9_120 (j := 4) (by decide) hb rfl ?_
  refine xx_if_eq (tgt := 13) dX9_placeOf_4 (by decide) (fun h => absurd h (nI_ne0 (n := m) (by omega) (by omega))) (fun j4 => ?_)
  refine xx_iload_n dX9_placeOf_7 rfl ?_
  refine xx_bipush (v := (-2)) dX9_placeOf_8 (by decide) ?_
  refine xx_icmp_ge (tgt := 15) dX9_placeOf_10 (by decide) (fun j10 => ?_) (fun h => absurd (by decide) h)
  refine xx_iload_n dX9_placeOf_15 rfl ?_
  refine xx_bipush (v := (-2)) dX9_placeOf_16 (by decide) ?_
  refine xx_icmp_ne (tgt := 36) dX9_placeOf_18 (by decide) (fun h => absurd rfl h) (fun j18 => ?_)
  refine xx_aload_n dX9_placeOf_21 rfl ?_
  refine xx_callV (N := mX9_tell) (vs := []) (b := b) (rest := []) (d2 := 4) (c2 := 0) (s2 := 0) (c3 := 0) (s3 := 0) dX9_placeOf_22 wm_X9_180 wi_X9_tell wv_X9_tell (k := 9) rfl (by decide) hb nX9_tell ⟨pX9_tell, Nat.le_of_ble_eq_true rfl, by decide, Nat.le_of_ble_eq_true rfl, by decide, by decide⟩ (c_X9_tell hb hT hk hm hn hN) (fun v9 Eq0 hC => ?_) (fun E9 B9 hC => by obtain ⟨_, _, _, ⟨_, h⟩ | ⟨_, h⟩⟩ := hC <;> cases h)
  obtain ⟨z0, ⟨Nq0, hNq0, pl0, fq0⟩, oq0, hC⟩ := hC
  have ns0 : xx_ns Nq0 N := ⟨fq0 16 (by decide) (by decide) (by decide) (by decide) (by decide) (by decide), fq0 17 (by decide) (by decide) (by decide) (by decide) (by decide) (by decide), fun q hq => fq0 q (by omega) (by omega) (by omega) (by omega) (by omega) (by omega)⟩
  rcases hC with ⟨hS, hv9⟩ | ⟨hS, hv9⟩
  · cases hv9
    refine xx_cst (st2 := [.int 1]) rfl ?_
    refine xx_if_eq (tgt := 34) dX9_placeOf_25 (by decide) (fun h => absurd h (by decide)) (fun j25 => ?_)
    refine xx_sipush (v := 314) dX9_placeOf_28 (by decide) ?_
    refine xx_goto (tgt := 35) dX9_placeOf_31 (by decide) ?_
    exact xx_iret dX9_placeOf_35 rfl ⟨z0, ⟨Nq0, hNq0, ns0, Or.inl ⟨hS, rfl, pl0⟩⟩, oq0⟩
  · cases hv9
    refine xx_cst (st2 := [.int 0]) rfl ?_
    refine xx_if_eq (tgt := 34) dX9_placeOf_25 (by decide) (fun j25 => ?_) (fun h => absurd (by decide) h)
    refine xx_iconst (v := (-1)) dX9_placeOf_34 (by decide) ?_
    exact xx_iret dX9_placeOf_35 rfl ⟨z0, ⟨Nq0, hNq0, ns0, Or.inr ⟨hS, rfl⟩⟩, oq0⟩
set_option maxRecDepth 100000 in
theorem c_X9_place_r1 {G : xx_G} {l : Launch} {A : xx_H} {b : Nat} {th st hl en tu : Value} {m n : Nat} {lb : Nat} (hb : A.2 b = xx_o 9 (xx_mf b th (.int (nI m)) (.int (nI n)) (.int (nI lb)) st hl en tu)) (hm1 : 1 ≤ m) (hm : m ≤ 6) (hlb : lb < 2 ^ 31) : xx_X G l mX9_placeOf 5 0 0 0 (lv_args 0 [.ref b, .int (-1)]) [] A (fun z B => z = .inl (some (.int 300)) ∧ B = A) := by
  refine xx_clv (lv2 := [(0, .ref b), (1, .int (-1))]) rfl ?_
  refine xx_aload_n dX9_placeOf_0 rfl ?_
  refine xx_get xx_c9 dX9_placeOf_1 wf_X9_120 (j := 4) (by decide) hb rfl ?_
  refine xx_if_eq (tgt := 13) dX9_placeOf_4 (by decide) (fun h => absurd h (nI_ne0 (n := m) (by omega) (by omega))) (fun j4 => ?_)
  refine xx_iload_n dX9_placeOf_7 rfl ?_
  refine xx_bipush (v := (-2)) dX9_placeOf_8 (by decide) ?_
  refine xx_icmp_ge (tgt := 15) dX9_placeOf_10 (by decide) (fun j10 => ?_) (fun h => absurd (by decide) h)
  refine xx_iload_n dX9_placeOf_15 rfl ?_
  refine xx_bipush (v := (-2)) dX9_placeOf_16 (by decide) ?_
  refine xx_icmp_ne (tgt := 36) dX9_placeOf_18 (by decide) (fun j18 => ?_) (fun h => absurd h (by decide))
  refine xx_iload_n dX9_placeOf_36 rfl ?_
  refine xx_iconst (v := (-1)) dX9_placeOf_37 (by decide) ?_
  refine xx_icmp_ne (tgt := 56) dX9_placeOf_38 (by decide) (fun h => absurd rfl h) (fun j38 => ?_)
  refine xx_aload_n dX9_placeOf_41 rfl ?_
  refine xx_get xx_c9 dX9_placeOf_42 wf_X9_32 (j := 10) (by decide) hb rfl ?_
  refine xx_if_ge (tgt := 52) dX9_placeOf_45 (by decide) (fun j45 => ?_) (fun h => absurd ((nI_leI (a := 0) (b := lb) (by decide) (by omega)).mpr (Nat.zero_le _)) h)
  refine xx_sipush (v := 300) dX9_placeOf_52 (by decide) ?_
  exact xx_iret dX9_placeOf_55 rfl ⟨rfl, rfl⟩
set_option maxRecDepth 100000 in
theorem c_X9_place_r0 {G : xx_G} {l : Launch} {A : xx_H} {b : Nat} {th st hl en tu : Value} {m n : Nat} {lb : Nat} (hb : A.2 b = xx_o 9 (xx_mf b th (.int (nI m)) (.int (nI n)) (.int (-1)) st hl en tu)) (hm1 : 1 ≤ m) (hm : m ≤ 6) : xx_X G l mX9_placeOf 5 0 0 0 (lv_args 0 [.ref b, .int (-1)]) [] A (fun z B => z = .inl (some (.int (-1))) ∧ B = A) := by
  refine xx_clv (lv2 := [(0, .ref b), (1, .int (-1))]) rfl ?_
  refine xx_aload_n dX9_placeOf_0 rfl ?_
  refine xx_get xx_c9 dX9_placeOf_1 wf_X9_120 (j := 4) (by decide) hb rfl ?_
  refine xx_if_eq (tgt := 13) dX9_placeOf_4 (by decide) (fun h => absurd h (nI_ne0 (n := m) (by omega) (by omega))) (fun j4 => ?_)
  refine xx_iload_n dX9_placeOf_7 rfl ?_
  refine xx_bipush (v := (-2)) dX9_placeOf_8 (by decide) ?_
  refine xx_icmp_ge (tgt := 15) dX9_placeOf_10 (by decide) (fun j10 => ?_) (fun h => absurd (by decide) h)
  refine xx_iload_n dX9_placeOf_15 rfl ?_
  refine xx_bipush (v := (-2)) dX9_placeOf_16 (by decide) ?_
  refine xx_icmp_ne (tgt := 36) dX9_placeOf_18 (by decide) (fun j18 => ?_) (fun h => absurd h (by decide))
  refine xx_iload_n dX9_placeOf_36 rfl ?_
  refine xx_iconst (v := (-1)) dX9_placeOf_37 (by decide) ?_
  refine xx_icmp_ne (tgt := 56) dX9_placeOf_38 (by decide) (fun h => absurd rfl h) (fun j38 => ?_)
  refine xx_aload_n dX9_placeOf_41 rfl ?_
  refine xx_get xx_c9 dX9_placeOf_42 wf_X9_32 (j := 10) (by decide) hb rfl ?_
  refine xx_if_ge (tgt := 52) dX9_placeOf_45 (by decide) (fun h => absurd h (by decide)) (fun j45 => ?_)
  refine xx_iconst (v := (-1)) dX9_placeOf_48 (by decide) ?_
  refine xx_goto (tgt := 55) dX9_placeOf_49 (by decide) ?_
  exact xx_iret dX9_placeOf_55 rfl ⟨rfl, rfl⟩
set_option maxRecDepth 100000 in
theorem c_X9_place_e {G : xx_G} {l : Launch} {A : xx_H} {b : Nat} {th hr st tu : Value} {m n : Nat} {li : Bool} {ec : Nat} {x : Int32} (hb : A.2 b = xx_o 9 (xx_mf b th (.int (nI m)) (.int (nI n)) hr st (.int (if li then 1 else 0)) (.int (nI ec)) tu)) (hm1 : 1 ≤ m) (hm : m ≤ 6) (hx2 : x ≠ -2) (hx1 : x ≠ -1) (hec : ec ≤ 100) : xx_X G l mX9_placeOf 5 0 0 0 (lv_args 0 [.ref b, .int x]) [] A (fun z B => B = A ∧ ((∃ e, e < ec ∧ x = nI e ∧ li = true ∧ z = .inl (some (.int (nI (330 + 14 * e))))) ∨ (¬ (li = true ∧ ∃ e, e < ec ∧ x = nI e) ∧ z = .inl (some (.int (-1)))))) := by
  refine xx_clv (lv2 := [(0, .ref b), (1, .int x)]) rfl ?_
  refine xx_aload_n dX9_placeOf_0 rfl ?_
  refine xx_get xx_c9 dX9_placeOf_1 wf_X9_120 (j := 4) (by decide) hb rfl ?_
  refine xx_if_eq (tgt := 13) dX9_placeOf_4 (by decide) (fun h => absurd h (nI_ne0 (n := m) (by omega) (by omega))) (fun j4 => ?_)
  refine xx_iload_n dX9_placeOf_7 rfl ?_
  refine xx_bipush (v := (-2)) dX9_placeOf_8 (by decide) ?_
  refine xx_icmp_ge (tgt := 15) dX9_placeOf_10 (by decide) (fun j10 => ?_) (fun j10 => ?_)
  · refine xx_iload_n dX9_placeOf_15 rfl ?_
    refine xx_bipush (v := (-2)) dX9_placeOf_16 (by decide) ?_
    refine xx_icmp_ne (tgt := 36) dX9_placeOf_18 (by decide) (fun j18 => ?_) (fun h => absurd h hx2)
    refine xx_iload_n dX9_placeOf_36 rfl ?_
    refine xx_iconst (v := (-1)) dX9_placeOf_37 (by decide) ?_
    refine xx_icmp_ne (tgt := 56) dX9_placeOf_38 (by decide) (fun j38 => ?_) (fun h => absurd h hx1)
    have p9 := ys_hi j10 hx2 hx1
    obtain ⟨e, he, ee⟩ := nI_of p9
    subst ee
    refine xx_clv (lv2 := [(0, .ref b), (1, .int (nI e))]) rfl ?_
    refine xx_aload_n dX9_placeOf_56 rfl ?_
    refine xx_get xx_c9 dX9_placeOf_57 wf_X9_132 (j := 15) (by decide) hb rfl ?_
    refine xx_if_eq (tgt := 71) dX9_placeOf_60 (by decide) (fun j60 => ?_) (fun j60 => ?_)
    · refine xx_iconst (v := (-1)) dX9_placeOf_71 (by decide) ?_
      refine xx_goto (tgt := 83) dX9_placeOf_72 (by decide) ?_
      exact xx_iret dX9_placeOf_83 rfl ⟨rfl, Or.inr ⟨fun h => by rw [if_pos h.1] at j60; exact absurd j60 (by decide), rfl⟩⟩
    · refine xx_iload_n dX9_placeOf_63 rfl ?_
      refine xx_aload_n dX9_placeOf_64 rfl ?_
      refine xx_get xx_c9 dX9_placeOf_65 wf_X9_136 (j := 16) (by decide) hb rfl ?_
      refine xx_icmp_lt (tgt := 75) dX9_placeOf_68 (by decide) (fun j68 => ?_) (fun j68 => ?_)
      · have j68 : e < ec := (nI_ltI (a := e) (b := ec) (by omega) (by omega)).mp j68
        refine xx_sipush (v := 330) dX9_placeOf_75 (by decide) ?_
        refine xx_bipush (v := 14) dX9_placeOf_78 (by decide) ?_
        refine xx_iload_n dX9_placeOf_80 rfl ?_
        refine xx_imul dX9_placeOf_81 ?_
        refine xx_eqi (y := nI (14 * e)) (pk_mul 14 e) ?_
        refine xx_iadd dX9_placeOf_82 ?_
        refine xx_eqi (y := nI (330 + (14 * e))) (nI_add 330 (14 * e)) ?_
        have lt9 : li = true := Classical.byContradiction (fun z => j60 (if_neg z))
        exact xx_iret dX9_placeOf_83 rfl ⟨rfl, Or.inl ⟨e, j68, rfl, lt9, rfl⟩⟩
      · have j68 : ¬ e < ec := fun hq9 => j68 ((nI_ltI (a := e) (b := ec) (by omega) (by omega)).mpr hq9)
        refine xx_iconst (v := (-1)) dX9_placeOf_71 (by decide) ?_
        refine xx_goto (tgt := 83) dX9_placeOf_72 (by decide) ?_
        have lt9 : li = true := Classical.byContradiction (fun z => j60 (if_neg z))
        exact xx_iret dX9_placeOf_83 rfl ⟨rfl, Or.inr ⟨fun h => by obtain ⟨_, e2, he2, ee2⟩ := h; have := nI_inj2 (by omega) (by omega) ee2; omega, rfl⟩⟩
  · refine xx_iconst (v := (-1)) dX9_placeOf_13 (by decide) ?_
    refine xx_iret dX9_placeOf_14 rfl ⟨rfl, Or.inr ⟨fun h => ?_, rfl⟩⟩
    obtain ⟨_, e, he, ee⟩ := h
    exact nI_pos (n := e) (by omega) (by rw [← ee]; exact (ys_lo j10).2.2)
