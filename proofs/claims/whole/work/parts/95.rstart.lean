/-! ===== the reference's entry, beginTables ===== -/
/-- the reference's wholes, leasts, multiples -/
def xx_rp (B : xx_H) (b m n : Nat) (W : Nat → Nat → Nat → Int) (le : Nat → Int) (mu : Nat → Nat) : Prop := (∃ f, B.2 (b + 15) = xx_l 72 f ∧ ∀ p, p < 2 → ∀ i, i < m → ∀ j, j < n → f (36 * p + (6 * i) + j) = lz (W p i j)) ∧ (∃ f, B.2 (b + 16) = xx_l 2 f ∧ ∀ p, p < 2 → f p = lz (le p)) ∧ (∃ f, B.2 (b + 14) = xx_l 2 f ∧ ∀ p, p < 2 → f p = lN (mu p)) ∧ (∀ p, p < 2 → ∀ i, i < m → ∀ j, j < n → (W p i j).natAbs ≤ 277172280) ∧ (∀ p, p < 2 → (le p).natAbs ≤ 277172280)
theorem xx_rp.to {B C : xx_H} {b m n : Nat} {W : Nat → Nat → Nat → Int} {le : Nat → Int} {mu : Nat → Nat} (h : xx_rp B b m n W le mu) (h1 : C.2 (b + 14) = B.2 (b + 14)) (h2 : C.2 (b + 15) = B.2 (b + 15)) (h3 : C.2 (b + 16) = B.2 (b + 16)) : xx_rp C b m n W le mu := by
  obtain ⟨⟨f, a1, a2⟩, ⟨g, a3, a4⟩, ⟨h, a5, a6⟩, a7⟩ := h
  exact ⟨⟨f, h2.trans a1, a2⟩, ⟨g, h3.trans a3, a4⟩, ⟨h, h1.trans a5, a6⟩, a7⟩
/-- the columns of both tables at first -/
def yg_a (m n : Nat) (W : Nat → Nat → Nat → Int) (le : Nat → Int) (tt c r : Nat) : Int := if c = m + n then 1 else if tt = 0 then (if c < m then 1 + W 1 c r - le 1 else yh_e (c - m) r) else (if c < m then yh_e c r else 1 + W 0 r (c - m) - le 0)
set_option maxRecDepth 100000 in
theorem c_X9_entry {G : xx_G} {l : Launch} {A : xx_H} {b : Nat} {th hr st hl en tu : Value} {m n : Nat} {p i j : Nat} {W : Nat → Nat → Nat → Int} {le : Nat → Int} {mu : Nat → Nat} (hb : A.2 b = xx_o 9 (xx_mf b th (.int (nI m)) (.int (nI n)) hr st hl en tu)) (hP : xx_rp A b m n W le mu) (hp : p < 2) (hi : i < m) (hj : j < n) (hm : m ≤ 6) (hn : n ≤ 6) : xx_X G l mX9_entry 0 0 0 0 (lv_args 0 [.ref b, .int (nI p), .int (nI i), .int (nI j)]) [] A (fun z B => z = .inl (some (.long (lz (1 + W p i j - le p)))) ∧ B = A) := by
  obtain ⟨⟨f, f1, f2⟩, ⟨g, g1, g2⟩, _⟩ := hP
  refine xx_clv (lv2 := [(0, .ref b), (1, .int (nI p)), (2, .int (nI i)), (3, .int (nI j))]) rfl ?_
  refine xx_lconst (v := 1) dX9_entry_0 (by decide) ?_
  refine xx_aload_n dX9_entry_1 rfl ?_
  refine xx_get xx_c9 dX9_entry_2 wf_X9_59 (j := 21) (by decide) hb rfl ?_
  refine xx_bipush (v := 36) dX9_entry_5 (by decide) ?_
  refine xx_iload_n dX9_entry_7 rfl ?_
  refine xx_imul dX9_entry_8 ?_
  refine xx_eqi (y := nI (36 * p)) (pk_mul 36 p) ?_
  refine xx_bipush (v := 6) dX9_entry_9 (by decide) ?_
  refine xx_iload_n dX9_entry_11 rfl ?_
  refine xx_imul dX9_entry_12 ?_
  refine xx_eqi (y := nI (6 * i)) (pk_mul 6 i) ?_
  refine xx_iadd dX9_entry_13 ?_
  refine xx_eqi (y := nI (36 * p + (6 * i))) (nI_add (36 * p) (6 * i)) ?_
  refine xx_iload_n dX9_entry_14 rfl ?_
  refine xx_iadd dX9_entry_15 ?_
  refine xx_eqi (y := nI (36 * p + (6 * i) + j)) (nI_add (36 * p + (6 * i)) j) ?_
  refine xx_lald dX9_entry_16 f1 (vp_in_nI (by omega) (by decide)) ?_
  refine xx_eql (y := lz (W p i j)) (by rw [nI_clamp (by omega)]; exact f2 p hp i hi j hj) ?_
  refine xx_ladd dX9_entry_17 ?_
  refine xx_eql (y := lz (1 + W p i j)) (lz_add 1 _) ?_
  refine xx_aload_n dX9_entry_18 rfl ?_
  refine xx_get xx_c9 dX9_entry_19 wf_X9_62 (j := 22) (by decide) hb rfl ?_
  refine xx_iload_n dX9_entry_22 rfl ?_
  refine xx_lald dX9_entry_23 g1 (vp_in_nI (by omega) (by decide)) ?_
  refine xx_eql (y := lz (le p)) (by rw [nI_clamp (by omega)]; exact g2 p hp) ?_
  refine xx_lsub dX9_entry_24 ?_
  refine xx_eql (y := lz (1 + W p i j - le p)) (lz_sub _ _) ?_
  exact xx_lret dX9_entry_25 rfl ⟨rfl, rfl⟩
theorem yg_bd {m n tt c r : Nat} {W : Nat → Nat → Nat → Int} {le : Nat → Int} (hW : ∀ p, p < 2 → ∀ i, i < m → ∀ j, j < n → (W p i j).natAbs ≤ 277172280) (hl : ∀ p, p < 2 → (le p).natAbs ≤ 277172280) (ht : tt < 2) (hr : r < yy_rw m n tt) (hc : c ≤ m + n) : (yg_a m n W le tt c r).natAbs ≤ 554344561 := by
  unfold yg_a
  unfold yy_rw at hr
  have he : ∀ x y, (yh_e x y).natAbs ≤ 554344561 := by
    intro x y
    unfold yh_e
    split <;> decide
  have l0 := hl 0 (by decide)
  have l1 := hl 1 (by decide)
  by_cases a : c = m + n
  · rw [if_pos a]; decide
  · rw [if_neg a]
    by_cases b : tt = 0
    · rw [if_pos b] at hr ⊢
      by_cases d : c < m
      · rw [if_pos d]; have := hW 1 (by decide) c d r hr; omega
      · rw [if_neg d]; exact he _ _
    · rw [if_neg b] at hr ⊢
      by_cases d : c < m
      · rw [if_pos d]; exact he _ _
      · rw [if_neg d]; have := hW 0 (by decide) r hr (c - m) (by omega); omega
set_option maxRecDepth 100000 in
theorem l_X9_bi {G : xx_G} {l : Launch} {A : xx_H} {b : Nat} {th hr st hl en tu : Value} {m n : Nat} {tt i : Nat} {W : Nat → Nat → Nat → Int} {le : Nat → Int} {mu : Nat → Nat} {N : Nat → Int} {Q : Option Value ⊕ String → xx_H → Prop} (hb : A.2 b = xx_o 9 (xx_mf b th (.int (nI m)) (.int (nI n)) hr st hl en tu)) (hP : xx_rp A b m n W le mu) (hm : m ≤ 6) (hn : n ≤ 6) (ht : tt < 2) (hi : i < yy_rw m n tt) (k : ∀ (B : xx_H) (N2 : Nat → Int), B.1 = A.1 → xx_rw B b N2 → (∀ c, c < (m + n) → N2 (yy_tb tt + 13 * i + c) = yg_a m n W le tt c i) → (∀ q, (q < yy_tb tt + 13 * i ∨ yy_tb tt + 13 * i + 13 ≤ q) → N2 q = N q) → (∀ q, q ≠ b + 1 → q ≠ b + 2 → q ≠ b + 3 → q ≠ b + 17 → q ≠ b + 18 → B.2 q = A.2 q) → xx_X G l mX9_beginTables 1 0 0 154 [(0, .ref b), (1, .int (nI tt)), (2, .int (nI i))] [] B Q) :
    ∀ (v c : Nat), c + v = m + n → ∀ (B : xx_H) (N2 : Nat → Int), B.1 = A.1 → xx_rw B b N2 → (∀ c, c < c → N2 (yy_tb tt + 13 * i + c) = yg_a m n W le tt c i) → (∀ q, (q < yy_tb tt + 13 * i ∨ yy_tb tt + 13 * i + 13 ≤ q) → N2 q = N q) → (∀ q, q ≠ b + 1 → q ≠ b + 2 → q ≠ b + 3 → q ≠ b + 17 → q ≠ b + 18 → B.2 q = A.2 q) → xx_X G l mX9_beginTables 1 0 0 20 [(0, .ref b), (1, .int (nI tt)), (2, .int (nI i)), (3, .int (nI c))] [] B Q := by
  intro v
  induction v with
  | zero =>
    intro c hc B N2 y1 y2 y3 y4 y5
    have : c = m + n := by omega
    subst this
    have hb2 := (y5 b (by omega) (by omega) (by omega) (by omega) (by omega)).trans hb
    refine xx_iload_n dX9_beginTables_20 rfl ?_
    refine xx_aload_n dX9_beginTables_21 rfl ?_
    refine xx_get xx_c9 dX9_beginTables_22 wf_X9_120 (j := 4) (by decide) hb2 rfl ?_
    refine xx_aload_n dX9_beginTables_25 rfl ?_
    refine xx_get xx_c9 dX9_beginTables_26 wf_X9_123 (j := 5) (by decide) hb2 rfl ?_
    refine xx_iadd dX9_beginTables_29 ?_
    refine xx_eqi (y := nI (m + n)) (nI_add m n) ?_
    refine xx_icmp_ge (tgt := 154) dX9_beginTables_30 (by decide) (fun j30 => ?_) (fun h => absurd (Int32.le_refl _) h)
    refine xx_less [0, 1, 2] ?_
    refine xx_clv (lv2 := [(0, .ref b), (1, .int (nI tt)), (2, .int (nI i))]) rfl ?_
    exact k B N2 y1 y2 y3 y4 y5
  | succ v ih =>
    intro c hc B N2 y1 y2 y3 y4 y5
    have hb2 := (y5 b (by omega) (by omega) (by omega) (by omega) (by omega)).trans hb
    have tb := yy_tb_b tt
    have hP2 := hP.to (y5 (b + 14) (by omega) (by omega) (by omega) (by omega) (by omega)) (y5 (b + 15) (by omega) (by omega) (by omega) (by omega) (by omega)) (y5 (b + 16) (by omega) (by omega) (by omega) (by omega) (by omega))
    have hi6 : i < 6 := by unfold yy_rw at hi; split at hi <;> omega
    have hbd := yg_bd (tt := tt) (c := c) (r := i) hP.2.2.2.1 hP.2.2.2.2 ht hi (by omega)
    refine xx_iload_n dX9_beginTables_20 rfl ?_
    refine xx_aload_n dX9_beginTables_21 rfl ?_
    refine xx_get xx_c9 dX9_beginTables_22 wf_X9_120 (j := 4) (by decide) hb2 rfl ?_
    refine xx_aload_n dX9_beginTables_25 rfl ?_
    refine xx_get xx_c9 dX9_beginTables_26 wf_X9_123 (j := 5) (by decide) hb2 rfl ?_
    refine xx_iadd dX9_beginTables_29 ?_
    refine xx_eqi (y := nI (m + n)) (nI_add m n) ?_
    refine xx_icmp_ge (tgt := 154) dX9_beginTables_30 (by decide) (fun h => absurd h (nI_ge (by omega) (by omega))) (fun j30 => ?_)
    refine xx_iload_n dX9_beginTables_33 rfl ?_
    refine xx_iload_n dX9_beginTables_34 rfl ?_
    refine xx_if_ne (tgt := 47) dX9_beginTables_35 (by decide) (fun j35 => ?_) (fun j35 => ?_)
    · have j35 : ¬ tt = 0 := fun hq9 => j35 ((nI_eq (a := tt) (b := 0) (by omega) (by omega)).mpr hq9)
      refine xx_iload_n dX9_beginTables_47 rfl ?_
      refine xx_icmp_ne (tgt := 55) dX9_beginTables_48 (by decide) (fun j48 => ?_) (fun j48 => ?_)
      · have j48 : ¬ c = i := fun hq9 => j48 ((nI_eq (a := c) (b := i) (by omega) (by omega)).mpr hq9)
        refine xx_iconst (v := 0) dX9_beginTables_55 (by decide) ?_
        refine xx_istore dX9_beginTables_56 (by decide) ?_
        refine xx_clv (lv2 := [(0, .ref b), (1, .int (nI tt)), (2, .int (nI i)), (3, .int (nI c)), (4, .int 0)]) rfl ?_
        refine xx_iload_n dX9_beginTables_58 rfl ?_
        refine xx_if_ne (tgt := 78) dX9_beginTables_59 (by decide) (fun j59 => ?_) (fun h => absurd (show nI tt = 0 from h) (fun z => j35 ((nI_eq (b := 0) (by omega) (by decide)).mp z)))
        refine xx_iload_n dX9_beginTables_78 rfl ?_
        refine xx_aload_n dX9_beginTables_79 rfl ?_
        refine xx_get xx_c9 dX9_beginTables_80 wf_X9_120 (j := 4) (by decide) hb2 rfl ?_
        refine xx_icmp_lt (tgt := 90) dX9_beginTables_83 (by decide) (fun j83 => ?_) (fun j83 => ?_)
        · have j83 : c < m := (nI_ltI (a := c) (b := m) (by omega) (by omega)).mp j83
          refine xx_iconst (v := 0) dX9_beginTables_90 (by decide) ?_
          refine xx_istore dX9_beginTables_91 (by decide) ?_
          refine xx_clv (lv2 := [(0, .ref b), (1, .int (nI tt)), (2, .int (nI i)), (3, .int (nI c)), (4, .int 0), (5, .int 0)]) rfl ?_
          refine xx_aload_n dX9_beginTables_93 rfl ?_
          refine xx_aload_n dX9_beginTables_94 rfl ?_
          refine xx_iload_n dX9_beginTables_95 rfl ?_
          refine xx_iload_n dX9_beginTables_96 rfl ?_
          refine xx_iload_n dX9_beginTables_97 rfl ?_
          refine xx_callV (N := mX9_cell) (vs := [.int (nI tt), .int (nI i), .int (nI c)]) (b := b) (rest := [.ref b]) (d2 := 0) (c2 := 0) (s2 := 0) (c3 := 0) (s3 := 0) dX9_beginTables_98 wm_X9_151 wi_X9_cell wv_X9_cell (k := 9) rfl (by decide) hb2 nX9_cell ⟨pX9_cell, Nat.le_of_ble_eq_true rfl, by decide, Nat.le_of_ble_eq_true rfl, by decide, by decide⟩ (c_X9_cell (tt := tt) (r := i) (c := c) hb2 (by omega) (by omega) (by omega)) (fun v9 B9 hC => ?_) (fun E9 B9 hC => absurd hC.1 (by simp))
          obtain ⟨hv9, e9⟩ := hC
          cases hv9
          refine xx_cst (st2 := [.int (nI (yy_tb tt + 13 * i + c)), .ref b]) rfl ?_
          rw [e9]
          refine xx_iload dX9_beginTables_101 rfl ?_
          refine xx_if_eq (tgt := 110) dX9_beginTables_103 (by decide) (fun j103 => ?_) (fun h => absurd (by decide) h)
          refine xx_iload dX9_beginTables_110 rfl ?_
          refine xx_if_eq (tgt := 144) dX9_beginTables_112 (by decide) (fun j112 => ?_) (fun h => absurd (by decide) h)
          refine xx_lconst (v := 0) dX9_beginTables_144 (by decide) ?_
          refine xx_eql (y := lz (yg_a m n W le tt c i)) (by unfold yg_a; rw [if_neg (by omega), if_neg j35, if_pos (by omega)]; unfold yh_e; rw [if_neg (by omega)]; decide) ?_
          refine xx_callV (N := mX9_set) (vs := [.int (nI (yy_tb tt + 13 * i + c)), .long (lz (yg_a m n W le tt c i))]) (b := b) (rest := []) (d2 := 0) (c2 := 0) (s2 := 0) (c3 := 0) (s3 := 0) dX9_beginTables_145 wm_X9_80 wi_X9_set wv_X9_set (k := 9) rfl (by decide) hb2 nX9_set ⟨pX9_set, Nat.le_of_ble_eq_true rfl, by decide, Nat.le_of_ble_eq_true rfl, by decide, by decide⟩ (c_X9_set (a := yy_tb tt + 13 * i + c) (v := yg_a m n W le tt c i) hb2 y2.1 (by omega) (by omega) (by omega)) (fun v9 D hC => ?_) (fun E9 B9 hC => absurd hC.1 (by simp))
          obtain ⟨hv8, k1, k2, k3⟩ := hC
          cases hv8
          refine xx_cst (st2 := []) rfl ?_
          refine xx_iinc (v := nI (c + 1)) dX9_beginTables_148 rfl (nI_1 c) (by decide) ?_
          refine xx_goto (tgt := 20) dX9_beginTables_151 (by decide) ?_
          refine xx_less [0, 1, 2, 3] ?_
          refine xx_clv (lv2 := [(0, .ref b), (1, .int (nI tt)), (2, .int (nI i)), (3, .int (nI (c + 1)))]) rfl ?_
          refine ih (c + 1) (by omega) D _ (by omega) (y2.set k2 k3) (fun c9 h9 => ?_) (fun q hq => (yy_un_n (by omega)).trans (y4 q hq)) (fun q a1 a2 a3 a4 a5 => (k3 q a1 a2 a3).trans (y5 q a1 a2 a3 a4 a5))
          by_cases e : c9 = c
          · rw [e, yy_un_s]
          · rw [yy_un_n (by omega)]; exact y3 c9 (by omega)
        · have j83 : ¬ c < m := fun hq9 => j83 ((nI_ltI (a := c) (b := m) (by omega) (by omega)).mpr hq9)
          refine xx_iconst (v := 1) dX9_beginTables_86 (by decide) ?_
          refine xx_goto (tgt := 91) dX9_beginTables_87 (by decide) ?_
          refine xx_istore dX9_beginTables_91 (by decide) ?_
          refine xx_clv (lv2 := [(0, .ref b), (1, .int (nI tt)), (2, .int (nI i)), (3, .int (nI c)), (4, .int 0), (5, .int 1)]) rfl ?_
          refine xx_aload_n dX9_beginTables_93 rfl ?_
          refine xx_aload_n dX9_beginTables_94 rfl ?_
          refine xx_iload_n dX9_beginTables_95 rfl ?_
          refine xx_iload_n dX9_beginTables_96 rfl ?_
          refine xx_iload_n dX9_beginTables_97 rfl ?_
          refine xx_callV (N := mX9_cell) (vs := [.int (nI tt), .int (nI i), .int (nI c)]) (b := b) (rest := [.ref b]) (d2 := 0) (c2 := 0) (s2 := 0) (c3 := 0) (s3 := 0) dX9_beginTables_98 wm_X9_151 wi_X9_cell wv_X9_cell (k := 9) rfl (by decide) hb2 nX9_cell ⟨pX9_cell, Nat.le_of_ble_eq_true rfl, by decide, Nat.le_of_ble_eq_true rfl, by decide, by decide⟩ (c_X9_cell (tt := tt) (r := i) (c := c) hb2 (by omega) (by omega) (by omega)) (fun v9 B9 hC => ?_) (fun E9 B9 hC => absurd hC.1 (by simp))
          obtain ⟨hv9, e9⟩ := hC
          cases hv9
          refine xx_cst (st2 := [.int (nI (yy_tb tt + 13 * i + c)), .ref b]) rfl ?_
          rw [e9]
          refine xx_iload dX9_beginTables_101 rfl ?_
          refine xx_if_eq (tgt := 110) dX9_beginTables_103 (by decide) (fun j103 => ?_) (fun h => absurd (by decide) h)
          refine xx_iload dX9_beginTables_110 rfl ?_
          refine xx_if_eq (tgt := 144) dX9_beginTables_112 (by decide) (fun h => absurd h (by decide)) (fun j112 => ?_)
          refine xx_iload_n dX9_beginTables_115 rfl ?_
          refine xx_if_ne (tgt := 129) dX9_beginTables_116 (by decide) (fun j116 => ?_) (fun h => absurd (show nI tt = 0 from h) (fun z => j35 ((nI_eq (b := 0) (by omega) (by decide)).mp z)))
          refine xx_aload_n dX9_beginTables_129 rfl ?_
          refine xx_iconst (v := 0) dX9_beginTables_130 (by decide) ?_
          refine xx_iload_n dX9_beginTables_131 rfl ?_
          refine xx_iload_n dX9_beginTables_132 rfl ?_
          refine xx_aload_n dX9_beginTables_133 rfl ?_
          refine xx_get xx_c9 dX9_beginTables_134 wf_X9_120 (j := 4) (by decide) hb2 rfl ?_
          refine xx_isub dX9_beginTables_137 ?_
          refine xx_eqi (y := nI (c - m)) (pk_sub (a := c) (b := m) (by omega)) ?_
          have him : i < m := by unfold yy_rw at hi; rw [if_neg j35] at hi; exact hi
          refine xx_cst (st2 := [.int (nI (c - m)), .int (nI i), .int (nI 0), .ref b, .int (nI (yy_tb tt + 13 * i + c)), .ref b]) rfl ?_
          refine xx_callV (N := mX9_entry) (vs := [.int (nI 0), .int (nI i), .int (nI (c - m))]) (b := b) (rest := [.int (nI (yy_tb tt + 13 * i + c)), .ref b]) (d2 := 0) (c2 := 0) (s2 := 0) (c3 := 0) (s3 := 0) dX9_beginTables_138 wm_X9_155 wi_X9_entry wv_X9_entry (k := 9) rfl (by decide) hb2 nX9_entry ⟨pX9_entry, Nat.le_of_ble_eq_true rfl, by decide, Nat.le_of_ble_eq_true rfl, by decide, by decide⟩ (c_X9_entry (p := 0) (i := i) (j := c - m) hb2 hP2 (by decide) him (by omega) hm hn) (fun v9 B9 hC => ?_) (fun E9 B9 hC => absurd hC.1 (by simp))
          obtain ⟨hv9, e9⟩ := hC
          cases hv9
          refine xx_cst (st2 := [.long (lz (1 + W 0 i (c - m) - le 0)), .int (nI (yy_tb tt + 13 * i + c)), .ref b]) rfl ?_
          rw [e9]
          refine xx_goto (tgt := 145) dX9_beginTables_141 (by decide) ?_
          refine xx_eql (y := lz (yg_a m n W le tt c i)) (by unfold yg_a; rw [if_neg (by omega), if_neg j35, if_neg (by omega)]) ?_
          refine xx_callV (N := mX9_set) (vs := [.int (nI (yy_tb tt + 13 * i + c)), .long (lz (yg_a m n W le tt c i))]) (b := b) (rest := []) (d2 := 0) (c2 := 0) (s2 := 0) (c3 := 0) (s3 := 0) dX9_beginTables_145 wm_X9_80 wi_X9_set wv_X9_set (k := 9) rfl (by decide) hb2 nX9_set ⟨pX9_set, Nat.le_of_ble_eq_true rfl, by decide, Nat.le_of_ble_eq_true rfl, by decide, by decide⟩ (c_X9_set (a := yy_tb tt + 13 * i + c) (v := yg_a m n W le tt c i) hb2 y2.1 (by omega) (by omega) (by omega)) (fun v9 D hC => ?_) (fun E9 B9 hC => absurd hC.1 (by simp))
          obtain ⟨hv8, k1, k2, k3⟩ := hC
          cases hv8
          refine xx_cst (st2 := []) rfl ?_
          refine xx_iinc (v := nI (c + 1)) dX9_beginTables_148 rfl (nI_1 c) (by decide) ?_
          refine xx_goto (tgt := 20) dX9_beginTables_151 (by decide) ?_
          refine xx_less [0, 1, 2, 3] ?_
          refine xx_clv (lv2 := [(0, .ref b), (1, .int (nI tt)), (2, .int (nI i)), (3, .int (nI (c + 1)))]) rfl ?_
          refine ih (c + 1) (by omega) D _ (by omega) (y2.set k2 k3) (fun c9 h9 => ?_) (fun q hq => (yy_un_n (by omega)).trans (y4 q hq)) (fun q a1 a2 a3 a4 a5 => (k3 q a1 a2 a3).trans (y5 q a1 a2 a3 a4 a5))
          by_cases e : c9 = c
          · rw [e, yy_un_s]
          · rw [yy_un_n (by omega)]; exact y3 c9 (by omega)
      · have j48 : c = i := (nI_eq (a := c) (b := i) (by omega) (by omega)).mp j48
        refine xx_iconst (v := 1) dX9_beginTables_51 (by decide) ?_
        refine xx_goto (tgt := 56) dX9_beginTables_52 (by decide) ?_
        refine xx_istore dX9_beginTables_56 (by decide) ?_
        refine xx_clv (lv2 := [(0, .ref b), (1, .int (nI tt)), (2, .int (nI i)), (3, .int (nI c)), (4, .int 1)]) rfl ?_
        refine xx_iload_n dX9_beginTables_58 rfl ?_
        refine xx_if_ne (tgt := 78) dX9_beginTables_59 (by decide) (fun j59 => ?_) (fun h => absurd (show nI tt = 0 from h) (fun z => j35 ((nI_eq (b := 0) (by omega) (by decide)).mp z)))
        refine xx_iload_n dX9_beginTables_78 rfl ?_
        refine xx_aload_n dX9_beginTables_79 rfl ?_
        refine xx_get xx_c9 dX9_beginTables_80 wf_X9_120 (j := 4) (by decide) hb2 rfl ?_
        refine xx_icmp_lt (tgt := 90) dX9_beginTables_83 (by decide) (fun j83 => ?_) (fun j83 => ?_)
        · have j83 : c < m := (nI_ltI (a := c) (b := m) (by omega) (by omega)).mp j83
          refine xx_iconst (v := 0) dX9_beginTables_90 (by decide) ?_
          refine xx_istore dX9_beginTables_91 (by decide) ?_
          refine xx_clv (lv2 := [(0, .ref b), (1, .int (nI tt)), (2, .int (nI i)), (3, .int (nI c)), (4, .int 1), (5, .int 0)]) rfl ?_
          refine xx_aload_n dX9_beginTables_93 rfl ?_
          refine xx_aload_n dX9_beginTables_94 rfl ?_
          refine xx_iload_n dX9_beginTables_95 rfl ?_
          refine xx_iload_n dX9_beginTables_96 rfl ?_
          refine xx_iload_n dX9_beginTables_97 rfl ?_
          refine xx_callV (N := mX9_cell) (vs := [.int (nI tt), .int (nI i), .int (nI c)]) (b := b) (rest := [.ref b]) (d2 := 0) (c2 := 0) (s2 := 0) (c3 := 0) (s3 := 0) dX9_beginTables_98 wm_X9_151 wi_X9_cell wv_X9_cell (k := 9) rfl (by decide) hb2 nX9_cell ⟨pX9_cell, Nat.le_of_ble_eq_true rfl, by decide, Nat.le_of_ble_eq_true rfl, by decide, by decide⟩ (c_X9_cell (tt := tt) (r := i) (c := c) hb2 (by omega) (by omega) (by omega)) (fun v9 B9 hC => ?_) (fun E9 B9 hC => absurd hC.1 (by simp))
          obtain ⟨hv9, e9⟩ := hC
          cases hv9
          refine xx_cst (st2 := [.int (nI (yy_tb tt + 13 * i + c)), .ref b]) rfl ?_
          rw [e9]
          refine xx_iload dX9_beginTables_101 rfl ?_
          refine xx_if_eq (tgt := 110) dX9_beginTables_103 (by decide) (fun h => absurd h (by decide)) (fun j103 => ?_)
          refine xx_lconst (v := 1) dX9_beginTables_106 (by decide) ?_
          refine xx_goto (tgt := 145) dX9_beginTables_107 (by decide) ?_
          refine xx_eql (y := lz (yg_a m n W le tt c i)) (by unfold yg_a; rw [if_neg (by omega), if_neg j35, if_pos (by omega)]; unfold yh_e; rw [if_pos (by omega)]; decide) ?_
          refine xx_callV (N := mX9_set) (vs := [.int (nI (yy_tb tt + 13 * i + c)), .long (lz (yg_a m n W le tt c i))]) (b := b) (rest := []) (d2 := 0) (c2 := 0) (s2 := 0) (c3 := 0) (s3 := 0) dX9_beginTables_145 wm_X9_80 wi_X9_set wv_X9_set (k := 9) rfl (by decide) hb2 nX9_set ⟨pX9_set, Nat.le_of_ble_eq_true rfl, by decide, Nat.le_of_ble_eq_true rfl, by decide, by decide⟩ (c_X9_set (a := yy_tb tt + 13 * i + c) (v := yg_a m n W le tt c i) hb2 y2.1 (by omega) (by omega) (by omega)) (fun v9 D hC => ?_) (fun E9 B9 hC => absurd hC.1 (by simp))
          obtain ⟨hv8, k1, k2, k3⟩ := hC
          cases hv8
          refine xx_cst (st2 := []) rfl ?_
          refine xx_iinc (v := nI (c + 1)) dX9_beginTables_148 rfl (nI_1 c) (by decide) ?_
          refine xx_goto (tgt := 20) dX9_beginTables_151 (by decide) ?_
          refine xx_less [0, 1, 2, 3] ?_
          refine xx_clv (lv2 := [(0, .ref b), (1, .int (nI tt)), (2, .int (nI i)), (3, .int (nI (c + 1)))]) rfl ?_
          refine ih (c + 1) (by omega) D _ (by omega) (y2.set k2 k3) (fun c9 h9 => ?_) (fun q hq => (yy_un_n (by omega)).trans (y4 q hq)) (fun q a1 a2 a3 a4 a5 => (k3 q a1 a2 a3).trans (y5 q a1 a2 a3 a4 a5))
          by_cases e : c9 = c
          · rw [e, yy_un_s]
          · rw [yy_un_n (by omega)]; exact y3 c9 (by omega)
        · have j83 : ¬ c < m := fun hq9 => j83 ((nI_ltI (a := c) (b := m) (by omega) (by omega)).mpr hq9)
          refine xx_iconst (v := 1) dX9_beginTables_86 (by decide) ?_
          refine xx_goto (tgt := 91) dX9_beginTables_87 (by decide) ?_
          refine xx_istore dX9_beginTables_91 (by decide) ?_
          refine xx_clv (lv2 := [(0, .ref b), (1, .int (nI tt)), (2, .int (nI i)), (3, .int (nI c)), (4, .int 1), (5, .int 1)]) rfl ?_
          refine xx_aload_n dX9_beginTables_93 rfl ?_
          refine xx_aload_n dX9_beginTables_94 rfl ?_
          refine xx_iload_n dX9_beginTables_95 rfl ?_
          refine xx_iload_n dX9_beginTables_96 rfl ?_
          refine xx_iload_n dX9_beginTables_97 rfl ?_
          refine xx_callV (N := mX9_cell) (vs := [.int (nI tt), .int (nI i), .int (nI c)]) (b := b) (rest := [.ref b]) (d2 := 0) (c2 := 0) (s2 := 0) (c3 := 0) (s3 := 0) dX9_beginTables_98 wm_X9_151 wi_X9_cell wv_X9_cell (k := 9) rfl (by decide) hb2 nX9_cell ⟨pX9_cell, Nat.le_of_ble_eq_true rfl, by decide, Nat.le_of_ble_eq_true rfl, by decide, by decide⟩ (c_X9_cell (tt := tt) (r := i) (c := c) hb2 (by omega) (by omega) (by omega)) (fun v9 B9 hC => ?_) (fun E9 B9 hC => absurd hC.1 (by simp))
          obtain ⟨hv9, e9⟩ := hC
          cases hv9
          refine xx_cst (st2 := [.int (nI (yy_tb tt + 13 * i + c)), .ref b]) rfl ?_
          rw [e9]
          refine xx_iload dX9_beginTables_101 rfl ?_
          refine xx_if_eq (tgt := 110) dX9_beginTables_103 (by decide) (fun h => absurd h (by decide)) (fun j103 => ?_)
          refine xx_lconst (v := 1) dX9_beginTables_106 (by decide) ?_
          refine xx_goto (tgt := 145) dX9_beginTables_107 (by decide) ?_
          have him : i < m := by unfold yy_rw at hi; rw [if_neg j35] at hi; exact hi
          exfalso; omega
    · have j35 : tt = 0 := (nI_eq (a := tt) (b := 0) (by omega) (by omega)).mp j35
      refine xx_aload_n dX9_beginTables_38 rfl ?_
      refine xx_get xx_c9 dX9_beginTables_39 wf_X9_120 (j := 4) (by decide) hb2 rfl ?_
      refine xx_iload_n dX9_beginTables_42 rfl ?_
      refine xx_iadd dX9_beginTables_43 ?_
      refine xx_eqi (y := nI (m + i)) (nI_add m i) ?_
      refine xx_goto (tgt := 48) dX9_beginTables_44 (by decide) ?_
      refine xx_icmp_ne (tgt := 55) dX9_beginTables_48 (by decide) (fun j48 => ?_) (fun j48 => ?_)
      · have j48 : ¬ c = m + i := fun hq9 => j48 ((nI_eq (a := c) (b := m + i) (by omega) (by omega)).mpr hq9)
        refine xx_iconst (v := 0) dX9_beginTables_55 (by decide) ?_
        refine xx_istore dX9_beginTables_56 (by decide) ?_
        refine xx_clv (lv2 := [(0, .ref b), (1, .int (nI tt)), (2, .int (nI i)), (3, .int (nI c)), (4, .int 0)]) rfl ?_
        refine xx_iload_n dX9_beginTables_58 rfl ?_
        refine xx_if_ne (tgt := 78) dX9_beginTables_59 (by decide) (fun h => absurd (show nI tt = 0 by rw [j35]; rfl) h) (fun j59 => ?_)
        refine xx_iload_n dX9_beginTables_62 rfl ?_
        refine xx_aload_n dX9_beginTables_63 rfl ?_
        refine xx_get xx_c9 dX9_beginTables_64 wf_X9_120 (j := 4) (by decide) hb2 rfl ?_
        refine xx_icmp_ge (tgt := 74) dX9_beginTables_67 (by decide) (fun j67 => ?_) (fun j67 => ?_)
        · have j67 : m ≤ c := (nI_leI (a := m) (b := c) (by omega) (by omega)).mp j67
          refine xx_iconst (v := 0) dX9_beginTables_74 (by decide) ?_
          refine xx_goto (tgt := 91) dX9_beginTables_75 (by decide) ?_
          refine xx_istore dX9_beginTables_91 (by decide) ?_
          refine xx_clv (lv2 := [(0, .ref b), (1, .int (nI tt)), (2, .int (nI i)), (3, .int (nI c)), (4, .int 0), (5, .int 0)]) rfl ?_
          refine xx_aload_n dX9_beginTables_93 rfl ?_
          refine xx_aload_n dX9_beginTables_94 rfl ?_
          refine xx_iload_n dX9_beginTables_95 rfl ?_
          refine xx_iload_n dX9_beginTables_96 rfl ?_
          refine xx_iload_n dX9_beginTables_97 rfl ?_
          refine xx_callV (N := mX9_cell) (vs := [.int (nI tt), .int (nI i), .int (nI c)]) (b := b) (rest := [.ref b]) (d2 := 0) (c2 := 0) (s2 := 0) (c3 := 0) (s3 := 0) dX9_beginTables_98 wm_X9_151 wi_X9_cell wv_X9_cell (k := 9) rfl (by decide) hb2 nX9_cell ⟨pX9_cell, Nat.le_of_ble_eq_true rfl, by decide, Nat.le_of_ble_eq_true rfl, by decide, by decide⟩ (c_X9_cell (tt := tt) (r := i) (c := c) hb2 (by omega) (by omega) (by omega)) (fun v9 B9 hC => ?_) (fun E9 B9 hC => absurd hC.1 (by simp))
          obtain ⟨hv9, e9⟩ := hC
          cases hv9
          refine xx_cst (st2 := [.int (nI (yy_tb tt + 13 * i + c)), .ref b]) rfl ?_
          rw [e9]
          refine xx_iload dX9_beginTables_101 rfl ?_
          refine xx_if_eq (tgt := 110) dX9_beginTables_103 (by decide) (fun j103 => ?_) (fun h => absurd (by decide) h)
          refine xx_iload dX9_beginTables_110 rfl ?_
          refine xx_if_eq (tgt := 144) dX9_beginTables_112 (by decide) (fun j112 => ?_) (fun h => absurd (by decide) h)
          refine xx_lconst (v := 0) dX9_beginTables_144 (by decide) ?_
          refine xx_eql (y := lz (yg_a m n W le tt c i)) (by unfold yg_a; rw [if_neg (by omega), if_pos j35, if_neg (by omega)]; unfold yh_e; rw [if_neg (by omega)]; decide) ?_
          refine xx_callV (N := mX9_set) (vs := [.int (nI (yy_tb tt + 13 * i + c)), .long (lz (yg_a m n W le tt c i))]) (b := b) (rest := []) (d2 := 0) (c2 := 0) (s2 := 0) (c3 := 0) (s3 := 0) dX9_beginTables_145 wm_X9_80 wi_X9_set wv_X9_set (k := 9) rfl (by decide) hb2 nX9_set ⟨pX9_set, Nat.le_of_ble_eq_true rfl, by decide, Nat.le_of_ble_eq_true rfl, by decide, by decide⟩ (c_X9_set (a := yy_tb tt + 13 * i + c) (v := yg_a m n W le tt c i) hb2 y2.1 (by omega) (by omega) (by omega)) (fun v9 D hC => ?_) (fun E9 B9 hC => absurd hC.1 (by simp))
          obtain ⟨hv8, k1, k2, k3⟩ := hC
          cases hv8
          refine xx_cst (st2 := []) rfl ?_
          refine xx_iinc (v := nI (c + 1)) dX9_beginTables_148 rfl (nI_1 c) (by decide) ?_
          refine xx_goto (tgt := 20) dX9_beginTables_151 (by decide) ?_
          refine xx_less [0, 1, 2, 3] ?_
          refine xx_clv (lv2 := [(0, .ref b), (1, .int (nI tt)), (2, .int (nI i)), (3, .int (nI (c + 1)))]) rfl ?_
          refine ih (c + 1) (by omega) D _ (by omega) (y2.set k2 k3) (fun c9 h9 => ?_) (fun q hq => (yy_un_n (by omega)).trans (y4 q hq)) (fun q a1 a2 a3 a4 a5 => (k3 q a1 a2 a3).trans (y5 q a1 a2 a3 a4 a5))
          by_cases e : c9 = c
          · rw [e, yy_un_s]
          · rw [yy_un_n (by omega)]; exact y3 c9 (by omega)
        · have j67 : ¬ m ≤ c := fun hq9 => j67 ((nI_leI (a := m) (b := c) (by omega) (by omega)).mpr hq9)
          refine xx_iconst (v := 1) dX9_beginTables_70 (by decide) ?_
          refine xx_goto (tgt := 91) dX9_beginTables_71 (by decide) ?_
          refine xx_istore dX9_beginTables_91 (by decide) ?_
          refine xx_clv (lv2 := [(0, .ref b), (1, .int (nI tt)), (2, .int (nI i)), (3, .int (nI c)), (4, .int 0), (5, .int 1)]) rfl ?_
          refine xx_aload_n dX9_beginTables_93 rfl ?_
          refine xx_aload_n dX9_beginTables_94 rfl ?_
          refine xx_iload_n dX9_beginTables_95 rfl ?_
          refine xx_iload_n dX9_beginTables_96 rfl ?_
          refine xx_iload_n dX9_beginTables_97 rfl ?_
          refine xx_callV (N := mX9_cell) (vs := [.int (nI tt), .int (nI i), .int (nI c)]) (b := b) (rest := [.ref b]) (d2 := 0) (c2 := 0) (s2 := 0) (c3 := 0) (s3 := 0) dX9_beginTables_98 wm_X9_151 wi_X9_cell wv_X9_cell (k := 9) rfl (by decide) hb2 nX9_cell ⟨pX9_cell, Nat.le_of_ble_eq_true rfl, by decide, Nat.le_of_ble_eq_true rfl, by decide, by decide⟩ (c_X9_cell (tt := tt) (r := i) (c := c) hb2 (by omega) (by omega) (by omega)) (fun v9 B9 hC => ?_) (fun E9 B9 hC => absurd hC.1 (by simp))
          obtain ⟨hv9, e9⟩ := hC
          cases hv9
          refine xx_cst (st2 := [.int (nI (yy_tb tt + 13 * i + c)), .ref b]) rfl ?_
          rw [e9]
          refine xx_iload dX9_beginTables_101 rfl ?_
          refine xx_if_eq (tgt := 110) dX9_beginTables_103 (by decide) (fun j103 => ?_) (fun h => absurd (by decide) h)
          refine xx_iload dX9_beginTables_110 rfl ?_
          refine xx_if_eq (tgt := 144) dX9_beginTables_112 (by decide) (fun h => absurd h (by decide)) (fun j112 => ?_)
          refine xx_iload_n dX9_beginTables_115 rfl ?_
          refine xx_if_ne (tgt := 129) dX9_beginTables_116 (by decide) (fun h => absurd (show nI tt = 0 by rw [j35]; rfl) h) (fun j116 => ?_)
          refine xx_aload_n dX9_beginTables_119 rfl ?_
          refine xx_iconst (v := 1) dX9_beginTables_120 (by decide) ?_
          refine xx_iload_n dX9_beginTables_121 rfl ?_
          refine xx_iload_n dX9_beginTables_122 rfl ?_
          have hin : i < n := by unfold yy_rw at hi; rw [if_pos j35] at hi; exact hi
          refine xx_cst (st2 := [.int (nI i), .int (nI c), .int (nI 1), .ref b, .int (nI (yy_tb tt + 13 * i + c)), .ref b]) rfl ?_
          refine xx_callV (N := mX9_entry) (vs := [.int (nI 1), .int (nI c), .int (nI i)]) (b := b) (rest := [.int (nI (yy_tb tt + 13 * i + c)), .ref b]) (d2 := 0) (c2 := 0) (s2 := 0) (c3 := 0) (s3 := 0) dX9_beginTables_123 wm_X9_155 wi_X9_entry wv_X9_entry (k := 9) rfl (by decide) hb2 nX9_entry ⟨pX9_entry, Nat.le_of_ble_eq_true rfl, by decide, Nat.le_of_ble_eq_true rfl, by decide, by decide⟩ (c_X9_entry (p := 1) (i := c) (j := i) hb2 hP2 (by decide) (by omega) hin hm hn) (fun v9 B9 hC => ?_) (fun E9 B9 hC => absurd hC.1 (by simp))
          obtain ⟨hv9, e9⟩ := hC
          cases hv9
          refine xx_cst (st2 := [.long (lz (1 + W 1 c i - le 1)), .int (nI (yy_tb tt + 13 * i + c)), .ref b]) rfl ?_
          rw [e9]
          refine xx_goto (tgt := 145) dX9_beginTables_126 (by decide) ?_
          refine xx_eql (y := lz (yg_a m n W le tt c i)) (by unfold yg_a; rw [if_neg (by omega), if_pos j35, if_pos (by omega)]) ?_
          refine xx_callV (N := mX9_set) (vs := [.int (nI (yy_tb tt + 13 * i + c)), .long (lz (yg_a m n W le tt c i))]) (b := b) (rest := []) (d2 := 0) (c2 := 0) (s2 := 0) (c3 := 0) (s3 := 0) dX9_beginTables_145 wm_X9_80 wi_X9_set wv_X9_set (k := 9) rfl (by decide) hb2 nX9_set ⟨pX9_set, Nat.le_of_ble_eq_true rfl, by decide, Nat.le_of_ble_eq_true rfl, by decide, by decide⟩ (c_X9_set (a := yy_tb tt + 13 * i + c) (v := yg_a m n W le tt c i) hb2 y2.1 (by omega) (by omega) (by omega)) (fun v9 D hC => ?_) (fun E9 B9 hC => absurd hC.1 (by simp))
          obtain ⟨hv8, k1, k2, k3⟩ := hC
          cases hv8
          refine xx_cst (st2 := []) rfl ?_
          refine xx_iinc (v := nI (c + 1)) dX9_beginTables_148 rfl (nI_1 c) (by decide) ?_
          refine xx_goto (tgt := 20) dX9_beginTables_151 (by decide) ?_
          refine xx_less [0, 1, 2, 3] ?_
          refine xx_clv (lv2 := [(0, .ref b), (1, .int (nI tt)), (2, .int (nI i)), (3, .int (nI (c + 1)))]) rfl ?_
          refine ih (c + 1) (by omega) D _ (by omega) (y2.set k2 k3) (fun c9 h9 => ?_) (fun q hq => (yy_un_n (by omega)).trans (y4 q hq)) (fun q a1 a2 a3 a4 a5 => (k3 q a1 a2 a3).trans (y5 q a1 a2 a3 a4 a5))
          by_cases e : c9 = c
          · rw [e, yy_un_s]
          · rw [yy_un_n (by omega)]; exact y3 c9 (by omega)
      · have j48 : c = m + i := (nI_eq (a := c) (b := m + i) (by omega) (by omega)).mp j48
        refine xx_iconst (v := 1) dX9_beginTables_51 (by decide) ?_
        refine xx_goto (tgt := 56) dX9_beginTables_52 (by decide) ?_
        refine xx_istore dX9_beginTables_56 (by decide) ?_
        refine xx_clv (lv2 := [(0, .ref b), (1, .int (nI tt)), (2, .int (nI i)), (3, .int (nI c)), (4, .int 1)]) rfl ?_
        refine xx_iload_n dX9_beginTables_58 rfl ?_
        refine xx_if_ne (tgt := 78) dX9_beginTables_59 (by decide) (fun h => absurd (show nI tt = 0 by rw [j35]; rfl) h) (fun j59 => ?_)
        refine xx_iload_n dX9_beginTables_62 rfl ?_
        refine xx_aload_n dX9_beginTables_63 rfl ?_
        refine xx_get xx_c9 dX9_beginTables_64 wf_X9_120 (j := 4) (by decide) hb2 rfl ?_
        refine xx_icmp_ge (tgt := 74) dX9_beginTables_67 (by decide) (fun j67 => ?_) (fun j67 => ?_)
        · have j67 : m ≤ c := (nI_leI (a := m) (b := c) (by omega) (by omega)).mp j67
          refine xx_iconst (v := 0) dX9_beginTables_74 (by decide) ?_
          refine xx_goto (tgt := 91) dX9_beginTables_75 (by decide) ?_
          refine xx_istore dX9_beginTables_91 (by decide) ?_
          refine xx_clv (lv2 := [(0, .ref b), (1, .int (nI tt)), (2, .int (nI i)), (3, .int (nI c)), (4, .int 1), (5, .int 0)]) rfl ?_
          refine xx_aload_n dX9_beginTables_93 rfl ?_
          refine xx_aload_n dX9_beginTables_94 rfl ?_
          refine xx_iload_n dX9_beginTables_95 rfl ?_
          refine xx_iload_n dX9_beginTables_96 rfl ?_
          refine xx_iload_n dX9_beginTables_97 rfl ?_
          refine xx_callV (N := mX9_cell) (vs := [.int (nI tt), .int (nI i), .int (nI c)]) (b := b) (rest := [.ref b]) (d2 := 0) (c2 := 0) (s2 := 0) (c3 := 0) (s3 := 0) dX9_beginTables_98 wm_X9_151 wi_X9_cell wv_X9_cell (k := 9) rfl (by decide) hb2 nX9_cell ⟨pX9_cell, Nat.le_of_ble_eq_true rfl, by decide, Nat.le_of_ble_eq_true rfl, by decide, by decide⟩ (c_X9_cell (tt := tt) (r := i) (c := c) hb2 (by omega) (by omega) (by omega)) (fun v9 B9 hC => ?_) (fun E9 B9 hC => absurd hC.1 (by simp))
          obtain ⟨hv9, e9⟩ := hC
          cases hv9
          refine xx_cst (st2 := [.int (nI (yy_tb tt + 13 * i + c)), .ref b]) rfl ?_
          rw [e9]
          refine xx_iload dX9_beginTables_101 rfl ?_
          refine xx_if_eq (tgt := 110) dX9_beginTables_103 (by decide) (fun h => absurd h (by decide)) (fun j103 => ?_)
          refine xx_lconst (v := 1) dX9_beginTables_106 (by decide) ?_
          refine xx_goto (tgt := 145) dX9_beginTables_107 (by decide) ?_
          refine xx_eql (y := lz (yg_a m n W le tt c i)) (by unfold yg_a; rw [if_neg (by omega), if_pos j35, if_neg (by omega)]; unfold yh_e; rw [if_pos (by omega)]; decide) ?_
          refine xx_callV (N := mX9_set) (vs := [.int (nI (yy_tb tt + 13 * i + c)), .long (lz (yg_a m n W le tt c i))]) (b := b) (rest := []) (d2 := 0) (c2 := 0) (s2 := 0) (c3 := 0) (s3 := 0) dX9_beginTables_145 wm_X9_80 wi_X9_set wv_X9_set (k := 9) rfl (by decide) hb2 nX9_set ⟨pX9_set, Nat.le_of_ble_eq_true rfl, by decide, Nat.le_of_ble_eq_true rfl, by decide, by decide⟩ (c_X9_set (a := yy_tb tt + 13 * i + c) (v := yg_a m n W le tt c i) hb2 y2.1 (by omega) (by omega) (by omega)) (fun v9 D hC => ?_) (fun E9 B9 hC => absurd hC.1 (by simp))
          obtain ⟨hv8, k1, k2, k3⟩ := hC
          cases hv8
          refine xx_cst (st2 := []) rfl ?_
          refine xx_iinc (v := nI (c + 1)) dX9_beginTables_148 rfl (nI_1 c) (by decide) ?_
          refine xx_goto (tgt := 20) dX9_beginTables_151 (by decide) ?_
          refine xx_less [0, 1, 2, 3] ?_
          refine xx_clv (lv2 := [(0, .ref b), (1, .int (nI tt)), (2, .int (nI i)), (3, .int (nI (c + 1)))]) rfl ?_
          refine ih (c + 1) (by omega) D _ (by omega) (y2.set k2 k3) (fun c9 h9 => ?_) (fun q hq => (yy_un_n (by omega)).trans (y4 q hq)) (fun q a1 a2 a3 a4 a5 => (k3 q a1 a2 a3).trans (y5 q a1 a2 a3 a4 a5))
          by_cases e : c9 = c
          · rw [e, yy_un_s]
          · rw [yy_un_n (by omega)]; exact y3 c9 (by omega)
        · have j67 : ¬ m ≤ c := fun hq9 => j67 ((nI_leI (a := m) (b := c) (by omega) (by omega)).mpr hq9)
          refine xx_iconst (v := 1) dX9_beginTables_70 (by decide) ?_
          refine xx_goto (tgt := 91) dX9_beginTables_71 (by decide) ?_
          refine xx_istore dX9_beginTables_91 (by decide) ?_
          refine xx_clv (lv2 := [(0, .ref b), (1, .int (nI tt)), (2, .int (nI i)), (3, .int (nI c)), (4, .int 1), (5, .int 1)]) rfl ?_
          refine xx_aload_n dX9_beginTables_93 rfl ?_
          refine xx_aload_n dX9_beginTables_94 rfl ?_
          refine xx_iload_n dX9_beginTables_95 rfl ?_
          refine xx_iload_n dX9_beginTables_96 rfl ?_
          refine xx_iload_n dX9_beginTables_97 rfl ?_
          refine xx_callV (N := mX9_cell) (vs := [.int (nI tt), .int (nI i), .int (nI c)]) (b := b) (rest := [.ref b]) (d2 := 0) (c2 := 0) (s2 := 0) (c3 := 0) (s3 := 0) dX9_beginTables_98 wm_X9_151 wi_X9_cell wv_X9_cell (k := 9) rfl (by decide) hb2 nX9_cell ⟨pX9_cell, Nat.le_of_ble_eq_true rfl, by decide, Nat.le_of_ble_eq_true rfl, by decide, by decide⟩ (c_X9_cell (tt := tt) (r := i) (c := c) hb2 (by omega) (by omega) (by omega)) (fun v9 B9 hC => ?_) (fun E9 B9 hC => absurd hC.1 (by simp))
          obtain ⟨hv9, e9⟩ := hC
          cases hv9
          refine xx_cst (st2 := [.int (nI (yy_tb tt + 13 * i + c)), .ref b]) rfl ?_
          rw [e9]
          refine xx_iload dX9_beginTables_101 rfl ?_
          refine xx_if_eq (tgt := 110) dX9_beginTables_103 (by decide) (fun h => absurd h (by decide)) (fun j103 => ?_)
          refine xx_lconst (v := 1) dX9_beginTables_106 (by decide) ?_
          refine xx_goto (tgt := 145) dX9_beginTables_107 (by decide) ?_
          exfalso; omega
