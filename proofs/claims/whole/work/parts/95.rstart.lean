/-! ===== the reference's entry, beginTables ===== -/
/-- the reference's wholes, leasts, multiples -/
def xx_rp (B : xx_H) (b m n : Nat) (W : Nat → Nat → Nat → Int) (le : Nat → Int) (mu : Nat → Nat) : Prop := (∃ f, B.2 (b + 15) = xx_l 72 f ∧ ∀ p, p < 2 → ∀ i, i < m → ∀ j, j < n → f (36 * p + (6 * i) + j) = lz (W p i j)) ∧ (∃ f, B.2 (b + 16) = xx_l 2 f ∧ ∀ p, p < 2 → f p = lz (le p)) ∧ (∃ f, B.2 (b + 14) = xx_l 2 f ∧ ∀ p, p < 2 → f p = lN (mu p)) ∧ (∀ p, p < 2 → ∀ i, i < m → ∀ j, j < n → (W p i j).natAbs ≤ 277172280) ∧ (∀ p, p < 2 → (le p).natAbs ≤ 277172280)
theorem xx_rp.to {B C : xx_H} {b m n : Nat} {W : Nat → Nat → Nat → Int} {le : Nat → Int} {mu : Nat → Nat} (h : xx_rp B b m n W le mu) (h1 : C.2 (b + 14) = B.2 (b + 14)) (h2 : C.2 (b + 15) = B.2 (b + 15)) (h3 : C.2 (b + 16) = B.2 (b + 16)) : xx_rp C b m n W le mu := by
  obtain ⟨⟨f, a1, a2⟩, ⟨g, a3, a4⟩, ⟨h, a5, a6⟩, a7⟩ := h
  exact ⟨⟨f, h2.trans a1, a2⟩, ⟨g, h3.trans a3, a4⟩, ⟨h, h1.trans a5, a6⟩, a7⟩
/-- the columns of both tables at first -/
def yg_a (m n : Nat) (W : Nat → Nat → Nat → Int) (le : Nat → Int) (tt c r : Nat) : Int := if c = m + n then 1 else if tt = 0 then (if c < m then 1 + W 1 c r - le 1 else yh_e (c - m) r) else (if c < m then yh_e c r else 1 + W 0 r (c - m) - le 0)
set_option maxRecDepth 100000 in
theorem c_X9_entry {G : xx_G} {l : Launch} {A : xx_H} {b : Nat} {th hr st hl en tu : Value} {m n : Nat} {p i j : Nat} {W : Nat → Nat → Nat → Int} {le : Nat → Int} {mu : Nat → Nat} (hb : A.2 b = xx_o 9 (xx_mf b th (.int (nI m)) (.int (nI n)) hr st hl en tu)) (hP : xx_rp A b m n W le mu) (hp : p < 2) (hi : i < m) (hj : j < n) (hm : m ≤ 6) (hn : n ≤ 6) : xx_X G l mX9_entry 0 0 0 0 (lv_args 0 [.ref b, .int (nI p), .int (nI i), .int (nI j)]) [] A (fun z B => z = .inl (some (.long (lz (1 + W p i j - le p)))) ∧ B = A) := by
  obtain ⟨⟨f, f1, f2⟩, ⟨g, g1, g2⟩, _⟩ := hP
  refine xx_clv (lv2 := [(0, .ref b), (1, .int (nI p)), (2, .int (nI i)), (3, .int (nI j))]) rfl ?_
  refine xx_lconst (v := 1) dX9_entry_0 (by decide) ?_
  refine xx_aload_n dX9_entry_1 rfl ?_
  refine xx_get xx_c9 dX9_entry_2 wf_X9_59 (j := 21) (by decide) hb rfl ?_
  refine xx_bipush (v := 36) dX9_entry_5 (by decide) ?_
  refine xx_iload_n dX9_entry_7 rfl ?_
  refine xx_imul dX9_entry_8 ?_
  refine xx_eqi (y := nI (36 * p)) (pk_mul 36 p) ?_
  refine xx_bipush (v := 6) dX9_entry_9 (by decide) ?_
  refine xx_iload_n dX9_entry_11 rfl ?_
  refine xx_imul dX9_entry_12 ?_
  refine xx_eqi (y := nI (6 * i)) (pk_mul 6 i) ?_
  refine xx_iadd dX9_entry_13 ?_
  refine xx_eqi (y := nI (36 * p + (6 * i))) (nI_add (36 * p) (6 * i)) ?_
  refine xx_iload_n dX9_entry_14 rfl ?_
  refine xx_iadd dX9_entry_15 ?_
  refine xx_eqi (y := nI (36 * p + (6 * i) + j)) (nI_add (36 * p + (6 * i)) j) ?_
  refine xx_lald dX9_entry_16 f1 (vp_in_nI (by omega) (by decide)) ?_
  refine xx_eql (y := lz (W p i j)) (by rw [nI_clamp (by omega)]; exact f2 p hp i hi j hj) ?_
  refine xx_ladd dX9_entry_17 ?_
  refine xx_eql (y := lz (1 + W p i j)) (lz_add 1 _) ?_
  refine xx_aload_n dX9_entry_18 rfl ?_
  refine xx_get xx_c9 dX9_entry_19 wf_X9_62 (j := 22) (by decide) hb rfl ?_
  refine xx_iload_n dX9_entry_22 rfl ?_
  refine xx_lald dX9_entry_23 g1 (vp_in_nI (by omega) (by decide)) ?_
  refine xx_eql (y := lz (le p)) (by rw [nI_clamp (by omega)]; exact g2 p hp) ?_
  refine xx_lsub dX9_entry_24 ?_
  refine xx_eql (y := lz (1 + W p i j - le p)) (lz_sub _ _) ?_
  exact xx_lret dX9_entry_25 rfl ⟨rfl, rfl⟩
theorem yg_bd {m n tt c r : Nat} {W : Nat → Nat → Nat → Int} {le : Nat → Int} (hW : ∀ p, p < 2 → ∀ i, i < m → ∀ j, j < n → (W p i j).natAbs ≤ 277172280) (hl : ∀ p, p < 2 → (le p).natAbs ≤ 277172280) (ht : tt < 2) (hr : r < yy_rw m n tt) (hc : c ≤ m + n) : (yg_a m n W le tt c r).natAbs ≤ 554344561 := by
  unfold yg_a
  unfold yy_rw at hr
  have he : ∀ x y, (yh_e x y).natAbs ≤ 554344561 := by
    intro x y
    unfold yh_e
    split <;> decide
  have l0 := hl 0 (by decide)
  have l1 := hl 1 (by decide)
  by_cases a : c = m + n
  · rw [if_pos a]; decide
  · rw [if_neg a]
    by_cases b : tt = 0
    · rw [if_pos b] at hr ⊢
      by_cases d : c < m
      · rw [if_pos d]; have := hW 1 (by decide) c d r hr; omega
      · rw [if_neg d]; exact he _ _
    · rw [if_neg b] at hr ⊢
      by_cases d : c < m
      · rw [if_pos d]; exact he _ _
      · rw [if_neg d]; have := hW 0 (by decide) r hr (c - m) (by omega); omega
set_option maxRecDepth 100000 in
theorem l_X9_bi {G : xx_G} {l : Launch} {A : xx_H} {b : Nat} {th hr st hl en tu : Value} {m n : Nat} {tt i : Nat} {W : Nat → Nat → Nat → Int} {le : Nat → Int} {mu : Nat → Nat} {N : Nat → Int} {Q : Option Value ⊕ String → xx_H → Prop} (hb : A.2 b = xx_o 9 (xx_mf b th (.int (nI m)) (.int (nI n)) hr st hl en tu)) (hP : xx_rp A b m n W le mu) (hm : m ≤ 6) (hn : n ≤ 6) (ht : tt < 2) (hi : i < yy_rw m n tt) (k : ∀ (B : xx_H) (N2 : Nat → Int), B.1 = A.1 → xx_rw B b N2 → (∀ w9, w9 < (m + n) → N2 (yy_tb tt + 13 * i + w9) = yg_a m n W le tt w9 i) → (∀ q, (q < yy_tb tt + 13 * i ∨ yy_tb tt + 13 * i + 13 ≤ q) → N2 q = N q) → (∀ q, q ≠ b + 1 → q ≠ b + 2 → q ≠ b + 3 → q ≠ b + 17 → q ≠ b + 18 → B.2 q = A.2 q) → xx_X G l mX9_beginTables 1 0 0 154 [(0, .ref b), (1, .int (nI tt)), (2, .int (nI i))] [] B Q) :
    ∀ (v c : Nat), c + v = m + n → ∀ (B : xx_H) (N2 : Nat → Int), B.1 = A.1 → xx_rw B b N2 → (∀ w9, w9 < c → N2 (yy_tb tt + 13 * i + w9) = yg_a m n W le tt w9 i) → (∀ q, (q < yy_tb tt + 13 * i ∨ yy_tb tt + 13 * i + 13 ≤ q) → N2 q = N q) → (∀ q, q ≠ b + 1 → q ≠ b + 2 → q ≠ b + 3 → q ≠ b + 17 → q ≠ b + 18 → B.2 q = A.2 q) → xx_X G l mX9_beginTables 1 0 0 20 [(0, .ref b), (1, .int (nI tt)), (2, .int (nI i)), (3, .int (nI c))] [] B Q := by
  intro v
  induction v with
  | zero =>
    intro c hc B N2 y1 y2 y3 y4 y5
    have : c = m + n := by omega
    subst this
    have hb2 := (y5 b (by omega) (by omega) (by omega) (by omega) (by omega)).trans hb
    refine xx_iload_n dX9_beginTables_20 rfl ?_
    refine xx_aload_n dX9_beginTables_21 rfl ?_
    refine xx_get xx_c9 dX9_beginTables_22 wf_X9_120 (j := 4) (by decide) hb2 rfl ?_
    refine xx_aload_n dX9_beginTables_25 rfl ?_
    refine xx_get xx_c9 dX9_beginTables_26 wf_X9_123 (j := 5) (by decide) hb2 rfl ?_
    refine xx_iadd dX9_beginTables_29 ?_
    refine xx_eqi (y := nI (m + n)) (nI_add m n) ?_
    refine xx_icmp_ge (tgt := 154) dX9_beginTables_30 (by decide) (fun j30 => ?_) (fun h => absurd (Int32.le_refl _) h)
    refine xx_less [0, 1, 2] ?_
    refine xx_clv (lv2 := [(0, .ref b), (1, .int (nI tt)), (2, .int (nI i))]) rfl ?_
    exact k B N2 y1 y2 y3 y4 y5
  | succ v ih =>
    intro c hc B N2 y1 y2 y3 y4 y5
    have hb2 := (y5 b (by omega) (by omega) (by omega) (by omega) (by omega)).trans hb
    have tb := yy_tb_b tt
    have hP2 := hP.to (y5 (b + 14) (by omega) (by omega) (by omega) (by omega) (by omega)) (y5 (b + 15) (by omega) (by omega) (by omega) (by omega) (by omega)) (y5 (b + 16) (by omega) (by omega) (by omega) (by omega) (by omega))
    have hi6 : i < 6 := by unfold yy_rw at hi; split at hi <;> omega
    have hbd := yg_bd (tt := tt) (c := c) (r := i) hP.2.2.2.1 hP.2.2.2.2 ht hi (by omega)
    refine xx_iload_n dX9_beginTables_20 rfl ?_
    refine xx_aload_n dX9_beginTables_21 rfl ?_
    refine xx_get xx_c9 dX9_beginTables_22 wf_X9_120 (j := 4) (by decide) hb2 rfl ?_
    refine xx_aload_n dX9_beginTables_25 rfl ?_
    refine xx_get xx_c9 dX9_beginTables_26 wf_X9_123 (j := 5) (by decide) hb2 rfl ?_
    refine xx_iadd dX9_beginTables_29 ?_
    refine xx_eqi (y := nI (m + n)) (nI_add m n) ?_
    refine xx_icmp_ge (tgt := 154) dX9_beginTables_30 (by decide) (fun h => absurd h (nI_ge (by omega) (by omega))) (fun j30 => ?_)
    refine xx_iload_n dX9_beginTables_33 rfl ?_
    refine xx_iload_n dX9_beginTables_34 rfl ?_
    refine xx_if_ne (tgt := 47) dX9_beginTables_35 (by decide) (fun j35 => ?_) (fun j35 => ?_)
    · have j35 : ¬ tt = 0 := fun hq9 => j35 ((nI_eq (a := tt) (b := 0) (by omega) (by omega)).mpr hq9)
      refine xx_iload_n dX9_beginTables_47 rfl ?_
      refine xx_icmp_ne (tgt := 55) dX9_beginTables_48 (by decide) (fun j48 => ?_) (fun j48 => ?_)
      · have j48 : ¬ c = i := fun hq9 => j48 ((nI_eq (a := c) (b := i) (by omega) (by omega)).mpr hq9)
        refine xx_iconst (v := 0) dX9_beginTables_55 (by decide) ?_
        refine xx_istore dX9_beginTables_56 (by decide) ?_
        refine xx_clv (lv2 := [(0, .ref b), (1, .int (nI tt)), (2, .int (nI i)), (3, .int (nI c)), (4, .int 0)]) rfl ?_
        refine xx_iload_n dX9_beginTables_58 rfl ?_
        refine xx_if_ne (tgt := 78) dX9_beginTables_59 (by decide) (fun j59 => ?_) (fun h => absurd (show nI tt = 0 from h) (fun z => j35 ((nI_eq (b := 0) (by omega) (by decide)).mp z)))
        refine xx_iload_n dX9_beginTables_78 rfl ?_
        refine xx_aload_n dX9_beginTables_79 rfl ?_
        refine xx_get xx_c9 dX9_beginTables_80 wf_X9_120 (j := 4) (by decide) hb2 rfl ?_
        refine xx_icmp_lt (tgt := 90) dX9_beginTables_83 (by decide) (fun j83 => ?_) (fun j83 => ?_)
        · have j83 : c < m := (nI_ltI (a := c) (b := m) (by omega) (by omega)).mp j83
          refine xx_iconst (v := 0) dX9_beginTables_90 (by decide) ?_
          refine xx_istore dX9_beginTables_91 (by decide) ?_
          refine xx_clv (lv2 := [(0, .ref b), (1, .int (nI tt)), (2, .int (nI i)), (3, .int (nI c)), (4, .int 0), (5, .int 0)]) rfl ?_
          refine xx_aload_n dX9_beginTables_93 rfl ?_
          refine xx_aload_n dX9_beginTables_94 rfl ?_
          refine xx_iload_n dX9_beginTables_95 rfl ?_
          refine xx_iload_n dX9_beginTables_96 rfl ?_
          refine xx_iload_n dX9_beginTables_97 rfl ?_
          refine xx_callV (N := mX9_cell) (vs := [.int (nI tt), .int (nI i), .int (nI c)]) (b := b) (rest := [.ref b]) (d2 := 0) (c2 := 0) (s2 := 0) (c3 := 0) (s3 := 0) dX9_beginTables_98 wm_X9_151 wi_X9_cell wv_X9_cell (k := 9) rfl (by decide) hb2 nX9_cell ⟨pX9_cell, Nat.le_of_ble_eq_true rfl, by decide, Nat.le_of_ble_eq_true rfl, by decide, by decide⟩ (c_X9_cell (tt := tt) (r := i) (c := c) hb2 (by omega) (by omega) (by omega)) (fun v9 B9 hC => ?_) (fun E9 B9 hC => absurd hC.1 (by simp))
          obtain ⟨hv9, e9⟩ := hC
          cases hv9
          refine xx_cst (st2 := [.int (nI (yy_tb tt + 13 * i + c)), .ref b]) rfl ?_
          rw [e9]
          refine xx_iload dX9_beginTables_101 rfl ?_
          refine xx_if_eq (tgt := 110) dX9_beginTables_103 (by decide) (fun j103 => ?_) (fun h => absurd (by decide) h)
          refine xx_iload dX9_beginTables_110 rfl ?_
          refine xx_if_eq (tgt := 144) dX9_beginTables_112 (by decide) (fun j112 => ?_) (fun h => absurd (by decide) h)
          refine xx_lconst (v := 0) dX9_beginTables_144 (by decide) ?_
          refine xx_eql (y := lz (yg_a m n W le tt c i)) (by unfold yg_a; rw [if_neg (by omega), if_neg j35, if_pos (by omega)]; unfold yh_e; rw [if_neg (by omega)]; decide) ?_
          refine xx_callV (N := mX9_set) (vs := [.int (nI (yy_tb tt + 13 * i + c)), .long (lz (yg_a m n W le tt c i))]) (b := b) (rest := []) (d2 := 0) (c2 := 0) (s2 := 0) (c3 := 0) (s3 := 0) dX9_beginTables_145 wm_X9_80 wi_X9_set wv_X9_set (k := 9) rfl (by decide) hb2 nX9_set ⟨pX9_set, Nat.le_of_ble_eq_true rfl, by decide, Nat.le_of_ble_eq_true rfl, by decide, by decide⟩ (c_X9_set (a := yy_tb tt + 13 * i + c) (v := yg_a m n W le tt c i) hb2 y2.1 (by omega) (by omega) (by omega)) (fun v9 D hC => ?_) (fun E9 B9 hC => absurd hC.1 (by simp))
          obtain ⟨hv8, k1, k2, k3⟩ := hC
          cases hv8
          refine xx_cst (st2 := []) rfl ?_
          refine xx_iinc (v := nI (c + 1)) dX9_beginTables_148 rfl (nI_1 c) (by decide) ?_
          refine xx_goto (tgt := 20) dX9_beginTables_151 (by decide) ?_
          refine xx_less [0, 1, 2, 3] ?_
          refine xx_clv (lv2 := [(0, .ref b), (1, .int (nI tt)), (2, .int (nI i)), (3, .int (nI (c + 1)))]) rfl ?_
          refine ih (c + 1) (by omega) D _ (by omega) (y2.set k2 k3) (fun c9 h9 => ?_) (fun q hq => (yy_un_n (by omega)).trans (y4 q hq)) (fun q a1 a2 a3 a4 a5 => (k3 q a1 a2 a3).trans (y5 q a1 a2 a3 a4 a5))
          by_cases e : c9 = c
          · rw [e, yy_un_s]
          · rw [yy_un_n (by omega)]; exact y3 c9 (by omega)
        · have j83 : ¬ c < m := fun hq9 => j83 ((nI_ltI (a := c) (b := m) (by omega) (by omega)).mpr hq9)
          refine xx_iconst (v := 1) dX9_beginTables_86 (by decide) ?_
          refine xx_goto (tgt := 91) dX9_beginTables_87 (by decide) ?_
          refine xx_istore dX9_beginTables_91 (by decide) ?_
          refine xx_clv (lv2 := [(0, .ref b), (1, .int (nI tt)), (2, .int (nI i)), (3, .int (nI c)), (4, .int 0), (5, .int 1)]) rfl ?_
          refine xx_aload_n dX9_beginTables_93 rfl ?_
          refine xx_aload_n dX9_beginTables_94 rfl ?_
          refine xx_iload_n dX9_beginTables_95 rfl ?_
          refine xx_iload_n dX9_beginTables_96 rfl ?_
          refine xx_iload_n dX9_beginTables_97 rfl ?_
          refine xx_callV (N := mX9_cell) (vs := [.int (nI tt), .int (nI i), .int (nI c)]) (b := b) (rest := [.ref b]) (d2 := 0) (c2 := 0) (s2 := 0) (c3 := 0) (s3 := 0) dX9_beginTables_98 wm_X9_151 wi_X9_cell wv_X9_cell (k := 9) rfl (by decide) hb2 nX9_cell ⟨pX9_cell, Nat.le_of_ble_eq_true rfl, by decide, Nat.le_of_ble_eq_true rfl, by decide, by decide⟩ (c_X9_cell (tt := tt) (r := i) (c := c) hb2 (by omega) (by omega) (by omega)) (fun v9 B9 hC => ?_) (fun E9 B9 hC => absurd hC.1 (by simp))
          obtain ⟨hv9, e9⟩ := hC
          cases hv9
          refine xx_cst (st2 := [.int (nI (yy_tb tt + 13 * i + c)), .ref b]) rfl ?_
          rw [e9]
          refine xx_iload dX9_beginTables_101 rfl ?_
          refine xx_if_eq (tgt := 110) dX9_beginTables_103 (by decide) (fun j103 => ?_) (fun h => absurd (by decide) h)
          refine xx_iload dX9_beginTables_110 rfl ?_
          refine xx_if_eq (tgt := 144) dX9_beginTables_112 (by decide) (fun h => absurd h (by decide)) (fun j112 => ?_)
          refine xx_iload_n dX9_beginTables_115 rfl ?_
          refine xx_if_ne (tgt := 129) dX9_beginTables_116 (by decide) (fun j116 => ?_) (fun h => absurd (show nI tt = 0 from h) (fun z => j35 ((nI_eq (b := 0) (by omega) (by decide)).mp z)))
          refine xx_aload_n dX9_beginTables_129 rfl ?_
          refine xx_iconst (v := 0) dX9_beginTables_130 (by decide) ?_
          refine xx_iload_n dX9_beginTables_131 rfl ?_
          refine xx_iload_n dX9_beginTables_132 rfl ?_
          refine xx_aload_n dX9_beginTables_133 rfl ?_
          refine xx_get xx_c9 dX9_beginTables_134 wf_X9_120 (j := 4) (by decide) hb2 rfl ?_
          refine xx_isub dX9_beginTables_137 ?_
          refine xx_eqi (y := nI (c - m)) (pk_sub (a := c) (b := m) (by omega)) ?_
          have him : i < m := by unfold yy_rw at hi; rw [if_neg j35] at hi; exact hi
          refine xx_cst (st2 := [.int (nI (c - m)), .int (nI i), .int (nI 0), .ref b, .int (nI (yy_tb tt + 13 * i + c)), .ref b]) rfl ?_
          refine xx_callV (N := mX9_entry) (vs := [.int (nI 0), .int (nI i), .int (nI (c - m))]) (b := b) (rest := [.int (nI (yy_tb tt + 13 * i + c)), .ref b]) (d2 := 0) (c2 := 0) (s2 := 0) (c3 := 0) (s3 := 0) dX9_beginTables_138 wm_X9_155 wi_X9_entry wv_X9_entry (k := 9) rfl (by decide) hb2 nX9_entry ⟨pX9_entry, Nat.le_of_ble_eq_true rfl, by decide, Nat.le_of_ble_eq_true rfl, by decide, by decide⟩ (c_X9_entry (p := 0) (i := i) (j := c - m) hb2 hP2 (by decide) him (by omega) hm hn) (fun v9 B9 hC => ?_) (fun E9 B9 hC => absurd hC.1 (by simp))
          obtain ⟨hv9, e9⟩ := hC
          cases hv9
          refine xx_cst (st2 := [.long (lz (1 + W 0 i (c - m) - le 0)), .int (nI (yy_tb tt + 13 * i + c)), .ref b]) rfl ?_
          rw [e9]
          refine xx_goto (tgt := 145) dX9_beginTables_141 (by decide) ?_
          refine xx_eql (y := lz (yg_a m n W le tt c i)) (by unfold yg_a; rw [if_neg (by omega), if_neg j35, if_neg (by omega)]) ?_
          refine xx_callV (N := mX9_set) (vs := [.int (nI (yy_tb tt + 13 * i + c)), .long (lz (yg_a m n W le tt c i))]) (b := b) (rest := []) (d2 := 0) (c2 := 0) (s2 := 0) (c3 := 0) (s3 := 0) dX9_beginTables_145 wm_X9_80 wi_X9_set wv_X9_set (k := 9) rfl (by decide) hb2 nX9_set ⟨pX9_set, Nat.le_of_ble_eq_true rfl, by decide, Nat.le_of_ble_eq_true rfl, by decide, by decide⟩ (c_X9_set (a := yy_tb tt + 13 * i + c) (v := yg_a m n W le tt c i) hb2 y2.1 (by omega) (by omega) (by omega)) (fun v9 D hC => ?_) (fun E9 B9 hC => absurd hC.1 (by simp))
          obtain ⟨hv8, k1, k2, k3⟩ := hC
          cases hv8
          refine xx_cst (st2 := []) rfl ?_
          refine xx_iinc (v := nI (c + 1)) dX9_beginTables_148 rfl (nI_1 c) (by decide) ?_
          refine xx_goto (tgt := 20) dX9_beginTables_151 (by decide) ?_
          refine xx_less [0, 1, 2, 3] ?_
          refine xx_clv (lv2 := [(0, .ref b), (1, .int (nI tt)), (2, .int (nI i)), (3, .int (nI (c + 1)))]) rfl ?_
          refine ih (c + 1) (by omega) D _ (by omega) (y2.set k2 k3) (fun c9 h9 => ?_) (fun q hq => (yy_un_n (by omega)).trans (y4 q hq)) (fun q a1 a2 a3 a4 a5 => (k3 q a1 a2 a3).trans (y5 q a1 a2 a3 a4 a5))
          by_cases e : c9 = c
          · rw [e, yy_un_s]
          · rw [yy_un_n (by omega)]; exact y3 c9 (by omega)
      · have j48 : c = i := (nI_eq (a := c) (b := i) (by omega) (by omega)).mp j48
        refine xx_iconst (v := 1) dX9_beginTables_51 (by decide) ?_
        refine xx_goto (tgt := 56) dX9_beginTables_52 (by decide) ?_
        refine xx_istore dX9_beginTables_56 (by decide) ?_
        refine xx_clv (lv2 := [(0, .ref b), (1, .int (nI tt)), (2, .int (nI i)), (3, .int (nI c)), (4, .int 1)]) rfl ?_
        refine xx_iload_n dX9_beginTables_58 rfl ?_
        refine xx_if_ne (tgt := 78) dX9_beginTables_59 (by decide) (fun j59 => ?_) (fun h => absurd (show nI tt = 0 from h) (fun z => j35 ((nI_eq (b := 0) (by omega) (by decide)).mp z)))
        refine xx_iload_n dX9_beginTables_78 rfl ?_
        refine xx_aload_n dX9_beginTables_79 rfl ?_
        refine xx_get xx_c9 dX9_beginTables_80 wf_X9_120 (j := 4) (by decide) hb2 rfl ?_
        refine xx_icmp_lt (tgt := 90) dX9_beginTables_83 (by decide) (fun j83 => ?_) (fun j83 => ?_)
        · have j83 : c < m := (nI_ltI (a := c) (b := m) (by omega) (by omega)).mp j83
          refine xx_iconst (v := 0) dX9_beginTables_90 (by decide) ?_
          refine xx_istore dX9_beginTables_91 (by decide) ?_
          refine xx_clv (lv2 := [(0, .ref b), (1, .int (nI tt)), (2, .int (nI i)), (3, .int (nI c)), (4, .int 1), (5, .int 0)]) rfl ?_
          refine xx_aload_n dX9_beginTables_93 rfl ?_
          refine xx_aload_n dX9_beginTables_94 rfl ?_
          refine xx_iload_n dX9_beginTables_95 rfl ?_
          refine xx_iload_n dX9_beginTables_96 rfl ?_
          refine xx_iload_n dX9_beginTables_97 rfl ?_
          refine xx_callV (N := mX9_cell) (vs := [.int (nI tt), .int (nI i), .int (nI c)]) (b := b) (rest := [.ref b]) (d2 := 0) (c2 := 0) (s2 := 0) (c3 := 0) (s3 := 0) dX9_beginTables_98 wm_X9_151 wi_X9_cell wv_X9_cell (k := 9) rfl (by decide) hb2 nX9_cell ⟨pX9_cell, Nat.le_of_ble_eq_true rfl, by decide, Nat.le_of_ble_eq_true rfl, by decide, by decide⟩ (c_X9_cell (tt := tt) (r := i) (c := c) hb2 (by omega) (by omega) (by omega)) (fun v9 B9 hC => ?_) (fun E9 B9 hC => absurd hC.1 (by simp))
          obtain ⟨hv9, e9⟩ := hC
          cases hv9
          refine xx_cst (st2 := [.int (nI (yy_tb tt + 13 * i + c)), .ref b]) rfl ?_
          rw [e9]
          refine xx_iload dX9_beginTables_101 rfl ?_
          refine xx_if_eq (tgt := 110) dX9_beginTables_103 (by decide) (fun h => absurd h (by decide)) (fun j103 => ?_)
          refine xx_lconst (v := 1) dX9_beginTables_106 (by decide) ?_
          refine xx_goto (tgt := 145) dX9_beginTables_107 (by decide) ?_
          refine xx_eql (y := lz (yg_a m n W le tt c i)) (by unfold yg_a; rw [if_neg (by omega), if_neg j35, if_pos (by omega)]; unfold yh_e; rw [if_pos (by omega)]; decide) ?_
          refine xx_callV (N := mX9_set) (vs := [.int (nI (yy_tb tt + 13 * i + c)), .long (lz (yg_a m n W le tt c i))]) (b := b) (rest := []) (d2 := 0) (c2 := 0) (s2 := 0) (c3 := 0) (s3 := 0) dX9_beginTables_145 wm_X9_80 wi_X9_set wv_X9_set (k := 9) rfl (by decide) hb2 nX9_set ⟨pX9_set, Nat.le_of_ble_eq_true rfl, by decide, Nat.le_of_ble_eq_true rfl, by decide, by decide⟩ (c_X9_set (a := yy_tb tt + 13 * i + c) (v := yg_a m n W le tt c i) hb2 y2.1 (by omega) (by omega) (by omega)) (fun v9 D hC => ?_) (fun E9 B9 hC => absurd hC.1 (by simp))
          obtain ⟨hv8, k1, k2, k3⟩ := hC
          cases hv8
          refine xx_cst (st2 := []) rfl ?_
          refine xx_iinc (v := nI (c + 1)) dX9_beginTables_148 rfl (nI_1 c) (by decide) ?_
          refine xx_goto (tgt := 20) dX9_beginTables_151 (by decide) ?_
          refine xx_less [0, 1, 2, 3] ?_
          refine xx_clv (lv2 := [(0, .ref b), (1, .int (nI tt)), (2, .int (nI i)), (3, .int (nI (c + 1)))]) rfl ?_
          refine ih (c + 1) (by omega) D _ (by omega) (y2.set k2 k3) (fun c9 h9 => ?_) (fun q hq => (yy_un_n (by omega)).trans (y4 q hq)) (fun q a1 a2 a3 a4 a5 => (k3 q a1 a2 a3).trans (y5 q a1 a2 a3 a4 a5))
          by_cases e : c9 = c
          · rw [e, yy_un_s]
          · rw [yy_un_n (by omega)]; exact y3 c9 (by omega)
        · have j83 : ¬ c < m := fun hq9 => j83 ((nI_ltI (a := c) (b := m) (by omega) (by omega)).mpr hq9)
          refine xx_iconst (v := 1) dX9_beginTables_86 (by decide) ?_
          refine xx_goto (tgt := 91) dX9_beginTables_87 (by decide) ?_
          refine xx_istore dX9_beginTables_91 (by decide) ?_
          refine xx_clv (lv2 := [(0, .ref b), (1, .int (nI tt)), (2, .int (nI i)), (3, .int (nI c)), (4, .int 1), (5, .int 1)]) rfl ?_
          refine xx_aload_n dX9_beginTables_93 rfl ?_
          refine xx_aload_n dX9_beginTables_94 rfl ?_
          refine xx_iload_n dX9_beginTables_95 rfl ?_
          refine xx_iload_n dX9_beginTables_96 rfl ?_
          refine xx_iload_n dX9_beginTables_97 rfl ?_
          refine xx_callV (N := mX9_cell) (vs := [.int (nI tt), .int (nI i), .int (nI c)]) (b := b) (rest := [.ref b]) (d2 := 0) (c2 := 0) (s2 := 0) (c3 := 0) (s3 := 0) dX9_beginTables_98 wm_X9_151 wi_X9_cell wv_X9_cell (k := 9) rfl (by decide) hb2 nX9_cell ⟨pX9_cell, Nat.le_of_ble_eq_true rfl, by decide, Nat.le_of_ble_eq_true rfl, by decide, by decide⟩ (c_X9_cell (tt := tt) (r := i) (c := c) hb2 (by omega) (by omega) (by omega)) (fun v9 B9 hC => ?_) (fun E9 B9 hC => absurd hC.1 (by simp))
          obtain ⟨hv9, e9⟩ := hC
          cases hv9
          refine xx_cst (st2 := [.int (nI (yy_tb tt + 13 * i + c)), .ref b]) rfl ?_
          rw [e9]
          refine xx_iload dX9_beginTables_101 rfl ?_
          refine xx_if_eq (tgt := 110) dX9_beginTables_103 (by decide) (fun h => absurd h (by decide)) (fun j103 => ?_)
          refine xx_lconst (v := 1) dX9_beginTables_106 (by decide) ?_
          refine xx_goto (tgt := 145) dX9_beginTables_107 (by decide) ?_
          have him : i < m := by unfold yy_rw at hi; rw [if_neg j35] at hi; exact hi
          exfalso; omega
    · have j35 : tt = 0 := (nI_eq (a := tt) (b := 0) (by omega) (by omega)).mp j35
      refine xx_aload_n dX9_beginTables_38 rfl ?_
      refine xx_get xx_c9 dX9_beginTables_39 wf_X9_120 (j := 4) (by decide) hb2 rfl ?_
      refine xx_iload_n dX9_beginTables_42 rfl ?_
      refine xx_iadd dX9_beginTables_43 ?_
      refine xx_eqi (y := nI (m + i)) (nI_add m i) ?_
      refine xx_goto (tgt := 48) dX9_beginTables_44 (by decide) ?_
      refine xx_icmp_ne (tgt := 55) dX9_beginTables_48 (by decide) (fun j48 => ?_) (fun j48 => ?_)
      · have j48 : ¬ c = m + i := fun hq9 => j48 ((nI_eq (a := c) (b := m + i) (by omega) (by omega)).mpr hq9)
        refine xx_iconst (v := 0) dX9_beginTables_55 (by decide) ?_
        refine xx_istore dX9_beginTables_56 (by decide) ?_
        refine xx_clv (lv2 := [(0, .ref b), (1, .int (nI tt)), (2, .int (nI i)), (3, .int (nI c)), (4, .int 0)]) rfl ?_
        refine xx_iload_n dX9_beginTables_58 rfl ?_
        refine xx_if_ne (tgt := 78) dX9_beginTables_59 (by decide) (fun h => absurd (show nI tt = 0 by rw [j35]; rfl) h) (fun j59 => ?_)
        refine xx_iload_n dX9_beginTables_62 rfl ?_
        refine xx_aload_n dX9_beginTables_63 rfl ?_
        refine xx_get xx_c9 dX9_beginTables_64 wf_X9_120 (j := 4) (by decide) hb2 rfl ?_
        refine xx_icmp_ge (tgt := 74) dX9_beginTables_67 (by decide) (fun j67 => ?_) (fun j67 => ?_)
        · have j67 : m ≤ c := (nI_leI (a := m) (b := c) (by omega) (by omega)).mp j67
          refine xx_iconst (v := 0) dX9_beginTables_74 (by decide) ?_
          refine xx_goto (tgt := 91) dX9_beginTables_75 (by decide) ?_
          refine xx_istore dX9_beginTables_91 (by decide) ?_
          refine xx_clv (lv2 := [(0, .ref b), (1, .int (nI tt)), (2, .int (nI i)), (3, .int (nI c)), (4, .int 0), (5, .int 0)]) rfl ?_
          refine xx_aload_n dX9_beginTables_93 rfl ?_
          refine xx_aload_n dX9_beginTables_94 rfl ?_
          refine xx_iload_n dX9_beginTables_95 rfl ?_
          refine xx_iload_n dX9_beginTables_96 rfl ?_
          refine xx_iload_n dX9_beginTables_97 rfl ?_
          refine xx_callV (N := mX9_cell) (vs := [.int (nI tt), .int (nI i), .int (nI c)]) (b := b) (rest := [.ref b]) (d2 := 0) (c2 := 0) (s2 := 0) (c3 := 0) (s3 := 0) dX9_beginTables_98 wm_X9_151 wi_X9_cell wv_X9_cell (k := 9) rfl (by decide) hb2 nX9_cell ⟨pX9_cell, Nat.le_of_ble_eq_true rfl, by decide, Nat.le_of_ble_eq_true rfl, by decide, by decide⟩ (c_X9_cell (tt := tt) (r := i) (c := c) hb2 (by omega) (by omega) (by omega)) (fun v9 B9 hC => ?_) (fun E9 B9 hC => absurd hC.1 (by simp))
          obtain ⟨hv9, e9⟩ := hC
          cases hv9
          refine xx_cst (st2 := [.int (nI (yy_tb tt + 13 * i + c)), .ref b]) rfl ?_
          rw [e9]
          refine xx_iload dX9_beginTables_101 rfl ?_
          refine xx_if_eq (tgt := 110) dX9_beginTables_103 (by decide) (fun j103 => ?_) (fun h => absurd (by decide) h)
          refine xx_iload dX9_beginTables_110 rfl ?_
          refine xx_if_eq (tgt := 144) dX9_beginTables_112 (by decide) (fun j112 => ?_) (fun h => absurd (by decide) h)
          refine xx_lconst (v := 0) dX9_beginTables_144 (by decide) ?_
          refine xx_eql (y := lz (yg_a m n W le tt c i)) (by unfold yg_a; rw [if_neg (by omega), if_pos j35, if_neg (by omega)]; unfold yh_e; rw [if_neg (by omega)]; decide) ?_
          refine xx_callV (N := mX9_set) (vs := [.int (nI (yy_tb tt + 13 * i + c)), .long (lz (yg_a m n W le tt c i))]) (b := b) (rest := []) (d2 := 0) (c2 := 0) (s2 := 0) (c3 := 0) (s3 := 0) dX9_beginTables_145 wm_X9_80 wi_X9_set wv_X9_set (k := 9) rfl (by decide) hb2 nX9_set ⟨pX9_set, Nat.le_of_ble_eq_true rfl, by decide, Nat.le_of_ble_eq_true rfl, by decide, by decide⟩ (c_X9_set (a := yy_tb tt + 13 * i + c) (v := yg_a m n W le tt c i) hb2 y2.1 (by omega) (by omega) (by omega)) (fun v9 D hC => ?_) (fun E9 B9 hC => absurd hC.1 (by simp))
          obtain ⟨hv8, k1, k2, k3⟩ := hC
          cases hv8
          refine xx_cst (st2 := []) rfl ?_
          refine xx_iinc (v := nI (c + 1)) dX9_beginTables_148 rfl (nI_1 c) (by decide) ?_
          refine xx_goto (tgt := 20) dX9_beginTables_151 (by decide) ?_
          refine xx_less [0, 1, 2, 3] ?_
          refine xx_clv (lv2 := [(0, .ref b), (1, .int (nI tt)), (2, .int (nI i)), (3, .int (nI (c + 1)))]) rfl ?_
          refine ih (c + 1) (by omega) D _ (by omega) (y2.set k2 k3) (fun c9 h9 => ?_) (fun q hq => (yy_un_n (by omega)).trans (y4 q hq)) (fun q a1 a2 a3 a4 a5 => (k3 q a1 a2 a3).trans (y5 q a1 a2 a3 a4 a5))
          by_cases e : c9 = c
          · rw [e, yy_un_s]
          · rw [yy_un_n (by omega)]; exact y3 c9 (by omega)
        · have j67 : ¬ m ≤ c := fun hq9 => j67 ((nI_leI (a := m) (b := c) (by omega) (by omega)).mpr hq9)
          refine xx_iconst (v := 1) dX9_beginTables_70 (by decide) ?_
          refine xx_goto (tgt := 91) dX9_beginTables_71 (by decide) ?_
          refine xx_istore dX9_beginTables_91 (by decide) ?_
          refine xx_clv (lv2 := [(0, .ref b), (1, .int (nI tt)), (2, .int (nI i)), (3, .int (nI c)), (4, .int 0), (5, .int 1)]) rfl ?_
          refine xx_aload_n dX9_beginTables_93 rfl ?_
          refine xx_aload_n dX9_beginTables_94 rfl ?_
          refine xx_iload_n dX9_beginTables_95 rfl ?_
          refine xx_iload_n dX9_beginTables_96 rfl ?_
          refine xx_iload_n dX9_beginTables_97 rfl ?_
          refine xx_callV (N := mX9_cell) (vs := [.int (nI tt), .int (nI i), .int (nI c)]) (b := b) (rest := [.ref b]) (d2 := 0) (c2 := 0) (s2 := 0) (c3 := 0) (s3 := 0) dX9_beginTables_98 wm_X9_151 wi_X9_cell wv_X9_cell (k := 9) rfl (by decide) hb2 nX9_cell ⟨pX9_cell, Nat.le_of_ble_eq_true rfl, by decide, Nat.le_of_ble_eq_true rfl, by decide, by decide⟩ (c_X9_cell (tt := tt) (r := i) (c := c) hb2 (by omega) (by omega) (by omega)) (fun v9 B9 hC => ?_) (fun E9 B9 hC => absurd hC.1 (by simp))
          obtain ⟨hv9, e9⟩ := hC
          cases hv9
          refine xx_cst (st2 := [.int (nI (yy_tb tt + 13 * i + c)), .ref b]) rfl ?_
          rw [e9]
          refine xx_iload dX9_beginTables_101 rfl ?_
          refine xx_if_eq (tgt := 110) dX9_beginTables_103 (by decide) (fun j103 => ?_) (fun h => absurd (by decide) h)
          refine xx_iload dX9_beginTables_110 rfl ?_
          refine xx_if_eq (tgt := 144) dX9_beginTables_112 (by decide) (fun h => absurd h (by decide)) (fun j112 => ?_)
          refine xx_iload_n dX9_beginTables_115 rfl ?_
          refine xx_if_ne (tgt := 129) dX9_beginTables_116 (by decide) (fun h => absurd (show nI tt = 0 by rw [j35]; rfl) h) (fun j116 => ?_)
          refine xx_aload_n dX9_beginTables_119 rfl ?_
          refine xx_iconst (v := 1) dX9_beginTables_120 (by decide) ?_
          refine xx_iload_n dX9_beginTables_121 rfl ?_
          refine xx_iload_n dX9_beginTables_122 rfl ?_
          have hin : i < n := by unfold yy_rw at hi; rw [if_pos j35] at hi; exact hi
          refine xx_cst (st2 := [.int (nI i), .int (nI c), .int (nI 1), .ref b, .int (nI (yy_tb tt + 13 * i + c)), .ref b]) rfl ?_
          refine xx_callV (N := mX9_entry) (vs := [.int (nI 1), .int (nI c), .int (nI i)]) (b := b) (rest := [.int (nI (yy_tb tt + 13 * i + c)), .ref b]) (d2 := 0) (c2 := 0) (s2 := 0) (c3 := 0) (s3 := 0) dX9_beginTables_123 wm_X9_155 wi_X9_entry wv_X9_entry (k := 9) rfl (by decide) hb2 nX9_entry ⟨pX9_entry, Nat.le_of_ble_eq_true rfl, by decide, Nat.le_of_ble_eq_true rfl, by decide, by decide⟩ (c_X9_entry (p := 1) (i := c) (j := i) hb2 hP2 (by decide) (by omega) hin hm hn) (fun v9 B9 hC => ?_) (fun E9 B9 hC => absurd hC.1 (by simp))
          obtain ⟨hv9, e9⟩ := hC
          cases hv9
          refine xx_cst (st2 := [.long (lz (1 + W 1 c i - le 1)), .int (nI (yy_tb tt + 13 * i + c)), .ref b]) rfl ?_
          rw [e9]
          refine xx_goto (tgt := 145) dX9_beginTables_126 (by decide) ?_
          refine xx_eql (y := lz (yg_a m n W le tt c i)) (by unfold yg_a; rw [if_neg (by omega), if_pos j35, if_pos (by omega)]) ?_
          refine xx_callV (N := mX9_set) (vs := [.int (nI (yy_tb tt + 13 * i + c)), .long (lz (yg_a m n W le tt c i))]) (b := b) (rest := []) (d2 := 0) (c2 := 0) (s2 := 0) (c3 := 0) (s3 := 0) dX9_beginTables_145 wm_X9_80 wi_X9_set wv_X9_set (k := 9) rfl (by decide) hb2 nX9_set ⟨pX9_set, Nat.le_of_ble_eq_true rfl, by decide, Nat.le_of_ble_eq_true rfl, by decide, by decide⟩ (c_X9_set (a := yy_tb tt + 13 * i + c) (v := yg_a m n W le tt c i) hb2 y2.1 (by omega) (by omega) (by omega)) (fun v9 D hC => ?_) (fun E9 B9 hC => absurd hC.1 (by simp))
          obtain ⟨hv8, k1, k2, k3⟩ := hC
          cases hv8
          refine xx_cst (st2 := []) rfl ?_
          refine xx_iinc (v := nI (c + 1)) dX9_beginTables_148 rfl (nI_1 c) (by decide) ?_
          refine xx_goto (tgt := 20) dX9_beginTables_151 (by decide) ?_
          refine xx_less [0, 1, 2, 3] ?_
          refine xx_clv (lv2 := [(0, .ref b), (1, .int (nI tt)), (2, .int (nI i)), (3, .int (nI (c + 1)))]) rfl ?_
          refine ih (c + 1) (by omega) D _ (by omega) (y2.set k2 k3) (fun c9 h9 => ?_) (fun q hq => (yy_un_n (by omega)).trans (y4 q hq)) (fun q a1 a2 a3 a4 a5 => (k3 q a1 a2 a3).trans (y5 q a1 a2 a3 a4 a5))
          by_cases e : c9 = c
          · rw [e, yy_un_s]
          · rw [yy_un_n (by omega)]; exact y3 c9 (by omega)
      · have j48 : c = m + i := (nI_eq (a := c) (b := m + i) (by omega) (by omega)).mp j48
        refine xx_iconst (v := 1) dX9_beginTables_51 (by decide) ?_
        refine xx_goto (tgt := 56) dX9_beginTables_52 (by decide) ?_
        refine xx_istore dX9_beginTables_56 (by decide) ?_
        refine xx_clv (lv2 := [(0, .ref b), (1, .int (nI tt)), (2, .int (nI i)), (3, .int (nI c)), (4, .int 1)]) rfl ?_
        refine xx_iload_n dX9_beginTables_58 rfl ?_
        refine xx_if_ne (tgt := 78) dX9_beginTables_59 (by decide) (fun h => absurd (show nI tt = 0 by rw [j35]; rfl) h) (fun j59 => ?_)
        refine xx_iload_n dX9_beginTables_62 rfl ?_
        refine xx_aload_n dX9_beginTables_63 rfl ?_
        refine xx_get xx_c9 dX9_beginTables_64 wf_X9_120 (j := 4) (by decide) hb2 rfl ?_
        refine xx_icmp_ge (tgt := 74) dX9_beginTables_67 (by decide) (fun j67 => ?_) (fun j67 => ?_)
        · have j67 : m ≤ c := (nI_leI (a := m) (b := c) (by omega) (by omega)).mp j67
          refine xx_iconst (v := 0) dX9_beginTables_74 (by decide) ?_
          refine xx_goto (tgt := 91) dX9_beginTables_75 (by decide) ?_
          refine xx_istore dX9_beginTables_91 (by decide) ?_
          refine xx_clv (lv2 := [(0, .ref b), (1, .int (nI tt)), (2, .int (nI i)), (3, .int (nI c)), (4, .int 1), (5, .int 0)]) rfl ?_
          refine xx_aload_n dX9_beginTables_93 rfl ?_
          refine xx_aload_n dX9_beginTables_94 rfl ?_
          refine xx_iload_n dX9_beginTables_95 rfl ?_
          refine xx_iload_n dX9_beginTables_96 rfl ?_
          refine xx_iload_n dX9_beginTables_97 rfl ?_
          refine xx_callV (N := mX9_cell) (vs := [.int (nI tt), .int (nI i), .int (nI c)]) (b := b) (rest := [.ref b]) (d2 := 0) (c2 := 0) (s2 := 0) (c3 := 0) (s3 := 0) dX9_beginTables_98 wm_X9_151 wi_X9_cell wv_X9_cell (k := 9) rfl (by decide) hb2 nX9_cell ⟨pX9_cell, Nat.le_of_ble_eq_true rfl, by decide, Nat.le_of_ble_eq_true rfl, by decide, by decide⟩ (c_X9_cell (tt := tt) (r := i) (c := c) hb2 (by omega) (by omega) (by omega)) (fun v9 B9 hC => ?_) (fun E9 B9 hC => absurd hC.1 (by simp))
          obtain ⟨hv9, e9⟩ := hC
          cases hv9
          refine xx_cst (st2 := [.int (nI (yy_tb tt + 13 * i + c)), .ref b]) rfl ?_
          rw [e9]
          refine xx_iload dX9_beginTables_101 rfl ?_
          refine xx_if_eq (tgt := 110) dX9_beginTables_103 (by decide) (fun h => absurd h (by decide)) (fun j103 => ?_)
          refine xx_lconst (v := 1) dX9_beginTables_106 (by decide) ?_
          refine xx_goto (tgt := 145) dX9_beginTables_107 (by decide) ?_
          refine xx_eql (y := lz (yg_a m n W le tt c i)) (by unfold yg_a; rw [if_neg (by omega), if_pos j35, if_neg (by omega)]; unfold yh_e; rw [if_pos (by omega)]; decide) ?_
          refine xx_callV (N := mX9_set) (vs := [.int (nI (yy_tb tt + 13 * i + c)), .long (lz (yg_a m n W le tt c i))]) (b := b) (rest := []) (d2 := 0) (c2 := 0) (s2 := 0) (c3 := 0) (s3 := 0) dX9_beginTables_145 wm_X9_80 wi_X9_set wv_X9_set (k := 9) rfl (by decide) hb2 nX9_set ⟨pX9_set, Nat.le_of_ble_eq_true rfl, by decide, Nat.le_of_ble_eq_true rfl, by decide, by decide⟩ (c_X9_set (a := yy_tb tt + 13 * i + c) (v := yg_a m n W le tt c i) hb2 y2.1 (by omega) (by omega) (by omega)) (fun v9 D hC => ?_) (fun E9 B9 hC => absurd hC.1 (by simp))
          obtain ⟨hv8, k1, k2, k3⟩ := hC
          cases hv8
          refine xx_cst (st2 := []) rfl ?_
          refine xx_iinc (v := nI (c + 1)) dX9_beginTables_148 rfl (nI_1 c) (by decide) ?_
          refine xx_goto (tgt := 20) dX9_beginTables_151 (by decide) ?_
          refine xx_less [0, 1, 2, 3] ?_
          refine xx_clv (lv2 := [(0, .ref b), (1, .int (nI tt)), (2, .int (nI i)), (3, .int (nI (c + 1)))]) rfl ?_
          refine ih (c + 1) (by omega) D _ (by omega) (y2.set k2 k3) (fun c9 h9 => ?_) (fun q hq => (yy_un_n (by omega)).trans (y4 q hq)) (fun q a1 a2 a3 a4 a5 => (k3 q a1 a2 a3).trans (y5 q a1 a2 a3 a4 a5))
          by_cases e : c9 = c
          · rw [e, yy_un_s]
          · rw [yy_un_n (by omega)]; exact y3 c9 (by omega)
        · have j67 : ¬ m ≤ c := fun hq9 => j67 ((nI_leI (a := m) (b := c) (by omega) (by omega)).mpr hq9)
          refine xx_iconst (v := 1) dX9_beginTables_70 (by decide) ?_
          refine xx_goto (tgt := 91) dX9_beginTables_71 (by decide) ?_
          refine xx_istore dX9_beginTables_91 (by decide) ?_
          refine xx_clv (lv2 := [(0, .ref b), (1, .int (nI tt)), (2, .int (nI i)), (3, .int (nI c)), (4, .int 1), (5, .int 1)]) rfl ?_
          refine xx_aload_n dX9_beginTables_93 rfl ?_
          refine xx_aload_n dX9_beginTables_94 rfl ?_
          refine xx_iload_n dX9_beginTables_95 rfl ?_
          refine xx_iload_n dX9_beginTables_96 rfl ?_
          refine xx_iload_n dX9_beginTables_97 rfl ?_
          refine xx_callV (N := mX9_cell) (vs := [.int (nI tt), .int (nI i), .int (nI c)]) (b := b) (rest := [.ref b]) (d2 := 0) (c2 := 0) (s2 := 0) (c3 := 0) (s3 := 0) dX9_beginTables_98 wm_X9_151 wi_X9_cell wv_X9_cell (k := 9) rfl (by decide) hb2 nX9_cell ⟨pX9_cell, Nat.le_of_ble_eq_true rfl, by decide, Nat.le_of_ble_eq_true rfl, by decide, by decide⟩ (c_X9_cell (tt := tt) (r := i) (c := c) hb2 (by omega) (by omega) (by omega)) (fun v9 B9 hC => ?_) (fun E9 B9 hC => absurd hC.1 (by simp))
          obtain ⟨hv9, e9⟩ := hC
          cases hv9
          refine xx_cst (st2 := [.int (nI (yy_tb tt + 13 * i + c)), .ref b]) rfl ?_
          rw [e9]
          refine xx_iload dX9_beginTables_101 rfl ?_
          refine xx_if_eq (tgt := 110) dX9_beginTables_103 (by decide) (fun h => absurd h (by decide)) (fun j103 => ?_)
          refine xx_lconst (v := 1) dX9_beginTables_106 (by decide) ?_
          refine xx_goto (tgt := 145) dX9_beginTables_107 (by decide) ?_
          exfalso; omega
set_option maxRecDepth 100000 in
theorem l_X9_br {G : xx_G} {l : Launch} {A : xx_H} {b : Nat} {th hr st hl en tu : Value} {m n : Nat} {tt : Nat} {W : Nat → Nat → Nat → Int} {le : Nat → Int} {mu : Nat → Nat} {N : Nat → Int} {fb0 : Nat → Int32} {Q : Option Value ⊕ String → xx_H → Prop} (hb : A.2 b = xx_o 9 (xx_mf b th (.int (nI m)) (.int (nI n)) hr st hl en tu)) (hP : xx_rp A b m n W le mu) (hm : m ≤ 6) (hn : n ≤ 6) (ht : tt < 2) (k : ∀ (B : xx_H) (N2 : Nat → Int) (fb : Nat → Int32), B.1 = A.1 → xx_rw B b N2 → B.2 (b + 12) = xx_i 12 fb → (∀ r, r < yy_rw m n tt → ∀ w9, w9 ≤ m + n → N2 (yy_tb tt + 13 * r + w9) = yg_a m n W le tt w9 r) → (∀ r, r < yy_rw m n tt → fb (6 * tt + r) = nI (yq_fl m tt + r)) → (∀ q, (q < yy_tb tt ∨ yy_tb tt + 78 ≤ q) → N2 q = N q) → (∀ q, (q < 6 * tt ∨ 6 * tt + 6 ≤ q) → fb q = fb0 q) → (∀ q, q ≠ b + 1 → q ≠ b + 2 → q ≠ b + 3 → q ≠ b + 12 → q ≠ b + 17 → q ≠ b + 18 → B.2 q = A.2 q) → xx_X G l mX9_beginTables 1 0 0 205 [(0, .ref b), (1, .int (nI tt))] [] B Q) :
    ∀ (v i : Nat), i + v = yy_rw m n tt → ∀ (B : xx_H) (N2 : Nat → Int) (fb : Nat → Int32), B.1 = A.1 → xx_rw B b N2 → B.2 (b + 12) = xx_i 12 fb → (∀ r, r < i → ∀ w9, w9 ≤ m + n → N2 (yy_tb tt + 13 * r + w9) = yg_a m n W le tt w9 r) → (∀ r, r < i → fb (6 * tt + r) = nI (yq_fl m tt + r)) → (∀ q, (q < yy_tb tt ∨ yy_tb tt + 78 ≤ q) → N2 q = N q) → (∀ q, (q < 6 * tt ∨ 6 * tt + 6 ≤ q) → fb q = fb0 q) → (∀ q, q ≠ b + 1 → q ≠ b + 2 → q ≠ b + 3 → q ≠ b + 12 → q ≠ b + 17 → q ≠ b + 18 → B.2 q = A.2 q) → xx_X G l mX9_beginTables 1 0 0 9 [(0, .ref b), (1, .int (nI tt)), (2, .int (nI i))] [] B Q := by
  intro v
  have r6 : yy_rw m n tt ≤ 6 := by unfold yy_rw; split <;> omega
  induction v with
  | zero =>
    intro i hi B N2 fb y1 y2 yb y3 y4 y5 y6 y7
    have hi : i = yy_rw m n tt := by omega
    have hb2 := (y7 b (by omega) (by omega) (by omega) (by omega) (by omega) (by omega)).trans hb
    refine xx_iload_n dX9_beginTables_9 rfl ?_
    refine xx_aload_n dX9_beginTables_10 rfl ?_
    refine xx_iload_n dX9_beginTables_11 rfl ?_
    refine xx_callV (N := mX9_rowsOf) (vs := [.int (nI tt)]) (b := b) (rest := [.int (nI i)]) (d2 := 0) (c2 := 0) (s2 := 0) (c3 := 0) (s3 := 0) dX9_beginTables_12 wm_X9_147 wi_X9_rowsOf wv_X9_rowsOf (k := 9) rfl (by decide) hb2 nX9_rowsOf ⟨pX9_rowsOf, Nat.le_of_ble_eq_true rfl, by decide, Nat.le_of_ble_eq_true rfl, by decide, by decide⟩ (c_X9_rowsOf (tt := tt) hb2 ht) (fun v9 B9 hC => ?_) (fun E9 B9 hC => absurd hC.1 (by simp))
    obtain ⟨hv9, e9⟩ := hC
    cases hv9
    refine xx_cst (st2 := [.int (nI (yy_rw m n tt)), .int (nI i)]) rfl ?_
    rw [e9]
    refine xx_icmp_ge (tgt := 205) dX9_beginTables_15 (by decide) (fun j15 => ?_) (fun h => absurd (by rw [hi]; exact Int32.le_refl _) h)
    refine xx_less [0, 1] ?_
    refine xx_clv (lv2 := [(0, .ref b), (1, .int (nI tt))]) rfl ?_
    subst hi
    exact k B N2 fb y1 y2 yb y3 y4 y5 y6 y7
  | succ v ih =>
    intro i hi B N2 fb y1 y2 yb y3 y4 y5 y6 y7
    have hb2 := (y7 b (by omega) (by omega) (by omega) (by omega) (by omega) (by omega)).trans hb
    have tb := yy_tb_b tt
    have hP2 := hP.to (y7 (b + 14) (by omega) (by omega) (by omega) (by omega) (by omega) (by omega)) (y7 (b + 15) (by omega) (by omega) (by omega) (by omega) (by omega) (by omega)) (y7 (b + 16) (by omega) (by omega) (by omega) (by omega) (by omega) (by omega))
    refine xx_iload_n dX9_beginTables_9 rfl ?_
    refine xx_aload_n dX9_beginTables_10 rfl ?_
    refine xx_iload_n dX9_beginTables_11 rfl ?_
    refine xx_callV (N := mX9_rowsOf) (vs := [.int (nI tt)]) (b := b) (rest := [.int (nI i)]) (d2 := 0) (c2 := 0) (s2 := 0) (c3 := 0) (s3 := 0) dX9_beginTables_12 wm_X9_147 wi_X9_rowsOf wv_X9_rowsOf (k := 9) rfl (by decide) hb2 nX9_rowsOf ⟨pX9_rowsOf, Nat.le_of_ble_eq_true rfl, by decide, Nat.le_of_ble_eq_true rfl, by decide, by decide⟩ (c_X9_rowsOf (tt := tt) hb2 ht) (fun v9 B9 hC => ?_) (fun E9 B9 hC => absurd hC.1 (by simp))
    obtain ⟨hv9, e9⟩ := hC
    cases hv9
    refine xx_cst (st2 := [.int (nI (yy_rw m n tt)), .int (nI i)]) rfl ?_
    rw [e9]
    refine xx_icmp_ge (tgt := 205) dX9_beginTables_15 (by decide) (fun h => absurd h (nI_ge (by omega) (by omega))) (fun j15 => ?_)
    refine xx_iconst (v := 0) dX9_beginTables_18 (by decide) ?_
    refine xx_istore_n dX9_beginTables_19 (by decide) ?_
    refine xx_clv (lv2 := [(0, .ref b), (1, .int (nI tt)), (2, .int (nI i)), (3, .int 0)]) rfl ?_
    refine xx_clv (lv2 := [(0, .ref b), (1, .int (nI tt)), (2, .int (nI i)), (3, .int (nI 0))]) rfl ?_
    refine l_X9_bi (A := B) (N := N2) hb2 hP2 hm hn ht (show i < yy_rw m n tt by omega) (fun D N3 z1 z2 z3 z4 z5 => ?_) (m + n) 0 (by omega) B N2 rfl y2 (fun w9 h9 => absurd h9 (Nat.not_lt_zero w9)) (fun _ _ => rfl) (fun q _ _ _ _ _ => rfl)
    have hb3 := (z5 b (by omega) (by omega) (by omega) (by omega) (by omega)).trans hb2
    have yb3 := (z5 (b + 12) (by omega) (by omega) (by omega) (by omega) (by omega)).trans yb
    refine xx_aload_n dX9_beginTables_154 rfl ?_
    refine xx_aload_n dX9_beginTables_155 rfl ?_
    refine xx_iload_n dX9_beginTables_156 rfl ?_
    refine xx_iload_n dX9_beginTables_157 rfl ?_
    refine xx_aload_n dX9_beginTables_158 rfl ?_
    refine xx_get xx_c9 dX9_beginTables_159 wf_X9_120 (j := 4) (by decide) hb3 rfl ?_
    refine xx_aload_n dX9_beginTables_162 rfl ?_
    refine xx_get xx_c9 dX9_beginTables_163 wf_X9_123 (j := 5) (by decide) hb3 rfl ?_
    refine xx_iadd dX9_beginTables_166 ?_
    refine xx_eqi (y := nI (m + n)) (nI_add m n) ?_
    refine xx_callV (N := mX9_cell) (vs := [.int (nI tt), .int (nI i), .int (nI (m + n))]) (b := b) (rest := [.ref b]) (d2 := 0) (c2 := 0) (s2 := 0) (c3 := 0) (s3 := 0) dX9_beginTables_167 wm_X9_151 wi_X9_cell wv_X9_cell (k := 9) rfl (by decide) hb3 nX9_cell ⟨pX9_cell, Nat.le_of_ble_eq_true rfl, by decide, Nat.le_of_ble_eq_true rfl, by decide, by decide⟩ (c_X9_cell (tt := tt) (r := i) (c := m + n) hb3 (by omega) (by omega) (by omega)) (fun v9 B9 hC => ?_) (fun E9 B9 hC => absurd hC.1 (by simp))
    obtain ⟨hv9, e9⟩ := hC
    cases hv9
    refine xx_cst (st2 := [.int (nI (yy_tb tt + 13 * i + (m + n))), .ref b]) rfl ?_
    rw [e9]
    refine xx_lconst (v := 1) dX9_beginTables_170 (by decide) ?_
    refine xx_eql (y := lz 1) (by decide) ?_
    refine xx_callV (N := mX9_set) (vs := [.int (nI (yy_tb tt + 13 * i + (m + n))), .long (lz 1)]) (b := b) (rest := []) (d2 := 0) (c2 := 0) (s2 := 0) (c3 := 0) (s3 := 0) dX9_beginTables_171 wm_X9_80 wi_X9_set wv_X9_set (k := 9) rfl (by decide) hb3 nX9_set ⟨pX9_set, Nat.le_of_ble_eq_true rfl, by decide, Nat.le_of_ble_eq_true rfl, by decide, by decide⟩ (c_X9_set (a := yy_tb tt + 13 * i + (m + n)) (v := 1) hb3 z2.1 (by omega) (by decide) (by decide)) (fun v9 E hC => ?_) (fun E9 B9 hC => absurd hC.1 (by simp))
    obtain ⟨hv8, k1, k2, k3⟩ := hC
    cases hv8
    refine xx_cst (st2 := []) rfl ?_
    have hb4 := (k3 b (by omega) (by omega) (by omega)).trans hb3
    have yb4 := (k3 (b + 12) (by omega) (by omega) (by omega)).trans yb3
    refine xx_aload_n dX9_beginTables_174 rfl ?_
    refine xx_get xx_c9 dX9_beginTables_175 wf_X9_48 (j := 18) (by decide) hb4 rfl ?_
    refine xx_bipush (v := 6) dX9_beginTables_178 (by decide) ?_
    refine xx_iload_n dX9_beginTables_180 rfl ?_
    refine xx_imul dX9_beginTables_181 ?_
    refine xx_eqi (y := nI (6 * tt)) (pk_mul 6 tt) ?_
    refine xx_iload_n dX9_beginTables_182 rfl ?_
    refine xx_iadd dX9_beginTables_183 ?_
    refine xx_eqi (y := nI (6 * tt + i)) (nI_add (6 * tt) i) ?_
    refine xx_iload_n dX9_beginTables_184 rfl ?_
    refine xx_if_ne (tgt := 197) dX9_beginTables_185 (by decide) (fun j185 => ?_) (fun j185 => ?_)
    · have j185 : ¬ tt = 0 := fun hq9 => j185 ((nI_eq (a := tt) (b := 0) (by omega) (by omega)).mpr hq9)
      refine xx_iload_n dX9_beginTables_197 rfl ?_
      refine xx_eqi (y := nI (yq_fl m tt + i)) (by unfold yq_fl; rw [if_neg j185, Nat.zero_add]) ?_
      refine xx_iast dX9_beginTables_198 yb4 (vp_in_nI (by omega) (by decide)) (xx_gu fun F t1 t2 t3 => ?_)
      rw [nI_clamp (by omega)] at t2
      refine xx_iinc (v := nI (i + 1)) dX9_beginTables_199 rfl (nI_1 i) (by decide) ?_
      refine xx_goto (tgt := 9) dX9_beginTables_202 (by decide) ?_
      refine xx_clv (lv2 := [(0, .ref b), (1, .int (nI tt)), (2, .int (nI (i + 1)))]) rfl ?_
      refine ih (i + 1) (by omega) F _ _ (by omega) ((z2.set k2 k3).to (t3 _ (by omega)) (t3 _ (by omega)) (t3 _ (by omega)) (t3 _ (by omega)) (t3 _ (by omega))) t2 (fun r hr w9 h9 => ?_) (fun r hr => ?_) (fun q hq => ?_) (fun q hq => (pk_un (by omega)).trans (y6 q hq)) (fun q a1 a2 a3 a4 a5 a6 => (t3 q a4).trans ((k3 q a1 a2 a3).trans ((z5 q a1 a2 a3 a5 a6).trans (y7 q a1 a2 a3 a4 a5 a6))))
      · by_cases e : r = i
        · subst e
          by_cases e2 : w9 = m + n
          · rw [e2, yy_un_s]; unfold yg_a; rw [if_pos rfl]
          · rw [yy_un_n (by omega)]; exact z3 w9 (by omega)
        · rw [yy_un_n (by omega), z4 _ (by omega)]; exact y3 r (by omega) w9 h9
      · by_cases e : r = i
        · subst e; rw [pk_us]
        · rw [pk_un (by omega)]; exact y4 r (by omega)
      · rw [yy_un_n (by omega), z4 _ (by omega)]; exact y5 q hq
    · have j185 : tt = 0 := (nI_eq (a := tt) (b := 0) (by omega) (by omega)).mp j185
      refine xx_aload_n dX9_beginTables_188 rfl ?_
      refine xx_get xx_c9 dX9_beginTables_189 wf_X9_120 (j := 4) (by decide) hb4 rfl ?_
      refine xx_iload_n dX9_beginTables_192 rfl ?_
      refine xx_iadd dX9_beginTables_193 ?_
      refine xx_eqi (y := nI (m + i)) (nI_add m i) ?_
      refine xx_goto (tgt := 198) dX9_beginTables_194 (by decide) ?_
      refine xx_eqi (y := nI (yq_fl m tt + i)) (by unfold yq_fl; rw [if_pos j185]) ?_
      refine xx_iast dX9_beginTables_198 yb4 (vp_in_nI (by omega) (by decide)) (xx_gu fun F t1 t2 t3 => ?_)
      rw [nI_clamp (by omega)] at t2
      refine xx_iinc (v := nI (i + 1)) dX9_beginTables_199 rfl (nI_1 i) (by decide) ?_
      refine xx_goto (tgt := 9) dX9_beginTables_202 (by decide) ?_
      refine xx_clv (lv2 := [(0, .ref b), (1, .int (nI tt)), (2, .int (nI (i + 1)))]) rfl ?_
      refine ih (i + 1) (by omega) F _ _ (by omega) ((z2.set k2 k3).to (t3 _ (by omega)) (t3 _ (by omega)) (t3 _ (by omega)) (t3 _ (by omega)) (t3 _ (by omega))) t2 (fun r hr w9 h9 => ?_) (fun r hr => ?_) (fun q hq => ?_) (fun q hq => (pk_un (by omega)).trans (y6 q hq)) (fun q a1 a2 a3 a4 a5 a6 => (t3 q a4).trans ((k3 q a1 a2 a3).trans ((z5 q a1 a2 a3 a5 a6).trans (y7 q a1 a2 a3 a4 a5 a6))))
      · by_cases e : r = i
        · subst e
          by_cases e2 : w9 = m + n
          · rw [e2, yy_un_s]; unfold yg_a; rw [if_pos rfl]
          · rw [yy_un_n (by omega)]; exact z3 w9 (by omega)
        · rw [yy_un_n (by omega), z4 _ (by omega)]; exact y3 r (by omega) w9 h9
      · by_cases e : r = i
        · subst e; rw [pk_us]
        · rw [pk_un (by omega)]; exact y4 r (by omega)
      · rw [yy_un_n (by omega), z4 _ (by omega)]; exact y5 q hq
set_option maxRecDepth 100000 in
theorem c_X9_beginTables {G : xx_G} {l : Launch} {A : xx_H} {b : Nat} {th hr st hl en tu : Value} {m n : Nat} {W : Nat → Nat → Nat → Int} {le : Nat → Int} {mu : Nat → Nat} {N : Nat → Int} {fb0 : Nat → Int32} (hb : A.2 b = xx_o 9 (xx_mf b th (.int (nI m)) (.int (nI n)) hr st hl en tu)) (hN : xx_rw A b N) (hP : xx_rp A b m n W le mu) (hm : m ≤ 6) (hn : n ≤ 6) (hbs : A.2 (b + 12) = xx_i 12 fb0) : xx_X G l mX9_beginTables 2 0 0 0 (lv_args 0 [.ref b]) [] A (fun z B => z = .inl none ∧ B.1 = A.1 ∧ (∃ N2 fb, xx_rw B b N2 ∧ B.2 (b + 12) = xx_i 12 fb ∧ (∀ tt, tt < 2 → yr_t N2 tt (yy_rw m n tt) (m + n) (fun k c => yg_a m n W le tt c k) 1 ∧ ∀ r, r < yy_rw m n tt → fb (6 * tt + r) = nI (yq_fl m tt + r)) ∧ ∀ q, (q < 26 ∨ 28 ≤ q) → (q < 40 ∨ 118 ≤ q) → (q < 140 ∨ 218 ≤ q) → N2 q = N q) ∧ (∀ q, q ≠ b + 1 → q ≠ b + 2 → q ≠ b + 3 → q ≠ b + 12 → q ≠ b + 17 → q ≠ b + 18 → B.2 q = A.2 q)) := by
  have r60 : yy_rw m n 0 ≤ 6 := by show n ≤ 6; exact hn
  have r61 : yy_rw m n 1 ≤ 6 := by show m ≤ 6; exact hm
  refine xx_room (d2 := 1) (c2 := 0) (s2 := 0) (by decide) (by decide) (by decide) ?_
  refine xx_clv (lv2 := [(0, .ref b)]) rfl ?_
  refine xx_iconst (v := 0) dX9_beginTables_0 (by decide) ?_
  refine xx_istore_n dX9_beginTables_1 (by decide) ?_
  refine xx_clv (lv2 := [(0, .ref b), (1, .int 0)]) rfl ?_
  refine xx_iload_n dX9_beginTables_2 rfl ?_
  refine xx_iconst (v := 2) dX9_beginTables_3 (by decide) ?_
  refine xx_icmp_ge (tgt := 211) dX9_beginTables_4 (by decide) (fun h => absurd h (by decide)) (fun j4 => ?_)
  refine xx_iconst (v := 0) dX9_beginTables_7 (by decide) ?_
  refine xx_istore_n dX9_beginTables_8 (by decide) ?_
  refine xx_clv (lv2 := [(0, .ref b), (1, .int 0), (2, .int 0)]) rfl ?_
  refine xx_clv (lv2 := [(0, .ref b), (1, .int (nI 0)), (2, .int (nI 0))]) rfl ?_
  refine l_X9_br (tt := 0) (N := N) (fb0 := fb0) hb hP hm hn (by decide) (fun B N2 fb y1 y2 yb y3 y4 y5 y6 y7 => ?_) (yy_rw m n 0) 0 (by omega) A N fb0 rfl hN hbs (fun r hr => absurd hr (Nat.not_lt_zero r)) (fun r hr => absurd hr (Nat.not_lt_zero r)) (fun _ _ => rfl) (fun _ _ => rfl) (fun q _ _ _ _ _ _ => rfl)
  have hb2 := (y7 b (by omega) (by omega) (by omega) (by omega) (by omega) (by omega)).trans hb
  have hP2 := hP.to (y7 (b + 14) (by omega) (by omega) (by omega) (by omega) (by omega) (by omega)) (y7 (b + 15) (by omega) (by omega) (by omega) (by omega) (by omega) (by omega)) (y7 (b + 16) (by omega) (by omega) (by omega) (by omega) (by omega) (by omega))
  refine xx_clv (lv2 := [(0, .ref b), (1, .int 0)]) rfl ?_
  refine xx_iinc (v := 1) dX9_beginTables_205 rfl (by decide) (by decide) ?_
  refine xx_clv (lv2 := [(0, .ref b), (1, .int 1)]) rfl ?_
  refine xx_goto (tgt := 2) dX9_beginTables_208 (by decide) ?_
  refine xx_iload_n dX9_beginTables_2 rfl ?_
  refine xx_iconst (v := 2) dX9_beginTables_3 (by decide) ?_
  refine xx_icmp_ge (tgt := 211) dX9_beginTables_4 (by decide) (fun h => absurd h (by decide)) (fun j4 => ?_)
  refine xx_iconst (v := 0) dX9_beginTables_7 (by decide) ?_
  refine xx_istore_n dX9_beginTables_8 (by decide) ?_
  refine xx_clv (lv2 := [(0, .ref b), (1, .int 1), (2, .int 0)]) rfl ?_
  refine xx_clv (lv2 := [(0, .ref b), (1, .int (nI 1)), (2, .int (nI 0))]) rfl ?_
  refine l_X9_br (A := B) (tt := 1) (N := N2) (fb0 := fb) hb2 hP2 hm hn (by decide) (fun D N3 fb3 z1 z2 zb z3 z4 z5 z6 z7 => ?_) (yy_rw m n 1) 0 (by omega) B N2 fb rfl y2 yb (fun r hr => absurd hr (Nat.not_lt_zero r)) (fun r hr => absurd hr (Nat.not_lt_zero r)) (fun _ _ => rfl) (fun _ _ => rfl) (fun q _ _ _ _ _ _ => rfl)
  have hb3 := (z7 b (by omega) (by omega) (by omega) (by omega) (by omega) (by omega)).trans hb2
  refine xx_clv (lv2 := [(0, .ref b), (1, .int 1)]) rfl ?_
  refine xx_iinc (v := 2) dX9_beginTables_205 rfl (by decide) (by decide) ?_
  refine xx_clv (lv2 := [(0, .ref b), (1, .int 2)]) rfl ?_
  refine xx_goto (tgt := 2) dX9_beginTables_208 (by decide) ?_
  refine xx_iload_n dX9_beginTables_2 rfl ?_
  refine xx_iconst (v := 2) dX9_beginTables_3 (by decide) ?_
  refine xx_icmp_ge (tgt := 211) dX9_beginTables_4 (by decide) (fun j4 => ?_) (fun h => absurd (by decide) h)
  refine xx_aload_n dX9_beginTables_211 rfl ?_
  refine xx_bipush (v := 26) dX9_beginTables_212 (by decide) ?_
  refine xx_lconst (v := 1) dX9_beginTables_214 (by decide) ?_
  refine xx_eql (y := lz 1) (by decide) ?_
  refine xx_cst (st2 := [.long (lz 1), .int (nI 26), .ref b]) rfl ?_
  refine xx_callV (N := mX9_set) (vs := [.int (nI 26), .long (lz 1)]) (b := b) (rest := []) (d2 := 0) (c2 := 0) (s2 := 0) (c3 := 0) (s3 := 0) dX9_beginTables_215 wm_X9_80 wi_X9_set wv_X9_set (k := 9) rfl (by decide) hb3 nX9_set ⟨pX9_set, Nat.le_of_ble_eq_true rfl, by decide, Nat.le_of_ble_eq_true rfl, by decide, by decide⟩ (c_X9_set (a := 26) (v := 1) hb3 z2.1 (by decide) (by decide) (by decide)) (fun v9 E hC => ?_) (fun E9 B9 hC => absurd hC.1 (by simp))
  obtain ⟨hv8, k1, k2, k3⟩ := hC
  cases hv8
  refine xx_cst (st2 := []) rfl ?_
  have hb4 := (k3 b (by omega) (by omega) (by omega)).trans hb3
  have w4 := z2.set k2 k3
  refine xx_aload_n dX9_beginTables_218 rfl ?_
  refine xx_bipush (v := 27) dX9_beginTables_219 (by decide) ?_
  refine xx_lconst (v := 1) dX9_beginTables_221 (by decide) ?_
  refine xx_eql (y := lz 1) (by decide) ?_
  refine xx_cst (st2 := [.long (lz 1), .int (nI 27), .ref b]) rfl ?_
  refine xx_callV (N := mX9_set) (vs := [.int (nI 27), .long (lz 1)]) (b := b) (rest := []) (d2 := 0) (c2 := 0) (s2 := 0) (c3 := 0) (s3 := 0) dX9_beginTables_222 wm_X9_80 wi_X9_set wv_X9_set (k := 9) rfl (by decide) hb4 nX9_set ⟨pX9_set, Nat.le_of_ble_eq_true rfl, by decide, Nat.le_of_ble_eq_true rfl, by decide, by decide⟩ (c_X9_set (a := 27) (v := 1) hb4 k2 (by decide) (by decide) (by decide)) (fun v9 F hC => ?_) (fun E9 B9 hC => absurd hC.1 (by simp))
  obtain ⟨hv7, m1, m2, m3⟩ := hC
  cases hv7
  refine xx_cst (st2 := []) rfl ?_
  have w5 := w4.set m2 m3
  have t0 : yy_tb 0 = 40 := rfl
  have t1 : yy_tb 1 = 140 := rfl
  rw [t0] at y3 y5
  rw [t1] at z3 z5
  refine xx_vret dX9_beginTables_225 rfl ⟨rfl, by omega, ⟨_, fb3, w5, (m3 _ (by omega) (by omega) (by omega)).trans ((k3 _ (by omega) (by omega) (by omega)).trans zb), fun tt ht => ?_, fun q a1 a2 a3 => ?_⟩, fun q a1 a2 a3 a4 a5 a6 => (m3 q a1 a2 a3).trans ((k3 q a1 a2 a3).trans ((z7 q a1 a2 a3 a4 a5 a6).trans (y7 q a1 a2 a3 a4 a5 a6)))⟩
  · by_cases e : tt = 0
    · subst e
      refine ⟨⟨fun r hr c hc => ?_, ?_⟩, fun r hr => ?_⟩
      · rw [t0, yy_un_n (by omega), yy_un_n (by omega), z5 _ (by omega)]; exact y3 r hr c hc
      · rw [yy_un_n (by decide), yy_un_s]
      · rw [z6 _ (by omega)]; exact y4 r hr
    · have e : tt = 1 := by omega
      subst e
      refine ⟨⟨fun r hr c hc => ?_, yy_un_s⟩, fun r hr => z4 r hr⟩
      rw [t1, yy_un_n (by omega), yy_un_n (by omega)]; exact z3 r hr c hc
  · rw [yy_un_n (by omega), yy_un_n (by omega), z5 _ (by omega)]; exact y5 q (by omega)
