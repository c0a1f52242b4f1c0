/-! ===== the reference's tables: cell, rowsOf, isBefore ===== -/
def yy_tb (tt : Nat) : Nat := if tt = 0 then 40 else 140
theorem yy_tb_b (tt : Nat) : 40 ≤ yy_tb tt ∧ yy_tb tt ≤ 140 := by unfold yy_tb; split <;> omega
def yy_rw (m n tt : Nat) : Nat := if tt = 0 then n else m
/-- the registers hold the full table -/
def yr_t (N : Nat → Int) (tt R mn : Nat) (T : Nat → Nat → Int) (den : Int) : Prop := (∀ k, k < R → ∀ c, c ≤ mn → N (yy_tb tt + 13 * k + c) = T k c) ∧ N (26 + tt) = den
theorem yy_nm1 {v : Nat} (h : v < 2 ^ 31) : ¬ nI v ≤ (-1 : Int32) := by
  rw [Int32.le_iff_toInt_le, nI_toInt h]
  have : (-1 : Int32).toInt = -1 := by decide
  omega
theorem yy_b20 {v : Int} (h : v.natAbs < 2 ^ 200) : v.natAbs < 65536 ^ 20 ∧ v.natAbs < 65536 ^ 19 := ⟨Nat.lt_of_lt_of_le h (by decide +kernel), Nat.lt_of_lt_of_le h (by decide +kernel)⟩
set_option maxRecDepth 100000 in
theorem c_X9_cell {G : xx_G} {l : Launch} {A : xx_H} {b : Nat} {th hr st hl en tu : Value} {m n : Nat} {tt r c : Nat} (hb : A.2 b = xx_o 9 (xx_mf b th (.int (nI m)) (.int (nI n)) hr st hl en tu)) (ht : tt < 2) (hr : r < 6) (hc : c < 13) : xx_X G l mX9_cell 0 0 0 0 (lv_args 0 [.ref b, .int (nI tt), .int (nI r), .int (nI c)]) [] A (fun z B => z = .inl (some (.int (nI (yy_tb tt + 13 * r + c)))) ∧ B = A) := by
  refine xx_clv (lv2 := [(0, .ref b), (1, .int (nI tt)), (2, .int (nI r)), (3, .int (nI c))]) rfl ?_
  refine xx_iload_n dX9_cell_0 rfl ?_
  refine xx_if_ne (tgt := 9) dX9_cell_1 (by decide) (fun j1 => ?_) (fun j1 => ?_)
  · have j1 : ¬ tt = 0 := fun hq9 => j1 ((nI_eq (a := tt) (b := 0) (by omega) (by omega)).mpr hq9)
    refine xx_sipush (v := 140) dX9_cell_9 (by decide) ?_
    refine xx_bipush (v := 13) dX9_cell_12 (by decide) ?_
    refine xx_iload_n dX9_cell_14 rfl ?_
    refine xx_imul dX9_cell_15 ?_
    refine xx_eqi (y := nI (13 * r)) (pk_mul 13 r) ?_
    refine xx_iadd dX9_cell_16 ?_
    refine xx_eqi (y := nI (140 + (13 * r))) (nI_add 140 (13 * r)) ?_
    refine xx_iload_n dX9_cell_17 rfl ?_
    refine xx_iadd dX9_cell_18 ?_
    refine xx_eqi (y := nI (140 + (13 * r) + c)) (nI_add (140 + (13 * r)) c) ?_
    exact xx_iret dX9_cell_19 rfl ⟨by unfold yy_tb; rw [if_neg j1], rfl⟩
  · have j1 : tt = 0 := (nI_eq (a := tt) (b := 0) (by omega) (by omega)).mp j1
    refine xx_bipush (v := 40) dX9_cell_4 (by decide) ?_
    refine xx_goto (tgt := 12) dX9_cell_6 (by decide) ?_
    refine xx_bipush (v := 13) dX9_cell_12 (by decide) ?_
    refine xx_iload_n dX9_cell_14 rfl ?_
    refine xx_imul dX9_cell_15 ?_
    refine xx_eqi (y := nI (13 * r)) (pk_mul 13 r) ?_
    refine xx_iadd dX9_cell_16 ?_
    refine xx_eqi (y := nI (40 + (13 * r))) (nI_add 40 (13 * r)) ?_
    refine xx_iload_n dX9_cell_17 rfl ?_
    refine xx_iadd dX9_cell_18 ?_
    refine xx_eqi (y := nI (40 + (13 * r) + c)) (nI_add (40 + (13 * r)) c) ?_
    exact xx_iret dX9_cell_19 rfl ⟨by unfold yy_tb; rw [if_pos j1], rfl⟩
set_option maxRecDepth 100000 in
theorem c_X9_rowsOf {G : xx_G} {l : Launch} {A : xx_H} {b : Nat} {th hr st hl en tu : Value} {m n : Nat} {tt : Nat} (hb : A.2 b = xx_o 9 (xx_mf b th (.int (nI m)) (.int (nI n)) hr st hl en tu)) (ht : tt < 2) : xx_X G l mX9_rowsOf 0 0 0 0 (lv_args 0 [.ref b, .int (nI tt)]) [] A (fun z B => z = .inl (some (.int (nI (yy_rw m n tt)))) ∧ B = A) := by
  refine xx_clv (lv2 := [(0, .ref b), (1, .int (nI tt))]) rfl ?_
  refine xx_iload_n dX9_rowsOf_0 rfl ?_
  refine xx_if_ne (tgt := 11) dX9_rowsOf_1 (by decide) (fun j1 => ?_) (fun j1 => ?_)
  · have j1 : ¬ tt = 0 := fun hq9 => j1 ((nI_eq (a := tt) (b := 0) (by omega) (by omega)).mpr hq9)
    refine xx_aload_n dX9_rowsOf_11 rfl ?_
    refine xx_get xx_c9 dX9_rowsOf_12 wf_X9_120 (j := 4) (by decide) hb rfl ?_
    exact xx_iret dX9_rowsOf_15 rfl ⟨by unfold yy_rw; rw [if_neg j1], rfl⟩
  · have j1 : tt = 0 := (nI_eq (a := tt) (b := 0) (by omega) (by omega)).mp j1
    refine xx_aload_n dX9_rowsOf_4 rfl ?_
    refine xx_get xx_c9 dX9_rowsOf_5 wf_X9_123 (j := 5) (by decide) hb rfl ?_
    refine xx_goto (tgt := 15) dX9_rowsOf_8 (by decide) ?_
    exact xx_iret dX9_rowsOf_15 rfl ⟨by unfold yy_rw; rw [if_pos j1], rfl⟩
set_option maxRecDepth 100000 in
theorem l_X9_ib {G : xx_G} {l : Launch} {A : xx_H} {b : Nat} {th hr st hl en tu : Value} {m n : Nat} {tt p q e fs R mn : Nat} {T : Nat → Nat → Int} {den : Int} {N : Nat → Int} {c : Nat} {v6 : Int32} {Q : Option Value ⊕ String → xx_H → Prop} (hb : A.2 b = xx_o 9 (xx_mf b th (.int (nI m)) (.int (nI n)) hr st hl en tu)) (hN : xx_rw A b N) (ht : tt < 2) (hp : p < R) (hq : q < R) (hR : R ≤ 6) (hmn : mn ≤ 12) (he : e ≤ mn) (hT : yr_t N tt R mn T den) (hB : ∀ k, k < R → ∀ c, c ≤ mn → (T k c).natAbs < 2 ^ 200) (hc : c ≤ mn) (k : ∀ (B : xx_H) (N2 : Nat → Int), B.1 = A.1 → xx_rw B b N2 → (∀ r, 2 ≤ r → N2 r = N r) → (∀ q, q ≠ b + 1 → q ≠ b + 2 → q ≠ b + 3 → q ≠ b + 17 → q ≠ b + 18 → B.2 q = A.2 q) → xx_X G l mX9_isBefore 2 0 0 101 [(0, .ref b), (1, .int (nI tt)), (2, .int (nI p)), (3, .int (nI q)), (4, .int (nI e)), (5, .int (nI fs)), (6, .int v6), (8, .int (yo_o T p q e c))] [] B Q) : xx_X G l mX9_isBefore 2 0 0 51 [(0, .ref b), (1, .int (nI tt)), (2, .int (nI p)), (3, .int (nI q)), (4, .int (nI e)), (5, .int (nI fs)), (6, .int v6), (7, .int (nI c))] [] A Q := by
  have tb := yy_tb_b tt
  have g : ∀ k c, k < R → c ≤ mn → N (yy_tb tt + 13 * k + c) = T k c := fun k c a b => hT.1 k a c b
  refine xx_aload_n dX9_isBefore_51 rfl ?_
  refine xx_aload_n dX9_isBefore_52 rfl ?_
  refine xx_iload_n dX9_isBefore_53 rfl ?_
  refine xx_iload_n dX9_isBefore_54 rfl ?_
  refine xx_iload dX9_isBefore_55 rfl ?_
  refine xx_callV (N := mX9_cell) (vs := [.int (nI tt), .int (nI p), .int (nI c)]) (b := b) (rest := [.ref b]) (d2 := 0) (c2 := 0) (s2 := 0) (c3 := 0) (s3 := 0) dX9_isBefore_57 wm_X9_151 wi_X9_cell wv_X9_cell (k := 9) rfl (by decide) hb nX9_cell ⟨pX9_cell, Nat.le_of_ble_eq_true rfl, by decide, Nat.le_of_ble_eq_true rfl, by decide, by decide⟩ (c_X9_cell (tt := tt) (r := p) (c := c) hb (by omega) (by omega) (by omega)) (fun v9 B9 hC => ?_) (fun E9 B9 hC => absurd hC.1 (by simp))
  obtain ⟨hv9, e9⟩ := hC
  cases hv9
  refine xx_cst (st2 := [.int (nI (yy_tb tt + 13 * p + c)), .ref b]) rfl ?_
  rw [e9]
  refine xx_aload_n dX9_isBefore_60 rfl ?_
  refine xx_iload_n dX9_isBefore_61 rfl ?_
  refine xx_iload_n dX9_isBefore_62 rfl ?_
  refine xx_iload dX9_isBefore_63 rfl ?_
  refine xx_callV (N := mX9_cell) (vs := [.int (nI tt), .int (nI q), .int (nI e)]) (b := b) (rest := [.int (nI (yy_tb tt + 13 * p + c)), .ref b]) (d2 := 0) (c2 := 0) (s2 := 0) (c3 := 0) (s3 := 0) dX9_isBefore_65 wm_X9_151 wi_X9_cell wv_X9_cell (k := 9) rfl (by decide) hb nX9_cell ⟨pX9_cell, Nat.le_of_ble_eq_true rfl, by decide, Nat.le_of_ble_eq_true rfl, by decide, by decide⟩ (c_X9_cell (tt := tt) (r := q) (c := e) hb (by omega) (by omega) (by omega)) (fun v9 B9 hC => ?_) (fun E9 B9 hC => absurd hC.1 (by simp))
  obtain ⟨hv9, e9⟩ := hC
  cases hv9
  refine xx_cst (st2 := [.int (nI (yy_tb tt + 13 * q + e)), .int (nI (yy_tb tt + 13 * p + c)), .ref b]) rfl ?_
  rw [e9]
  refine xx_iconst (v := 0) dX9_isBefore_68 (by decide) ?_
  refine xx_cst (st2 := [.int (nI 0), .int (nI (yy_tb tt + 13 * q + e)), .int (nI (yy_tb tt + 13 * p + c)), .ref b]) rfl ?_
  have c1 := c_X9_times (G := G) (l := l) (x := yy_tb tt + 13 * p + c) (y := yy_tb tt + 13 * q + e) (c := 0) hb hN.1 (by omega) (by omega) (by decide) (by omega) (by omega) ⟨20, 20, rfl, by rw [g p c hp hc]; exact (yy_b20 (hB p hp c hc)).1, by rw [g q e hq he]; exact (yy_b20 (hB q hq e he)).1⟩
  rw [g p c hp hc, g q e hq he] at c1
  refine xx_callV (N := mX9_times) (vs := [.int (nI (yy_tb tt + 13 * p + c)), .int (nI (yy_tb tt + 13 * q + e)), .int (nI 0)]) (b := b) (rest := []) (d2 := 1) (c2 := 0) (s2 := 0) (c3 := 0) (s3 := 0) dX9_isBefore_69 wm_X9_104 wi_X9_times wv_X9_times (k := 9) rfl (by decide) hb nX9_times ⟨pX9_times, Nat.le_of_ble_eq_true rfl, by decide, Nat.le_of_ble_eq_true rfl, by decide, by decide⟩ (c1) (fun v9 B hC => ?_) (fun E9 B9 hC => absurd hC.1 (by simp))
  obtain ⟨hv8, k1, k2, k3⟩ := hC
  cases hv8
  refine xx_cst (st2 := []) rfl ?_
  have hb2 := (k3 b (by omega) (by omega) (by omega)).trans hb
  have w2 := hN.set k2 k3
  have g2 : ∀ k c9, k < R → c9 ≤ mn → yy_un N 0 (T p c * T q e) (yy_tb tt + 13 * k + c9) = T k c9 := fun k c9 a b9 => (yy_un_n (by omega)).trans (g k c9 a b9)
  refine xx_aload_n dX9_isBefore_72 rfl ?_
  refine xx_aload_n dX9_isBefore_73 rfl ?_
  refine xx_iload_n dX9_isBefore_74 rfl ?_
  refine xx_iload_n dX9_isBefore_75 rfl ?_
  refine xx_iload dX9_isBefore_76 rfl ?_
  refine xx_callV (N := mX9_cell) (vs := [.int (nI tt), .int (nI q), .int (nI c)]) (b := b) (rest := [.ref b]) (d2 := 0) (c2 := 0) (s2 := 0) (c3 := 0) (s3 := 0) dX9_isBefore_78 wm_X9_151 wi_X9_cell wv_X9_cell (k := 9) rfl (by decide) hb2 nX9_cell ⟨pX9_cell, Nat.le_of_ble_eq_true rfl, by decide, Nat.le_of_ble_eq_true rfl, by decide, by decide⟩ (c_X9_cell (tt := tt) (r := q) (c := c) hb2 (by omega) (by omega) (by omega)) (fun v9 B9 hC => ?_) (fun E9 B9 hC => absurd hC.1 (by simp))
  obtain ⟨hv9, e9⟩ := hC
  cases hv9
  refine xx_cst (st2 := [.int (nI (yy_tb tt + 13 * q + c)), .ref b]) rfl ?_
  rw [e9]
  refine xx_aload_n dX9_isBefore_81 rfl ?_
  refine xx_iload_n dX9_isBefore_82 rfl ?_
  refine xx_iload_n dX9_isBefore_83 rfl ?_
  refine xx_iload dX9_isBefore_84 rfl ?_
  refine xx_callV (N := mX9_cell) (vs := [.int (nI tt), .int (nI p), .int (nI e)]) (b := b) (rest := [.int (nI (yy_tb tt + 13 * q + c)), .ref b]) (d2 := 0) (c2 := 0) (s2 := 0) (c3 := 0) (s3 := 0) dX9_isBefore_86 wm_X9_151 wi_X9_cell wv_X9_cell (k := 9) rfl (by decide) hb2 nX9_cell ⟨pX9_cell, Nat.le_of_ble_eq_true rfl, by decide, Nat.le_of_ble_eq_true rfl, by decide, by decide⟩ (c_X9_cell (tt := tt) (r := p) (c := e) hb2 (by omega) (by omega) (by omega)) (fun v9 B9 hC => ?_) (fun E9 B9 hC => absurd hC.1 (by simp))
  obtain ⟨hv9, e9⟩ := hC
  cases hv9
  refine xx_cst (st2 := [.int (nI (yy_tb tt + 13 * p + e)), .int (nI (yy_tb tt + 13 * q + c)), .ref b]) rfl ?_
  rw [e9]
  refine xx_iconst (v := 1) dX9_isBefore_89 (by decide) ?_
  refine xx_cst (st2 := [.int (nI 1), .int (nI (yy_tb tt + 13 * p + e)), .int (nI (yy_tb tt + 13 * q + c)), .ref b]) rfl ?_
  have c2 := c_X9_times (G := G) (l := l) (x := yy_tb tt + 13 * q + c) (y := yy_tb tt + 13 * p + e) (c := 1) hb2 k2 (by omega) (by omega) (by decide) (by omega) (by omega) ⟨20, 20, rfl, by rw [g2 q c hq hc]; exact (yy_b20 (hB q hq c hc)).1, by rw [g2 p e hp he]; exact (yy_b20 (hB p hp e he)).1⟩
  rw [g2 q c hq hc, g2 p e hp he] at c2
  refine xx_callV (N := mX9_times) (vs := [.int (nI (yy_tb tt + 13 * q + c)), .int (nI (yy_tb tt + 13 * p + e)), .int (nI 1)]) (b := b) (rest := []) (d2 := 1) (c2 := 0) (s2 := 0) (c3 := 0) (s3 := 0) dX9_isBefore_90 wm_X9_104 wi_X9_times wv_X9_times (k := 9) rfl (by decide) hb2 nX9_times ⟨pX9_times, Nat.le_of_ble_eq_true rfl, by decide, Nat.le_of_ble_eq_true rfl, by decide, by decide⟩ (c2) (fun v9 D hC => ?_) (fun E9 B9 hC => absurd hC.1 (by simp))
  obtain ⟨hv7, m1, m2, m3⟩ := hC
  cases hv7
  refine xx_cst (st2 := []) rfl ?_
  have hb3 := (m3 b (by omega) (by omega) (by omega)).trans hb2
  have w3 := w2.set m2 m3
  refine xx_aload_n dX9_isBefore_93 rfl ?_
  refine xx_iconst (v := 0) dX9_isBefore_94 (by decide) ?_
  refine xx_iconst (v := 1) dX9_isBefore_95 (by decide) ?_
  refine xx_cst (st2 := [.int (nI 1), .int (nI 0), .ref b]) rfl ?_
  have c3 := c_X9_compare (G := G) (l := l) (x := 0) (y := 1) hb3 m2 (by decide) (by decide)
  rw [yy_un_n (show (0 : Nat) ≠ 1 by decide), yy_un_s, yy_un_s] at c3
  refine xx_callV (N := mX9_compare) (vs := [.int (nI 0), .int (nI 1)]) (b := b) (rest := []) (d2 := 1) (c2 := 0) (s2 := 0) (c3 := 0) (s3 := 0) dX9_isBefore_96 wm_X9_159 wi_X9_compare wv_X9_compare (k := 9) rfl (by decide) hb3 nX9_compare ⟨pX9_compare, Nat.le_of_ble_eq_true rfl, by decide, Nat.le_of_ble_eq_true rfl, by decide, by decide⟩ (c3) (fun v9 B9 hC => ?_) (fun E9 B9 hC => absurd hC.1 (by simp))
  obtain ⟨hv6, e9⟩ := hC
  cases hv6
  refine xx_cst (st2 := [.int (yo_o T p q e c)]) rfl ?_
  rw [e9]
  refine xx_istore dX9_isBefore_99 (by decide) ?_
  refine xx_clv (lv2 := [(0, .ref b), (1, .int (nI tt)), (2, .int (nI p)), (3, .int (nI q)), (4, .int (nI e)), (5, .int (nI fs)), (6, .int v6), (7, .int (nI c)), (8, .int (yo_o T p q e c))]) rfl ?_
  refine xx_less [0, 1, 2, 3, 4, 5, 6, 8] ?_
  refine xx_clv (lv2 := [(0, .ref b), (1, .int (nI tt)), (2, .int (nI p)), (3, .int (nI q)), (4, .int (nI e)), (5, .int (nI fs)), (6, .int v6), (8, .int (yo_o T p q e c))]) rfl ?_
  exact k D _ (by omega) w3 (fun r hr => by rw [yy_un_n (by omega), yy_un_n (by omega)]) (fun q a1 a2 a3 a4 a5 => (m3 q a1 a2 a3).trans (k3 q a1 a2 a3))
set_option maxRecDepth 100000 in
theorem l_X9_il {G : xx_G} {l : Launch} {A : xx_H} {b : Nat} {th hr st hl en tu : Value} {m n : Nat} {tt p q e fs R mn : Nat} {T : Nat → Nat → Int} {den : Int} {N : Nat → Int} {Q : Option Value ⊕ String → xx_H → Prop} (hb : A.2 b = xx_o 9 (xx_mf b th (.int (nI m)) (.int (nI n)) hr st hl en tu)) (ht : tt < 2) (hp : p < R) (hq : q < R) (hR : R ≤ 6) (hmn : mn ≤ 12) (he : e ≤ mn) (hT : yr_t N tt R mn T den) (hB : ∀ k, k < R → ∀ c, c ≤ mn → (T k c).natAbs < 2 ^ 200) (hm : m ≤ 6) (hn : n ≤ 6) (hmn2 : mn = m + n) (hR2 : R = yy_rw m n tt) (hfs : fs = if tt = 0 then m else 0) (k : ∀ (B : xx_H), B.1 = A.1 → ((∃ N2, xx_rw B b N2 ∧ ∀ r, 2 ≤ r → N2 r = N r) ∧ ∀ q, q ≠ b + 1 → q ≠ b + 2 → q ≠ b + 3 → q ≠ b + 17 → q ≠ b + 18 → B.2 q = A.2 q) → Q (.inl (some (.int (if yo_c T p q e mn fs R < 0 then 1 else 0)))) B) :
    ∀ (v i : Nat), i + v = R → ∀ (B : xx_H) (N2 : Nat → Int), B.1 = A.1 → xx_rw B b N2 → (∀ r, 2 ≤ r → N2 r = N r) → (∀ q, q ≠ b + 1 → q ≠ b + 2 → q ≠ b + 3 → q ≠ b + 17 → q ≠ b + 18 → B.2 q = A.2 q) → yo_l T p q e fs v i = yo_c T p q e mn fs R → xx_X G l mX9_isBefore 2 0 0 17 [(0, .ref b), (1, .int (nI tt)), (2, .int (nI p)), (3, .int (nI q)), (4, .int (nI e)), (5, .int (nI fs)), (6, .int (nI i))] [] B Q := by
  intro v
  induction v with
  | zero =>
    intro i hi B N2 y1 y2 y3 y4 y5
    have : i = R := by omega
    subst this
    have hb2 := (y4 b (by omega) (by omega) (by omega) (by omega) (by omega)).trans hb
    refine xx_iload dX9_isBefore_17 rfl ?_
    refine xx_aload_n dX9_isBefore_19 rfl ?_
    refine xx_iload_n dX9_isBefore_20 rfl ?_
    refine xx_callV (N := mX9_rowsOf) (vs := [.int (nI tt)]) (b := b) (rest := [.int (nI i)]) (d2 := 0) (c2 := 0) (s2 := 0) (c3 := 0) (s3 := 0) dX9_isBefore_21 wm_X9_147 wi_X9_rowsOf wv_X9_rowsOf (k := 9) rfl (by decide) hb2 nX9_rowsOf ⟨pX9_rowsOf, Nat.le_of_ble_eq_true rfl, by decide, Nat.le_of_ble_eq_true rfl, by decide, by decide⟩ (c_X9_rowsOf (tt := tt) hb2 ht) (fun v9 B9 hC => ?_) (fun E9 B9 hC => absurd hC.1 (by simp))
    obtain ⟨hv9, e9⟩ := hC
    cases hv9
    refine xx_cst (st2 := [.int (nI (yy_rw m n tt)), .int (nI i)]) rfl ?_
    rw [e9, ← hR2]
    refine xx_icmp_ge (tgt := 123) dX9_isBefore_24 (by decide) (fun j24 => ?_) (fun h => absurd (Int32.le_refl _) h)
    refine xx_iconst (v := 0) dX9_isBefore_123 (by decide) ?_
    exact xx_zret dX9_isBefore_124 rfl rfl (by have := k B y1 ⟨⟨N2, y2, y3⟩, y4⟩; rw [← y5] at this; exact this)
  | succ v ih =>
    intro i hi B N2 y1 y2 y3 y4 y5
    have hb2 := (y4 b (by omega) (by omega) (by omega) (by omega) (by omega)).trans hb
    have hci : fs + i ≤ mn := by
      unfold yy_rw at hR2
      by_cases e : tt = 0
      · rw [if_pos e] at hR2 hfs; omega
      · rw [if_neg e] at hR2 hfs; omega
    have hT2 : yr_t N2 tt R mn T den := ⟨fun k a c b9 => by have := yy_tb_b tt; rw [y3 _ (by omega)]; exact hT.1 k a c b9, by rw [y3 _ (by omega)]; exact hT.2⟩
    refine xx_iload dX9_isBefore_17 rfl ?_
    refine xx_aload_n dX9_isBefore_19 rfl ?_
    refine xx_iload_n dX9_isBefore_20 rfl ?_
    refine xx_callV (N := mX9_rowsOf) (vs := [.int (nI tt)]) (b := b) (rest := [.int (nI i)]) (d2 := 0) (c2 := 0) (s2 := 0) (c3 := 0) (s3 := 0) dX9_isBefore_21 wm_X9_147 wi_X9_rowsOf wv_X9_rowsOf (k := 9) rfl (by decide) hb2 nX9_rowsOf ⟨pX9_rowsOf, Nat.le_of_ble_eq_true rfl, by decide, Nat.le_of_ble_eq_true rfl, by decide, by decide⟩ (c_X9_rowsOf (tt := tt) hb2 ht) (fun v9 B9 hC => ?_) (fun E9 B9 hC => absurd hC.1 (by simp))
    obtain ⟨hv9, e9⟩ := hC
    cases hv9
    refine xx_cst (st2 := [.int (nI (yy_rw m n tt)), .int (nI i)]) rfl ?_
    rw [e9, ← hR2]
    refine xx_icmp_ge (tgt := 123) dX9_isBefore_24 (by decide) (fun h => absurd h (nI_ge (by omega) (by omega))) (fun j24 => ?_)
    refine xx_iload dX9_isBefore_27 rfl ?_
    refine xx_if_ge (tgt := 44) dX9_isBefore_29 (by decide) (fun j29 => ?_) (fun h => absurd (nI_pos' (by omega)) h)
    refine xx_iload dX9_isBefore_44 rfl ?_
    refine xx_iload dX9_isBefore_46 rfl ?_
    refine xx_iadd dX9_isBefore_48 ?_
    refine xx_eqi (y := nI (fs + i)) (nI_add fs i) ?_
    refine xx_istore dX9_isBefore_49 (by decide) ?_
    refine xx_clv (lv2 := [(0, .ref b), (1, .int (nI tt)), (2, .int (nI p)), (3, .int (nI q)), (4, .int (nI e)), (5, .int (nI fs)), (6, .int (nI i)), (7, .int (nI (fs + i)))]) rfl ?_
    refine xx_less [0, 1, 2, 3, 4, 5, 6, 7] ?_
    refine xx_clv (lv2 := [(0, .ref b), (1, .int (nI tt)), (2, .int (nI p)), (3, .int (nI q)), (4, .int (nI e)), (5, .int (nI fs)), (6, .int (nI i)), (7, .int (nI (fs + i)))]) rfl ?_
    refine l_X9_ib (v6 := nI i) hb2 y2 ht hp hq hR hmn he hT2 hB hci (fun D N3 z1 z2 z3 z4 => ?_)
    refine xx_iload dX9_isBefore_101 rfl ?_
    refine xx_if_eq (tgt := 117) dX9_isBefore_103 (by decide) (fun j103 => ?_) (fun j103 => ?_)
    · refine xx_iinc (v := nI (i + 1)) dX9_isBefore_117 rfl (nI_1 i) (by decide) ?_
      refine xx_goto (tgt := 17) dX9_isBefore_120 (by decide) ?_
      refine xx_less [0, 1, 2, 3, 4, 5, 6] ?_
      refine xx_clv (lv2 := [(0, .ref b), (1, .int (nI tt)), (2, .int (nI p)), (3, .int (nI q)), (4, .int (nI e)), (5, .int (nI fs)), (6, .int (nI (i + 1)))]) rfl ?_
      refine ih (i + 1) (by omega) D N3 (by omega) z2 (fun r hr => (z3 r hr).trans (y3 r hr)) (fun q a1 a2 a3 a4 a5 => (z4 q a1 a2 a3 a4 a5).trans (y4 q a1 a2 a3 a4 a5)) ?_
      rw [yo_l, if_pos j103] at y5
      exact y5
    · refine xx_iload dX9_isBefore_106 rfl ?_
      refine xx_if_ge (tgt := 115) dX9_isBefore_108 (by decide) (fun j108 => ?_) (fun j108 => ?_)
      · refine xx_iconst (v := 0) dX9_isBefore_115 (by decide) ?_
        rw [yo_l, if_neg j103] at y5
        have k9 := k D (by omega) ⟨⟨N3, z2, fun r hr => (z3 r hr).trans (y3 r hr)⟩, fun q a1 a2 a3 a4 a5 => (z4 q a1 a2 a3 a4 a5).trans (y4 q a1 a2 a3 a4 a5)⟩
        rw [← y5, if_neg (fun q9 => absurd q9 (Int32.not_lt.mpr j108))] at k9
        exact xx_zret dX9_isBefore_116 rfl rfl k9
      · refine xx_iconst (v := 1) dX9_isBefore_111 (by decide) ?_
        refine xx_goto (tgt := 116) dX9_isBefore_112 (by decide) ?_
        rw [yo_l, if_neg j103] at y5
        have k9 := k D (by omega) ⟨⟨N3, z2, fun r hr => (z3 r hr).trans (y3 r hr)⟩, fun q a1 a2 a3 a4 a5 => (z4 q a1 a2 a3 a4 a5).trans (y4 q a1 a2 a3 a4 a5)⟩
        rw [← y5, if_pos (Int32.not_le.mp j108)] at k9
        exact xx_zret dX9_isBefore_116 rfl rfl k9
set_option maxRecDepth 100000 in
theorem c_X9_isBefore {G : xx_G} {l : Launch} {A : xx_H} {b : Nat} {th hr st hl en tu : Value} {m n : Nat} {tt p q e fs R mn : Nat} {T : Nat → Nat → Int} {den : Int} {N : Nat → Int} (hb : A.2 b = xx_o 9 (xx_mf b th (.int (nI m)) (.int (nI n)) hr st hl en tu)) (hN : xx_rw A b N) (ht : tt < 2) (hp : p < R) (hq : q < R) (hR : R ≤ 6) (hmn : mn ≤ 12) (he : e ≤ mn) (hT : yr_t N tt R mn T den) (hB : ∀ k, k < R → ∀ c, c ≤ mn → (T k c).natAbs < 2 ^ 200) (hm : m ≤ 6) (hn : n ≤ 6) (hmn2 : mn = m + n) (hR2 : R = yy_rw m n tt) (hfs : fs = if tt = 0 then m else 0) : xx_X G l mX9_isBefore 2 0 0 0 (lv_args 0 [.ref b, .int (nI tt), .int (nI p), .int (nI q), .int (nI e)]) [] A (fun z B => z = .inl (some (.int (if yo_c T p q e mn fs R < 0 then 1 else 0))) ∧ B.1 = A.1 ∧ (∃ N2, xx_rw B b N2 ∧ ∀ r, 2 ≤ r → N2 r = N r) ∧ ∀ q, q ≠ b + 1 → q ≠ b + 2 → q ≠ b + 3 → q ≠ b + 17 → q ≠ b + 18 → B.2 q = A.2 q) := by
  have J : xx_X G l mX9_isBefore 2 0 0 14 [(0, .ref b), (1, .int (nI tt)), (2, .int (nI p)), (3, .int (nI q)), (4, .int (nI e)), (5, .int (nI fs))] [] A (fun z B => z = .inl (some (.int (if yo_c T p q e mn fs R < 0 then 1 else 0))) ∧ B.1 = A.1 ∧ (∃ N2, xx_rw B b N2 ∧ ∀ r, 2 ≤ r → N2 r = N r) ∧ ∀ q, q ≠ b + 1 → q ≠ b + 2 → q ≠ b + 3 → q ≠ b + 17 → q ≠ b + 18 → B.2 q = A.2 q) := by
    refine xx_iconst (v := (-1)) dX9_isBefore_14 (by decide) ?_
    refine xx_istore dX9_isBefore_15 (by decide) ?_
    refine xx_clv (lv2 := [(0, .ref b), (1, .int (nI tt)), (2, .int (nI p)), (3, .int (nI q)), (4, .int (nI e)), (5, .int (nI fs)), (6, .int (-1))]) rfl ?_
    refine xx_iload dX9_isBefore_17 rfl ?_
    refine xx_aload_n dX9_isBefore_19 rfl ?_
    refine xx_iload_n dX9_isBefore_20 rfl ?_
    refine xx_callV (N := mX9_rowsOf) (vs := [.int (nI tt)]) (b := b) (rest := [.int (-1)]) (d2 := 0) (c2 := 0) (s2 := 0) (c3 := 0) (s3 := 0) dX9_isBefore_21 wm_X9_147 wi_X9_rowsOf wv_X9_rowsOf (k := 9) rfl (by decide) hb nX9_rowsOf ⟨pX9_rowsOf, Nat.le_of_ble_eq_true rfl, by decide, Nat.le_of_ble_eq_true rfl, by decide, by decide⟩ (c_X9_rowsOf (tt := tt) hb ht) (fun v9 B9 hC => ?_) (fun E9 B9 hC => absurd hC.1 (by simp))
    obtain ⟨hv9, e9⟩ := hC
    cases hv9
    refine xx_cst (st2 := [.int (nI (yy_rw m n tt)), .int (-1)]) rfl ?_
    rw [e9, ← hR2]
    refine xx_icmp_ge (tgt := 123) dX9_isBefore_24 (by decide) (fun h => absurd h (yy_nm1 (by omega))) (fun j24 => ?_)
    refine xx_iload dX9_isBefore_27 rfl ?_
    refine xx_if_ge (tgt := 44) dX9_isBefore_29 (by decide) (fun h => absurd h (by decide)) (fun j29 => ?_)
    refine xx_aload_n dX9_isBefore_32 rfl ?_
    refine xx_get xx_c9 dX9_isBefore_33 wf_X9_120 (j := 4) (by decide) hb rfl ?_
    refine xx_aload_n dX9_isBefore_36 rfl ?_
    refine xx_get xx_c9 dX9_isBefore_37 wf_X9_123 (j := 5) (by decide) hb rfl ?_
    refine xx_iadd dX9_isBefore_40 ?_
    refine xx_eqi (y := nI (m + n)) (nI_add m n) ?_
    refine xx_goto (tgt := 49) dX9_isBefore_41 (by decide) ?_
    refine xx_istore dX9_isBefore_49 (by decide) ?_
    refine xx_clv (lv2 := [(0, .ref b), (1, .int (nI tt)), (2, .int (nI p)), (3, .int (nI q)), (4, .int (nI e)), (5, .int (nI fs)), (6, .int (-1)), (7, .int (nI (m + n)))]) rfl ?_
    refine xx_less [0, 1, 2, 3, 4, 5, 6, 7] ?_
    refine xx_clv (lv2 := [(0, .ref b), (1, .int (nI tt)), (2, .int (nI p)), (3, .int (nI q)), (4, .int (nI e)), (5, .int (nI fs)), (6, .int (-1)), (7, .int (nI mn))]) (by rw [hmn2]; rfl) ?_
    refine l_X9_ib (v6 := -1) hb hN ht hp hq hR hmn he hT hB (Nat.le_refl _) (fun D N3 z1 z2 z3 z4 => ?_)
    refine xx_iload dX9_isBefore_101 rfl ?_
    refine xx_if_eq (tgt := 117) dX9_isBefore_103 (by decide) (fun j103 => ?_) (fun j103 => ?_)
    · refine xx_iinc (v := nI 0) dX9_isBefore_117 rfl (by decide) (by decide) ?_
      refine xx_goto (tgt := 17) dX9_isBefore_120 (by decide) ?_
      refine xx_less [0, 1, 2, 3, 4, 5, 6] ?_
      refine xx_clv (lv2 := [(0, .ref b), (1, .int (nI tt)), (2, .int (nI p)), (3, .int (nI q)), (4, .int (nI e)), (5, .int (nI fs)), (6, .int (nI 0))]) rfl ?_
      exact l_X9_il hb ht hp hq hR hmn he hT hB hm hn hmn2 hR2 hfs (fun B y1 y2 => ⟨rfl, y1, y2⟩) R 0 (by omega) D N3 z1 z2 z3 z4 (by unfold yo_c; rw [if_pos j103])
    · refine xx_iload dX9_isBefore_106 rfl ?_
      refine xx_if_ge (tgt := 115) dX9_isBefore_108 (by decide) (fun j108 => ?_) (fun j108 => ?_)
      · refine xx_iconst (v := 0) dX9_isBefore_115 (by decide) ?_
        have e5 : yo_c T p q e mn fs R = yo_o T p q e mn := by unfold yo_c; rw [if_neg j103]
        exact xx_zret dX9_isBefore_116 rfl rfl ⟨by rw [e5, if_neg (fun q9 => absurd q9 (Int32.not_lt.mpr j108))], z1, ⟨N3, z2, z3⟩, z4⟩
      · refine xx_iconst (v := 1) dX9_isBefore_111 (by decide) ?_
        refine xx_goto (tgt := 116) dX9_isBefore_112 (by decide) ?_
        have e5 : yo_c T p q e mn fs R = yo_o T p q e mn := by unfold yo_c; rw [if_neg j103]
        exact xx_zret dX9_isBefore_116 rfl rfl ⟨by rw [e5, if_pos (Int32.not_le.mp j108)], z1, ⟨N3, z2, z3⟩, z4⟩
  refine xx_clv (lv2 := [(0, .ref b), (1, .int (nI tt)), (2, .int (nI p)), (3, .int (nI q)), (4, .int (nI e))]) rfl ?_
  refine xx_iload_n dX9_isBefore_0 rfl ?_
  refine xx_if_ne (tgt := 11) dX9_isBefore_1 (by decide) (fun j1 => ?_) (fun j1 => ?_)
  · have j1 : ¬ tt = 0 := fun hq9 => j1 ((nI_eq (a := tt) (b := 0) (by omega) (by omega)).mpr hq9)
    refine xx_iconst (v := 0) dX9_isBefore_11 (by decide) ?_
    refine xx_istore dX9_isBefore_12 (by decide) ?_
    refine xx_clv (lv2 := [(0, .ref b), (1, .int (nI tt)), (2, .int (nI p)), (3, .int (nI q)), (4, .int (nI e)), (5, .int 0)]) rfl ?_
    refine xx_clv (lv2 := [(0, .ref b), (1, .int (nI tt)), (2, .int (nI p)), (3, .int (nI q)), (4, .int (nI e)), (5, .int (nI fs))]) (by rw [hfs, if_neg j1]; rfl) ?_
    exact J
  · have j1 : tt = 0 := (nI_eq (a := tt) (b := 0) (by omega) (by omega)).mp j1
    refine xx_aload_n dX9_isBefore_4 rfl ?_
    refine xx_get xx_c9 dX9_isBefore_5 wf_X9_120 (j := 4) (by decide) hb rfl ?_
    refine xx_goto (tgt := 12) dX9_isBefore_8 (by decide) ?_
    refine xx_istore dX9_isBefore_12 (by decide) ?_
    refine xx_clv (lv2 := [(0, .ref b), (1, .int (nI tt)), (2, .int (nI p)), (3, .int (nI q)), (4, .int (nI e)), (5, .int (nI m))]) rfl ?_
    refine xx_clv (lv2 := [(0, .ref b), (1, .int (nI tt)), (2, .int (nI p)), (3, .int (nI q)), (4, .int (nI e)), (5, .int (nI fs))]) (by rw [hfs, if_pos j1]) ?_
    exact J
