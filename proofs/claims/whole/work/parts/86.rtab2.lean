/-! ===== the reference's enter ===== -/
/-- rows below i are done, of row i the columns below j -/
def ye_w (T : Nat → Nat → Int) (den : Int) (r e i j : Nat) : Nat → Nat → Int := fun k c => if k < i ∨ (k = i ∧ c < j) then yt_n T den r e k c else T k c
theorem ye_w_n {T : Nat → Nat → Int} {den : Int} {r e i mn k c : Nat} (hc : c ≤ mn) : ye_w T den r e i (mn + 1) k c = ye_w T den r e (i + 1) 0 k c := by
  unfold ye_w
  by_cases a : k < i ∨ k = i ∧ c < mn + 1
  · rw [if_pos a, if_pos (by omega)]
  · rw [if_neg a, if_neg (by omega)]
theorem ye_w_r {T : Nat → Nat → Int} {den : Int} {r e k c : Nat} : ye_w T den r e r 0 k c = ye_w T den r e (r + 1) 0 k c := by
  unfold ye_w
  by_cases a : k < r ∨ k = r ∧ c < 0
  · rw [if_pos a, if_pos (by omega)]
  · rw [if_neg a]
    by_cases b : k = r
    · rw [if_pos (by omega)]; unfold yt_n; rw [if_pos b, b]
    · rw [if_neg (by omega)]
set_option maxRecDepth 100000 in
theorem l_X9_er {G : xx_G} {l : Launch} {A : xx_H} {b : Nat} {th hr st hl en tu : Value} {m n : Nat} {tt e fs R mn : Nat} {T : Nat → Nat → Int} {den : Int} {N : Nat → Int} {Q : Option Value ⊕ String → xx_H → Prop} (hb : A.2 b = xx_o 9 (xx_mf b th (.int (nI m)) (.int (nI n)) hr st hl en tu)) (ht : tt < 2) (hR : R ≤ 6) (hmn : mn ≤ 12) (he : e ≤ mn) (hT : yr_t N tt R mn T den) (hB : ∀ k, k < R → ∀ c, c ≤ mn → (T k c).natAbs < 2 ^ 200) (hm : m ≤ 6) (hn : n ≤ 6) (hmn2 : mn = m + n) (hR2 : R = yy_rw m n tt) (hfs : fs = if tt = 0 then m else 0) (k : ∀ (B : xx_H) (N2 : Nat → Int), B.1 = A.1 → xx_rw B b N2 → (∀ r, 2 ≤ r → N2 r = N r) → (∀ q, q ≠ b + 1 → q ≠ b + 2 → q ≠ b + 3 → q ≠ b + 17 → q ≠ b + 18 → B.2 q = A.2 q) → xx_X G l mX9_enter 4 0 0 56 [(0, .ref b), (1, .int (nI tt)), (2, .int (nI e)), (3, .int (yo_en (yo_r T e mn fs R R)))] [] B Q) :
    ∀ (v i : Nat), i + v = R → ∀ (B : xx_H) (N2 : Nat → Int), B.1 = A.1 → xx_rw B b N2 → (∀ r, 2 ≤ r → N2 r = N r) → (∀ q, q ≠ b + 1 → q ≠ b + 2 → q ≠ b + 3 → q ≠ b + 17 → q ≠ b + 18 → B.2 q = A.2 q) → xx_X G l mX9_enter 4 0 0 5 [(0, .ref b), (1, .int (nI tt)), (2, .int (nI e)), (3, .int (yo_en (yo_r T e mn fs R i))), (4, .int (nI i))] [] B Q := by
  intro v
  induction v with
  | zero =>
    intro i hi B N2 y1 y2 y3 y4
    have : i = R := by omega
    subst this
    have hb2 := (y4 b (by omega) (by omega) (by omega) (by omega) (by omega)).trans hb
    refine xx_iload dX9_enter_5 rfl ?_
    refine xx_aload_n dX9_enter_7 rfl ?_
    refine xx_iload_n dX9_enter_8 rfl ?_
    refine xx_callV (N := mX9_rowsOf) (vs := [.int (nI tt)]) (b := b) (rest := [.int (nI i)]) (d2 := 0) (c2 := 0) (s2 := 0) (c3 := 0) (s3 := 0) dX9_enter_9 wm_X9_147 wi_X9_rowsOf wv_X9_rowsOf (k := 9) rfl (by decide) hb2 nX9_rowsOf ⟨pX9_rowsOf, Nat.le_of_ble_eq_true rfl, by decide, Nat.le_of_ble_eq_true rfl, by decide, by decide⟩ (c_X9_rowsOf (tt := tt) hb2 ht) (fun v9 B9 hC => ?_) (fun E9 B9 hC => absurd hC.1 (by simp))
    obtain ⟨hv9, e9⟩ := hC
    cases hv9
    refine xx_cst (st2 := [.int (nI (yy_rw m n tt)), .int (nI i)]) rfl ?_
    rw [e9, ← hR2]
    refine xx_icmp_ge (tgt := 56) dX9_enter_12 (by decide) (fun j12 => ?_) (fun h => absurd (Int32.le_refl _) h)
    refine xx_less [0, 1, 2, 3] ?_
    refine xx_clv (lv2 := [(0, .ref b), (1, .int (nI tt)), (2, .int (nI e)), (3, .int (yo_en (yo_r T e mn fs i i)))]) rfl ?_
    exact k B N2 y1 y2 y3 y4
  | succ v ih =>
    intro i hi B N2 y1 y2 y3 y4
    have hb2 := (y4 b (by omega) (by omega) (by omega) (by omega) (by omega)).trans hb
    have tb := yy_tb_b tt
    have hT2 : yr_t N2 tt R mn T den := ⟨fun k a c b9 => by rw [y3 _ (by omega)]; exact hT.1 k a c b9, by rw [y3 _ (by omega)]; exact hT.2⟩
    obtain ⟨f9, g9, h9, q1, q2, q3, q4⟩ := id y2.1
    have q5 := (q4 (yy_tb tt + 13 * i + e) (by omega)).1
    rw [hT2.1 i (by omega) e he] at q5
    refine xx_iload dX9_enter_5 rfl ?_
    refine xx_aload_n dX9_enter_7 rfl ?_
    refine xx_iload_n dX9_enter_8 rfl ?_
    refine xx_callV (N := mX9_rowsOf) (vs := [.int (nI tt)]) (b := b) (rest := [.int (nI i)]) (d2 := 0) (c2 := 0) (s2 := 0) (c3 := 0) (s3 := 0) dX9_enter_9 wm_X9_147 wi_X9_rowsOf wv_X9_rowsOf (k := 9) rfl (by decide) hb2 nX9_rowsOf ⟨pX9_rowsOf, Nat.le_of_ble_eq_true rfl, by decide, Nat.le_of_ble_eq_true rfl, by decide, by decide⟩ (c_X9_rowsOf (tt := tt) hb2 ht) (fun v9 B9 hC => ?_) (fun E9 B9 hC => absurd hC.1 (by simp))
    obtain ⟨hv9, e9⟩ := hC
    cases hv9
    refine xx_cst (st2 := [.int (nI (yy_rw m n tt)), .int (nI i)]) rfl ?_
    rw [e9, ← hR2]
    refine xx_icmp_ge (tgt := 56) dX9_enter_12 (by decide) (fun h => absurd h (nI_ge (by omega) (by omega))) (fun j12 => ?_)
    refine xx_aload_n dX9_enter_15 rfl ?_
    refine xx_get xx_c9 dX9_enter_16 wf_X9_17 (j := 3) (by decide) hb2 rfl ?_
    refine xx_aload_n dX9_enter_19 rfl ?_
    refine xx_iload_n dX9_enter_20 rfl ?_
    refine xx_iload dX9_enter_21 rfl ?_
    refine xx_iload_n dX9_enter_23 rfl ?_
    refine xx_callV (N := mX9_cell) (vs := [.int (nI tt), .int (nI i), .int (nI e)]) (b := b) (rest := [.ref (b + 3)]) (d2 := 0) (c2 := 0) (s2 := 0) (c3 := 0) (s3 := 0) dX9_enter_24 wm_X9_151 wi_X9_cell wv_X9_cell (k := 9) rfl (by decide) hb2 nX9_cell ⟨pX9_cell, Nat.le_of_ble_eq_true rfl, by decide, Nat.le_of_ble_eq_true rfl, by decide, by decide⟩ (c_X9_cell (tt := tt) (r := i) (c := e) hb2 (by omega) (by omega) (by omega)) (fun v9 B9 hC => ?_) (fun E9 B9 hC => absurd hC.1 (by simp))
    obtain ⟨hv9, e9⟩ := hC
    cases hv9
    refine xx_cst (st2 := [.int (nI (yy_tb tt + 13 * i + e)), .ref (b + 3)]) rfl ?_
    rw [e9]
    refine xx_iald dX9_enter_27 q3 (vp_in_nI (by omega) (by decide)) ?_
    refine xx_eqi (y := iz (T i e).sign) (by rw [nI_clamp (by omega)]; exact q5) ?_
    refine xx_if_le (tgt := 50) dX9_enter_28 (by decide) (fun j28 => ?_) (fun j28 => ?_)
    · have e9 : yo_r T e mn fs R (i + 1) = yo_r T e mn fs R i := by rw [yo_r, if_neg ((yy_s_le _).mp j28)]
      refine xx_iinc (v := nI (i + 1)) dX9_enter_50 rfl (nI_1 i) (by decide) ?_
      refine xx_goto (tgt := 5) dX9_enter_53 (by decide) ?_
      refine xx_clv (lv2 := [(0, .ref b), (1, .int (nI tt)), (2, .int (nI e)), (3, .int (yo_en (yo_r T e mn fs R (i + 1)))), (4, .int (nI (i + 1)))]) (by rw [e9]; rfl) ?_
      exact ih (i + 1) (by omega) B N2 y1 y2 y3 y4
    · have tp : 0 < T i e := by apply Classical.byContradiction; intro q9; exact j28 ((yy_s_le _).mpr q9)
      cases er : yo_r T e mn fs R i with
      | none =>
        refine xx_clv (lv2 := [(0, .ref b), (1, .int (nI tt)), (2, .int (nI e)), (3, .int (-1)), (4, .int (nI i))]) rfl ?_
        refine xx_iload_n dX9_enter_31 rfl ?_
        refine xx_if_lt (tgt := 47) dX9_enter_32 (by decide) (fun j32 => ?_) (fun h => absurd (by decide) h)
        refine xx_iload dX9_enter_47 rfl ?_
        refine xx_istore_n dX9_enter_49 (by decide) ?_
        refine xx_clv (lv2 := [(0, .ref b), (1, .int (nI tt)), (2, .int (nI e)), (3, .int (nI i)), (4, .int (nI i))]) rfl ?_
        have e9 : yo_r T e mn fs R (i + 1) = some i := by rw [yo_r, if_pos tp, er]
        refine xx_iinc (v := nI (i + 1)) dX9_enter_50 rfl (nI_1 i) (by decide) ?_
        refine xx_goto (tgt := 5) dX9_enter_53 (by decide) ?_
        refine xx_clv (lv2 := [(0, .ref b), (1, .int (nI tt)), (2, .int (nI e)), (3, .int (yo_en (yo_r T e mn fs R (i + 1)))), (4, .int (nI (i + 1)))]) (by rw [e9]; rfl) ?_
        exact ih (i + 1) (by omega) B N2 y1 y2 y3 y4
      | some r =>
        refine xx_clv (lv2 := [(0, .ref b), (1, .int (nI tt)), (2, .int (nI e)), (3, .int (nI r)), (4, .int (nI i))]) rfl ?_
        obtain ⟨rlt, tr⟩ := yo_r_lt er
        refine xx_iload_n dX9_enter_31 rfl ?_
        refine xx_if_lt (tgt := 47) dX9_enter_32 (by decide) (fun h => absurd h (nI_pos (by omega))) (fun j32 => ?_)
        refine xx_aload_n dX9_enter_35 rfl ?_
        refine xx_iload_n dX9_enter_36 rfl ?_
        refine xx_iload dX9_enter_37 rfl ?_
        refine xx_iload_n dX9_enter_39 rfl ?_
        refine xx_iload_n dX9_enter_40 rfl ?_
        have c1 := c_X9_isBefore (G := G) (l := l) (p := i) (q := r) (fs := fs) hb2 y2 ht (by omega) (by omega) hR hmn he hT2 hB hm hn hmn2 hR2 hfs
        refine xx_callV (N := mX9_isBefore) (vs := [.int (nI tt), .int (nI i), .int (nI r), .int (nI e)]) (b := b) (rest := []) (d2 := 2) (c2 := 0) (s2 := 0) (c3 := 0) (s3 := 0) dX9_enter_41 wm_X9_162 wi_X9_isBefore wv_X9_isBefore (k := 9) rfl (by decide) hb2 nX9_isBefore ⟨pX9_isBefore, Nat.le_of_ble_eq_true rfl, by decide, Nat.le_of_ble_eq_true rfl, by decide, by decide⟩ (c1) (fun v9 D hC => ?_) (fun E9 B9 hC => absurd hC.1 (by simp))
        obtain ⟨hv8, k1, ⟨N3, k2, k3⟩, k4⟩ := hC
        cases hv8
        refine xx_cst (st2 := [.int (if yo_c T i r e mn fs R < 0 then 1 else 0)]) rfl ?_
        refine xx_if_eq (tgt := 50) dX9_enter_44 (by decide) (fun j44 => ?_) (fun j44 => ?_)
        · have c9 : ¬ yo_c T i r e mn fs R < 0 := by intro q9; rw [if_pos q9] at j44; exact absurd j44 (by decide)
          have e9 : yo_r T e mn fs R (i + 1) = some r := by rw [yo_r, if_pos tp, er]; exact if_neg c9
          refine xx_iinc (v := nI (i + 1)) dX9_enter_50 rfl (nI_1 i) (by decide) ?_
          refine xx_goto (tgt := 5) dX9_enter_53 (by decide) ?_
          refine xx_clv (lv2 := [(0, .ref b), (1, .int (nI tt)), (2, .int (nI e)), (3, .int (yo_en (yo_r T e mn fs R (i + 1)))), (4, .int (nI (i + 1)))]) (by rw [e9]; rfl) ?_
          exact ih (i + 1) (by omega) D N3 (by omega) k2 (fun r hr => (k3 r hr).trans (y3 r hr)) (fun q a1 a2 a3 a4 a5 => (k4 q a1 a2 a3 a4 a5).trans (y4 q a1 a2 a3 a4 a5))
        · refine xx_iload dX9_enter_47 rfl ?_
          refine xx_istore_n dX9_enter_49 (by decide) ?_
          refine xx_clv (lv2 := [(0, .ref b), (1, .int (nI tt)), (2, .int (nI e)), (3, .int (nI i)), (4, .int (nI i))]) rfl ?_
          have c9 : yo_c T i r e mn fs R < 0 := by apply Classical.byContradiction; intro q9; exact j44 (if_neg q9)
          have e9 : yo_r T e mn fs R (i + 1) = some i := by rw [yo_r, if_pos tp, er]; exact if_pos c9
          refine xx_iinc (v := nI (i + 1)) dX9_enter_50 rfl (nI_1 i) (by decide) ?_
          refine xx_goto (tgt := 5) dX9_enter_53 (by decide) ?_
          refine xx_clv (lv2 := [(0, .ref b), (1, .int (nI tt)), (2, .int (nI e)), (3, .int (yo_en (yo_r T e mn fs R (i + 1)))), (4, .int (nI (i + 1)))]) (by rw [e9]; rfl) ?_
          exact ih (i + 1) (by omega) D N3 (by omega) k2 (fun r hr => (k3 r hr).trans (y3 r hr)) (fun q a1 a2 a3 a4 a5 => (k4 q a1 a2 a3 a4 a5).trans (y4 q a1 a2 a3 a4 a5))
set_option maxRecDepth 100000 in
theorem l_X9_ec {G : xx_G} {l : Launch} {A : xx_H} {b : Nat} {th hr st hl en tu : Value} {m n : Nat} {tt e R mn r i : Nat} {T : Nat → Nat → Int} {den : Int} {N : Nat → Int} {Q : Option Value ⊕ String → xx_H → Prop} (hb : A.2 b = xx_o 9 (xx_mf b th (.int (nI m)) (.int (nI n)) hr st hl en tu)) (ht : tt < 2) (hR : R ≤ 6) (hmn : mn ≤ 12) (he : e ≤ mn) (hB : ∀ k, k < R → ∀ c, c ≤ mn → (T k c).natAbs < 2 ^ 200) (hm : m ≤ 6) (hn : n ≤ 6) (hmn2 : mn = m + n) (hr9 : r < R) (hd : den ≠ 0) (hB2 : ∀ k, k < R → ∀ c, c ≤ mn → (yt_n T den r e k c).natAbs < 2 ^ 200) (hi : i < R) (hir : i ≠ r) (k : ∀ (B : xx_H) (N2 : Nat → Int), B.1 = A.1 → xx_rw B b N2 → (∀ k, k < R → ∀ c, c ≤ mn → N2 (yy_tb tt + 13 * k + c) = ye_w T den r e (i + 1) 0 k c) → N2 18 = T r e → N2 (26 + tt) = den → (∀ q, 5 ≤ q → q ≠ 18 → q ≠ 19 → (q < yy_tb tt ∨ yy_tb tt + 78 ≤ q) → N2 q = N q) → (∀ q, q ≠ b + 1 → q ≠ b + 2 → q ≠ b + 3 → q ≠ b + 17 → q ≠ b + 18 → B.2 q = A.2 q) → xx_X G l mX9_enter 4 0 0 174 [(0, .ref b), (1, .int (nI tt)), (2, .int (nI e)), (3, .int (nI r)), (4, .int (nI (26 + tt))), (5, .int (nI i))] [] B Q) :
    ∀ (v j : Nat), j + v = mn + 1 → ∀ (B : xx_H) (N2 : Nat → Int), B.1 = A.1 → xx_rw B b N2 → (∀ k, k < R → ∀ c, c ≤ mn → N2 (yy_tb tt + 13 * k + c) = ye_w T den r e i j k c) → N2 18 = T r e → N2 19 = T i e → N2 (26 + tt) = den → (∀ q, 5 ≤ q → q ≠ 18 → q ≠ 19 → (q < yy_tb tt ∨ yy_tb tt + 78 ≤ q) → N2 q = N q) → (∀ q, q ≠ b + 1 → q ≠ b + 2 → q ≠ b + 3 → q ≠ b + 17 → q ≠ b + 18 → B.2 q = A.2 q) → xx_X G l mX9_enter 4 0 0 118 [(0, .ref b), (1, .int (nI tt)), (2, .int (nI e)), (3, .int (nI r)), (4, .int (nI (26 + tt))), (5, .int (nI i)), (6, .int (nI j))] [] B Q := by
  intro v
  induction v with
  | zero =>
    intro j hj B N2 y1 y2 y3 y4 y5 y6 y7 y8
    have : j = mn + 1 := by omega
    subst this
    have hb2 := (y8 b (by omega) (by omega) (by omega) (by omega) (by omega)).trans hb
    refine xx_iload dX9_enter_118 rfl ?_
    refine xx_aload_n dX9_enter_120 rfl ?_
    refine xx_get xx_c9 dX9_enter_121 wf_X9_120 (j := 4) (by decide) hb2 rfl ?_
    refine xx_aload_n dX9_enter_124 rfl ?_
    refine xx_get xx_c9 dX9_enter_125 wf_X9_123 (j := 5) (by decide) hb2 rfl ?_
    refine xx_iadd dX9_enter_128 ?_
    refine xx_eqi (y := nI mn) ((nI_add m n).trans (congrArg nI (by omega))) ?_
    refine xx_icmp_gt (tgt := 174) dX9_enter_129 (by decide) (fun j129 => ?_) (fun h => absurd (nI_lt (by omega) (by omega)) h)
    refine xx_less [0, 1, 2, 3, 4, 5] ?_
    refine xx_clv (lv2 := [(0, .ref b), (1, .int (nI tt)), (2, .int (nI e)), (3, .int (nI r)), (4, .int (nI (26 + tt))), (5, .int (nI i))]) rfl ?_
    exact k B N2 y1 y2 (fun q a c b9 => (y3 q a c b9).trans (ye_w_n b9)) y4 y6 y7 y8
  | succ v ih =>
    intro j hj B N2 y1 y2 y3 y4 y5 y6 y7 y8
    have hb2 := (y8 b (by omega) (by omega) (by omega) (by omega) (by omega)).trans hb
    have tb := yy_tb_b tt
    have tb2 : yy_tb tt + 78 ≤ 140 + 78 := by omega
    have d1 : ye_w T den r e i j i j = T i j := by unfold ye_w; rw [if_neg (by omega)]
    have d2 : ye_w T den r e i j r j = T r j := by
      unfold ye_w
      by_cases a : r < i ∨ r = i ∧ j < j
      · rw [if_pos a]; unfold yt_n; rw [if_pos rfl]
      · rw [if_neg a]
    refine xx_iload dX9_enter_118 rfl ?_
    refine xx_aload_n dX9_enter_120 rfl ?_
    refine xx_get xx_c9 dX9_enter_121 wf_X9_120 (j := 4) (by decide) hb2 rfl ?_
    refine xx_aload_n dX9_enter_124 rfl ?_
    refine xx_get xx_c9 dX9_enter_125 wf_X9_123 (j := 5) (by decide) hb2 rfl ?_
    refine xx_iadd dX9_enter_128 ?_
    refine xx_eqi (y := nI mn) ((nI_add m n).trans (congrArg nI (by omega))) ?_
    refine xx_icmp_gt (tgt := 174) dX9_enter_129 (by decide) (fun h => absurd h (nI_nlt (by omega) (by omega))) (fun j129 => ?_)
    refine xx_aload_n dX9_enter_132 rfl ?_
    refine xx_aload_n dX9_enter_133 rfl ?_
    refine xx_iload_n dX9_enter_134 rfl ?_
    refine xx_iload dX9_enter_135 rfl ?_
    refine xx_iload dX9_enter_137 rfl ?_
    refine xx_callV (N := mX9_cell) (vs := [.int (nI tt), .int (nI i), .int (nI j)]) (b := b) (rest := [.ref b]) (d2 := 0) (c2 := 0) (s2 := 0) (c3 := 0) (s3 := 0) dX9_enter_139 wm_X9_151 wi_X9_cell wv_X9_cell (k := 9) rfl (by decide) hb2 nX9_cell ⟨pX9_cell, Nat.le_of_ble_eq_true rfl, by decide, Nat.le_of_ble_eq_true rfl, by decide, by decide⟩ (c_X9_cell (tt := tt) (r := i) (c := j) hb2 (by omega) (by omega) (by omega)) (fun v9 B9 hC => ?_) (fun E9 B9 hC => absurd hC.1 (by simp))
    obtain ⟨hv9, e9⟩ := hC
    cases hv9
    refine xx_cst (st2 := [.int (nI (yy_tb tt + 13 * i + j)), .ref b]) rfl ?_
    rw [e9]
    refine xx_bipush (v := 18) dX9_enter_142 (by decide) ?_
    refine xx_bipush (v := 19) dX9_enter_144 (by decide) ?_
    refine xx_aload_n dX9_enter_146 rfl ?_
    refine xx_iload_n dX9_enter_147 rfl ?_
    refine xx_iload_n dX9_enter_148 rfl ?_
    refine xx_iload dX9_enter_149 rfl ?_
    refine xx_callV (N := mX9_cell) (vs := [.int (nI tt), .int (nI r), .int (nI j)]) (b := b) (rest := [.int 19, .int 18, .int (nI (yy_tb tt + 13 * i + j)), .ref b]) (d2 := 0) (c2 := 0) (s2 := 0) (c3 := 0) (s3 := 0) dX9_enter_151 wm_X9_151 wi_X9_cell wv_X9_cell (k := 9) rfl (by decide) hb2 nX9_cell ⟨pX9_cell, Nat.le_of_ble_eq_true rfl, by decide, Nat.le_of_ble_eq_true rfl, by decide, by decide⟩ (c_X9_cell (tt := tt) (r := r) (c := j) hb2 (by omega) (by omega) (by omega)) (fun v9 B9 hC => ?_) (fun E9 B9 hC => absurd hC.1 (by simp))
    obtain ⟨hv9, e9⟩ := hC
    cases hv9
    refine xx_cst (st2 := [.int (nI (yy_tb tt + 13 * r + j)), .int 19, .int 18, .int (nI (yy_tb tt + 13 * i + j)), .ref b]) rfl ?_
    rw [e9]
    refine xx_iload dX9_enter_154 rfl ?_
    refine xx_aload_n dX9_enter_156 rfl ?_
    refine xx_iload_n dX9_enter_157 rfl ?_
    refine xx_iload dX9_enter_158 rfl ?_
    refine xx_iload dX9_enter_160 rfl ?_
    refine xx_callV (N := mX9_cell) (vs := [.int (nI tt), .int (nI i), .int (nI j)]) (b := b) (rest := [.int (nI (26 + tt)), .int (nI (yy_tb tt + 13 * r + j)), .int 19, .int 18, .int (nI (yy_tb tt + 13 * i + j)), .ref b]) (d2 := 0) (c2 := 0) (s2 := 0) (c3 := 0) (s3 := 0) dX9_enter_162 wm_X9_151 wi_X9_cell wv_X9_cell (k := 9) rfl (by decide) hb2 nX9_cell ⟨pX9_cell, Nat.le_of_ble_eq_true rfl, by decide, Nat.le_of_ble_eq_true rfl, by decide, by decide⟩ (c_X9_cell (tt := tt) (r := i) (c := j) hb2 (by omega) (by omega) (by omega)) (fun v9 B9 hC => ?_) (fun E9 B9 hC => absurd hC.1 (by simp))
    obtain ⟨hv9, e9⟩ := hC
    cases hv9
    refine xx_cst (st2 := [.int (nI (yy_tb tt + 13 * i + j)), .int (nI (26 + tt)), .int (nI (yy_tb tt + 13 * r + j)), .int 19, .int 18, .int (nI (yy_tb tt + 13 * i + j)), .ref b]) rfl ?_
    rw [e9]
    refine xx_cst (st2 := [.int (nI (yy_tb tt + 13 * i + j)), .int (nI (26 + tt)), .int (nI (yy_tb tt + 13 * r + j)), .int (nI 19), .int (nI 18), .int (nI (yy_tb tt + 13 * i + j)), .ref b]) rfl ?_
    have n1 : N2 (yy_tb tt + 13 * i + j) = T i j := (y3 i hi j (by omega)).trans d1
    have n2 : N2 (yy_tb tt + 13 * r + j) = T r j := (y3 r hr9 j (by omega)).trans d2
    have c1 := c_X9_cross (G := G) (l := l) (x := yy_tb tt + 13 * i + j) (y := 18) (e := 19) (f := yy_tb tt + 13 * r + j) (g := 26 + tt) (c := yy_tb tt + 13 * i + j) hb2 y2 (by omega) (by decide) (by decide) (by omega) (by omega) (by omega) (by omega) (by decide) (by decide) (by omega) (by omega) (by omega) (by rw [n1]; exact (yy_b20 (hB i hi j (by omega))).2) (by rw [y4]; exact (yy_b20 (hB r hr9 e he)).2) (by rw [y5]; exact (yy_b20 (hB i hi e he)).2) (by rw [n2]; exact (yy_b20 (hB r hr9 j (by omega))).2) (by rw [y6]; exact hd)
    rw [n1, n2, y4, y5, y6] at c1
    refine xx_callV (N := mX9_cross) (vs := [.int (nI (yy_tb tt + 13 * i + j)), .int (nI 18), .int (nI 19), .int (nI (yy_tb tt + 13 * r + j)), .int (nI (26 + tt)), .int (nI (yy_tb tt + 13 * i + j))]) (b := b) (rest := []) (d2 := 3) (c2 := 0) (s2 := 0) (c3 := 0) (s3 := 0) dX9_enter_165 wm_X9_166 wi_X9_cross wv_X9_cross (k := 9) rfl (by decide) hb2 nX9_cross ⟨pX9_cross, Nat.le_of_ble_eq_true rfl, by decide, Nat.le_of_ble_eq_true rfl, by decide, by decide⟩ (c1) (fun v9 D hC => ?_) (fun E9 B9 hC => absurd hC.1 (by simp))
    obtain ⟨hv8, k1, ⟨N3, k2, k3, k4⟩, k5⟩ := hC
    cases hv8
    refine xx_cst (st2 := []) rfl ?_
    refine xx_iinc (v := nI (j + 1)) dX9_enter_168 rfl (nI_1 j) (by decide) ?_
    refine xx_goto (tgt := 118) dX9_enter_171 (by decide) ?_
    refine xx_clv (lv2 := [(0, .ref b), (1, .int (nI tt)), (2, .int (nI e)), (3, .int (nI r)), (4, .int (nI (26 + tt))), (5, .int (nI i)), (6, .int (nI (j + 1)))]) rfl ?_
    refine ih (j + 1) (by omega) D N3 (by omega) k2 (fun k9 a c b9 => ?_) ((k4 18 (by decide) (by omega)).trans y4) ((k4 19 (by decide) (by omega)).trans y5) ((k4 _ (by omega) (by unfold yy_tb; split <;> omega)).trans y6) (fun q a1 a2 a3 a4 => (k4 q a1 (by omega)).trans (y7 q a1 a2 a3 a4)) (fun q a1 a2 a3 a4 a5 => (k5 q a1 a2 a3 a4 a5).trans (y8 q a1 a2 a3 a4 a5))
    by_cases e1 : k9 = i ∧ c = j
    · obtain ⟨rfl, rfl⟩ := e1
      rw [k3]
      unfold ye_w yt_n
      rw [if_pos (by omega), if_neg hir]
    · rw [k4 _ (by omega) (by omega), y3 k9 a c b9]
      unfold ye_w
      by_cases e2 : k9 < i ∨ k9 = i ∧ c < j
      · rw [if_pos e2, if_pos (by omega)]
      · rw [if_neg e2, if_neg (by omega)]
set_option maxRecDepth 100000 in
theorem l_X9_eo {G : xx_G} {l : Launch} {A : xx_H} {b : Nat} {th hr st hl en tu : Value} {m n : Nat} {tt e R mn r : Nat} {T : Nat → Nat → Int} {den : Int} {N : Nat → Int} {Q : Option Value ⊕ String → xx_H → Prop} (hb : A.2 b = xx_o 9 (xx_mf b th (.int (nI m)) (.int (nI n)) hr st hl en tu)) (ht : tt < 2) (hR : R ≤ 6) (hmn : mn ≤ 12) (he : e ≤ mn) (hB : ∀ k, k < R → ∀ c, c ≤ mn → (T k c).natAbs < 2 ^ 200) (hm : m ≤ 6) (hn : n ≤ 6) (hmn2 : mn = m + n) (hr9 : r < R) (hd : den ≠ 0) (hB2 : ∀ k, k < R → ∀ c, c ≤ mn → (yt_n T den r e k c).natAbs < 2 ^ 200) (hR2 : R = yy_rw m n tt) (k : ∀ (B : xx_H) (N2 : Nat → Int), B.1 = A.1 → xx_rw B b N2 → (∀ k, k < R → ∀ c, c ≤ mn → N2 (yy_tb tt + 13 * k + c) = ye_w T den r e R 0 k c) → N2 18 = T r e → N2 (26 + tt) = den → (∀ q, 5 ≤ q → q ≠ 18 → q ≠ 19 → (q < yy_tb tt ∨ yy_tb tt + 78 ≤ q) → N2 q = N q) → (∀ q, q ≠ b + 1 → q ≠ b + 2 → q ≠ b + 3 → q ≠ b + 17 → q ≠ b + 18 → B.2 q = A.2 q) → xx_X G l mX9_enter 4 0 0 180 [(0, .ref b), (1, .int (nI tt)), (2, .int (nI e)), (3, .int (nI r)), (4, .int (nI (26 + tt)))] [] B Q) :
    ∀ (v i : Nat), i + v = R → ∀ (B : xx_H) (N2 : Nat → Int), B.1 = A.1 → xx_rw B b N2 → (∀ k, k < R → ∀ c, c ≤ mn → N2 (yy_tb tt + 13 * k + c) = ye_w T den r e i 0 k c) → N2 18 = T r e → N2 (26 + tt) = den → (∀ q, 5 ≤ q → q ≠ 18 → q ≠ 19 → (q < yy_tb tt ∨ yy_tb tt + 78 ≤ q) → N2 q = N q) → (∀ q, q ≠ b + 1 → q ≠ b + 2 → q ≠ b + 3 → q ≠ b + 17 → q ≠ b + 18 → B.2 q = A.2 q) → xx_X G l mX9_enter 4 0 0 85 [(0, .ref b), (1, .int (nI tt)), (2, .int (nI e)), (3, .int (nI r)), (4, .int (nI (26 + tt))), (5, .int (nI i))] [] B Q := by
  intro v
  induction v with
  | zero =>
    intro i hi B N2 y1 y2 y3 y4 y6 y7 y8
    have : i = R := by omega
    subst this
    have hb2 := (y8 b (by omega) (by omega) (by omega) (by omega) (by omega)).trans hb
    refine xx_iload dX9_enter_85 rfl ?_
    refine xx_aload_n dX9_enter_87 rfl ?_
    refine xx_iload_n dX9_enter_88 rfl ?_
    refine xx_callV (N := mX9_rowsOf) (vs := [.int (nI tt)]) (b := b) (rest := [.int (nI i)]) (d2 := 0) (c2 := 0) (s2 := 0) (c3 := 0) (s3 := 0) dX9_enter_89 wm_X9_147 wi_X9_rowsOf wv_X9_rowsOf (k := 9) rfl (by decide) hb2 nX9_rowsOf ⟨pX9_rowsOf, Nat.le_of_ble_eq_true rfl, by decide, Nat.le_of_ble_eq_true rfl, by decide, by decide⟩ (c_X9_rowsOf (tt := tt) hb2 ht) (fun v9 B9 hC => ?_) (fun E9 B9 hC => absurd hC.1 (by simp))
    obtain ⟨hv9, e9⟩ := hC
    cases hv9
    refine xx_cst (st2 := [.int (nI (yy_rw m n tt)), .int (nI i)]) rfl ?_
    rw [e9, ← hR2]
    refine xx_icmp_ge (tgt := 180) dX9_enter_92 (by decide) (fun j92 => ?_) (fun h => absurd (Int32.le_refl _) h)
    refine xx_less [0, 1, 2, 3, 4] ?_
    refine xx_clv (lv2 := [(0, .ref b), (1, .int (nI tt)), (2, .int (nI e)), (3, .int (nI r)), (4, .int (nI (26 + tt)))]) rfl ?_
    exact k B N2 y1 y2 y3 y4 y6 y7 y8
  | succ v ih =>
    intro i hi B N2 y1 y2 y3 y4 y6 y7 y8
    have hb2 := (y8 b (by omega) (by omega) (by omega) (by omega) (by omega)).trans hb
    have tb := yy_tb_b tt
    refine xx_iload dX9_enter_85 rfl ?_
    refine xx_aload_n dX9_enter_87 rfl ?_
    refine xx_iload_n dX9_enter_88 rfl ?_
    refine xx_callV (N := mX9_rowsOf) (vs := [.int (nI tt)]) (b := b) (rest := [.int (nI i)]) (d2 := 0) (c2 := 0) (s2 := 0) (c3 := 0) (s3 := 0) dX9_enter_89 wm_X9_147 wi_X9_rowsOf wv_X9_rowsOf (k := 9) rfl (by decide) hb2 nX9_rowsOf ⟨pX9_rowsOf, Nat.le_of_ble_eq_true rfl, by decide, Nat.le_of_ble_eq_true rfl, by decide, by decide⟩ (c_X9_rowsOf (tt := tt) hb2 ht) (fun v9 B9 hC => ?_) (fun E9 B9 hC => absurd hC.1 (by simp))
    obtain ⟨hv9, e9⟩ := hC
    cases hv9
    refine xx_cst (st2 := [.int (nI (yy_rw m n tt)), .int (nI i)]) rfl ?_
    rw [e9, ← hR2]
    refine xx_icmp_ge (tgt := 180) dX9_enter_92 (by decide) (fun h => absurd h (nI_ge (by omega) (by omega))) (fun j92 => ?_)
    refine xx_iload dX9_enter_95 rfl ?_
    refine xx_iload_n dX9_enter_97 rfl ?_
    refine xx_icmp_eq (tgt := 174) dX9_enter_98 (by decide) (fun j98 => ?_) (fun j98 => ?_)
    · have j98 : i = r := (nI_eq (a := i) (b := r) (by omega) (by omega)).mp j98
      refine xx_iinc (v := nI (i + 1)) dX9_enter_174 rfl (nI_1 i) (by decide) ?_
      refine xx_goto (tgt := 85) dX9_enter_177 (by decide) ?_
      refine xx_clv (lv2 := [(0, .ref b), (1, .int (nI tt)), (2, .int (nI e)), (3, .int (nI r)), (4, .int (nI (26 + tt))), (5, .int (nI (i + 1)))]) rfl ?_
      subst j98
      exact ih (i + 1) (by omega) B N2 y1 y2 (fun q a c b9 => (y3 q a c b9).trans ye_w_r) y4 y6 y7 y8
    · have j98 : ¬ i = r := fun hq9 => j98 ((nI_eq (a := i) (b := r) (by omega) (by omega)).mpr hq9)
      refine xx_aload_n dX9_enter_101 rfl ?_
      refine xx_aload_n dX9_enter_102 rfl ?_
      refine xx_iload_n dX9_enter_103 rfl ?_
      refine xx_iload dX9_enter_104 rfl ?_
      refine xx_iload_n dX9_enter_106 rfl ?_
      refine xx_callV (N := mX9_cell) (vs := [.int (nI tt), .int (nI i), .int (nI e)]) (b := b) (rest := [.ref b]) (d2 := 0) (c2 := 0) (s2 := 0) (c3 := 0) (s3 := 0) dX9_enter_107 wm_X9_151 wi_X9_cell wv_X9_cell (k := 9) rfl (by decide) hb2 nX9_cell ⟨pX9_cell, Nat.le_of_ble_eq_true rfl, by decide, Nat.le_of_ble_eq_true rfl, by decide, by decide⟩ (c_X9_cell (tt := tt) (r := i) (c := e) hb2 (by omega) (by omega) (by omega)) (fun v9 B9 hC => ?_) (fun E9 B9 hC => absurd hC.1 (by simp))
      obtain ⟨hv9, e9⟩ := hC
      cases hv9
      refine xx_cst (st2 := [.int (nI (yy_tb tt + 13 * i + e)), .ref b]) rfl ?_
      rw [e9]
      refine xx_bipush (v := 19) dX9_enter_110 (by decide) ?_
      refine xx_cst (st2 := [.int (nI 19), .int (nI (yy_tb tt + 13 * i + e)), .ref b]) rfl ?_
      have n1 : N2 (yy_tb tt + 13 * i + e) = T i e := by rw [y3 i (by omega) e he]; unfold ye_w; rw [if_neg (by omega)]
      have c1 := c_X9_copy (G := G) (l := l) (x := yy_tb tt + 13 * i + e) (a := 19) hb2 y2.1 (by omega) (by decide) (by omega)
      rw [n1] at c1
      refine xx_callV (N := mX9_copy) (vs := [.int (nI (yy_tb tt + 13 * i + e)), .int (nI 19)]) (b := b) (rest := []) (d2 := 0) (c2 := 0) (s2 := 0) (c3 := 0) (s3 := 0) dX9_enter_112 wm_X9_98 wi_X9_copy wv_X9_copy (k := 9) rfl (by decide) hb2 nX9_copy ⟨pX9_copy, Nat.le_of_ble_eq_true rfl, by decide, Nat.le_of_ble_eq_true rfl, by decide, by decide⟩ (c1) (fun v9 D hC => ?_) (fun E9 B9 hC => absurd hC.1 (by simp))
      obtain ⟨hv8, k1, k2, k3⟩ := hC
      cases hv8
      refine xx_cst (st2 := []) rfl ?_
      refine xx_iconst (v := 0) dX9_enter_115 (by decide) ?_
      refine xx_istore dX9_enter_116 (by decide) ?_
      refine xx_clv (lv2 := [(0, .ref b), (1, .int (nI tt)), (2, .int (nI e)), (3, .int (nI r)), (4, .int (nI (26 + tt))), (5, .int (nI i)), (6, .int 0)]) rfl ?_
      refine xx_clv (lv2 := [(0, .ref b), (1, .int (nI tt)), (2, .int (nI e)), (3, .int (nI r)), (4, .int (nI (26 + tt))), (5, .int (nI i)), (6, .int (nI 0))]) rfl ?_
      refine l_X9_ec (N := N) hb ht hR hmn he hB hm hn hmn2 hr9 hd hB2 (show i < R by omega) j98 (fun E N3 z1 z2 z3 z4 z6 z7 z8 => ?_) (mn + 1) 0 (by omega) D _ (by omega) (y2.set k2 k3) (fun q a c b9 => (yy_un_n (by omega)).trans (y3 q a c b9)) ((yy_un_n (by decide)).trans y4) yy_un_s ((yy_un_n (by omega)).trans y6) (fun q a1 a2 a3 a4 => (yy_un_n a3).trans (y7 q a1 a2 a3 a4)) (fun q a1 a2 a3 a4 a5 => (k3 q a1 a2 a3).trans (y8 q a1 a2 a3 a4 a5))
      refine xx_iinc (v := nI (i + 1)) dX9_enter_174 rfl (nI_1 i) (by decide) ?_
      refine xx_goto (tgt := 85) dX9_enter_177 (by decide) ?_
      refine xx_clv (lv2 := [(0, .ref b), (1, .int (nI tt)), (2, .int (nI e)), (3, .int (nI r)), (4, .int (nI (26 + tt))), (5, .int (nI (i + 1)))]) rfl ?_
      exact ih (i + 1) (by omega) E N3 z1 z2 z3 z4 z6 z7 z8
set_option maxRecDepth 100000 in
theorem c_X9_enter {G : xx_G} {l : Launch} {A : xx_H} {b : Nat} {th hr st hl en tu : Value} {m n : Nat} {tt e fs R mn : Nat} {T : Nat → Nat → Int} {den : Int} {N : Nat → Int} {r gone : Nat} {fb : Nat → Int32} (hb : A.2 b = xx_o 9 (xx_mf b th (.int (nI m)) (.int (nI n)) hr st hl en tu)) (hN : xx_rw A b N) (ht : tt < 2) (hR : R ≤ 6) (hmn : mn ≤ 12) (he : e ≤ mn) (hT : yr_t N tt R mn T den) (hB : ∀ k, k < R → ∀ c, c ≤ mn → (T k c).natAbs < 2 ^ 200) (hm : m ≤ 6) (hn : n ≤ 6) (hmn2 : mn = m + n) (hR2 : R = yy_rw m n tt) (hfs : fs = if tt = 0 then m else 0) (hrow : yo_r T e mn fs R R = some r) (hd : den ≠ 0) (hB2 : ∀ k, k < R → ∀ c, c ≤ mn → (yt_n T den r e k c).natAbs < 2 ^ 200) (hbs : A.2 (b + 12) = xx_i 12 fb) (hg : fb (6 * tt + r) = nI gone) : xx_X G l mX9_enter 4 0 0 0 (lv_args 0 [.ref b, .int (nI tt), .int (nI e)]) [] A (fun z B => z = .inl (some (.int (nI gone))) ∧ B.1 = A.1 ∧ (∃ N2, xx_rw B b N2 ∧ yr_t N2 tt R mn (yt_n T den r e) (T r e) ∧ ∀ q, 5 ≤ q → q ≠ 18 → q ≠ 19 → q ≠ 26 + tt → (q < yy_tb tt ∨ yy_tb tt + 78 ≤ q) → N2 q = N q) ∧ B.2 (b + 12) = xx_i 12 (upd fb (6 * tt + r) (nI e)) ∧ ∀ q, q ≠ b + 1 → q ≠ b + 2 → q ≠ b + 3 → q ≠ b + 12 → q ≠ b + 17 → q ≠ b + 18 → B.2 q = A.2 q) := by
  obtain ⟨hr9, hre⟩ := yo_r_lt hrow
  have tb := yy_tb_b tt
  refine xx_clv (lv2 := [(0, .ref b), (1, .int (nI tt)), (2, .int (nI e))]) rfl ?_
  refine xx_iconst (v := (-1)) dX9_enter_0 (by decide) ?_
  refine xx_istore_n dX9_enter_1 (by decide) ?_
  refine xx_clv (lv2 := [(0, .ref b), (1, .int (nI tt)), (2, .int (nI e)), (3, .int (-1))]) rfl ?_
  refine xx_iconst (v := 0) dX9_enter_2 (by decide) ?_
  refine xx_istore dX9_enter_3 (by decide) ?_
  refine xx_clv (lv2 := [(0, .ref b), (1, .int (nI tt)), (2, .int (nI e)), (3, .int (-1)), (4, .int 0)]) rfl ?_
  refine xx_clv (lv2 := [(0, .ref b), (1, .int (nI tt)), (2, .int (nI e)), (3, .int (yo_en (yo_r T e mn fs R 0))), (4, .int (nI 0))]) rfl ?_
  refine l_X9_er hb ht hR hmn he hT hB hm hn hmn2 hR2 hfs (fun B N2 y1 y2 y3 y4 => ?_) R 0 (by omega) A N rfl hN (fun _ _ => rfl) (fun q _ _ _ _ _ => rfl)
  rw [hrow]
  have hb2 := (y4 b (by omega) (by omega) (by omega) (by omega) (by omega)).trans hb
  have n1 : N2 (yy_tb tt + 13 * r + e) = T r e := by rw [y3 _ (by omega)]; exact hT.1 r hr9 e he
  refine xx_clv (lv2 := [(0, .ref b), (1, .int (nI tt)), (2, .int (nI e)), (3, .int (nI r))]) rfl ?_
  refine xx_iload_n dX9_enter_56 rfl ?_
  refine xx_if_ne (tgt := 65) dX9_enter_57 (by decide) (fun j57 => ?_) (fun j57 => ?_)
  · have j57 : ¬ tt = 0 := fun hq9 => j57 ((nI_eq (a := tt) (b := 0) (by omega) (by omega)).mpr hq9)
    refine xx_bipush (v := 27) dX9_enter_65 (by decide) ?_
    refine xx_eqi (y := nI (26 + tt)) (by rw [show tt = 1 by omega]; rfl) ?_
    refine xx_istore dX9_enter_67 (by decide) ?_
    refine xx_clv (lv2 := [(0, .ref b), (1, .int (nI tt)), (2, .int (nI e)), (3, .int (nI r)), (4, .int (nI (26 + tt)))]) rfl ?_
    refine xx_aload_n dX9_enter_69 rfl ?_
    refine xx_aload_n dX9_enter_70 rfl ?_
    refine xx_iload_n dX9_enter_71 rfl ?_
    refine xx_iload_n dX9_enter_72 rfl ?_
    refine xx_iload_n dX9_enter_73 rfl ?_
    refine xx_callV (N := mX9_cell) (vs := [.int (nI tt), .int (nI r), .int (nI e)]) (b := b) (rest := [.ref b]) (d2 := 0) (c2 := 0) (s2 := 0) (c3 := 0) (s3 := 0) dX9_enter_74 wm_X9_151 wi_X9_cell wv_X9_cell (k := 9) rfl (by decide) hb2 nX9_cell ⟨pX9_cell, Nat.le_of_ble_eq_true rfl, by decide, Nat.le_of_ble_eq_true rfl, by decide, by decide⟩ (c_X9_cell (tt := tt) (r := r) (c := e) hb2 (by omega) (by omega) (by omega)) (fun v9 B9 hC => ?_) (fun E9 B9 hC => absurd hC.1 (by simp))
    obtain ⟨hv9, e9⟩ := hC
    cases hv9
    refine xx_cst (st2 := [.int (nI (yy_tb tt + 13 * r + e)), .ref b]) rfl ?_
    rw [e9]
    refine xx_bipush (v := 18) dX9_enter_77 (by decide) ?_
    refine xx_cst (st2 := [.int (nI 18), .int (nI (yy_tb tt + 13 * r + e)), .ref b]) rfl ?_
    have c1 := c_X9_copy (G := G) (l := l) (x := yy_tb tt + 13 * r + e) (a := 18) hb2 y2.1 (by omega) (by decide) (by omega)
    rw [n1] at c1
    refine xx_callV (N := mX9_copy) (vs := [.int (nI (yy_tb tt + 13 * r + e)), .int (nI 18)]) (b := b) (rest := []) (d2 := 0) (c2 := 0) (s2 := 0) (c3 := 0) (s3 := 0) dX9_enter_79 wm_X9_98 wi_X9_copy wv_X9_copy (k := 9) rfl (by decide) hb2 nX9_copy ⟨pX9_copy, Nat.le_of_ble_eq_true rfl, by decide, Nat.le_of_ble_eq_true rfl, by decide, by decide⟩ (c1) (fun v9 D hC => ?_) (fun E9 B9 hC => absurd hC.1 (by simp))
    obtain ⟨hv8, k1, k2, k3⟩ := hC
    cases hv8
    refine xx_cst (st2 := []) rfl ?_
    refine xx_iconst (v := 0) dX9_enter_82 (by decide) ?_
    refine xx_istore dX9_enter_83 (by decide) ?_
    refine xx_clv (lv2 := [(0, .ref b), (1, .int (nI tt)), (2, .int (nI e)), (3, .int (nI r)), (4, .int (nI (26 + tt))), (5, .int 0)]) rfl ?_
    refine xx_clv (lv2 := [(0, .ref b), (1, .int (nI tt)), (2, .int (nI e)), (3, .int (nI r)), (4, .int (nI (26 + tt))), (5, .int (nI 0))]) rfl ?_
    refine l_X9_eo (N := N) hb ht hR hmn he hB hm hn hmn2 hr9 hd hB2 hR2 (fun E N3 z1 z2 z3 z4 z6 z7 z8 => ?_) R 0 (by omega) D _ (by omega) (y2.set k2 k3) (fun q a c b9 => ?_) yy_un_s ?_ (fun q a1 a2 a3 a4 => (yy_un_n a2).trans (y3 q (by omega))) (fun q a1 a2 a3 a4 a5 => (k3 q a1 a2 a3).trans (y4 q a1 a2 a3 a4 a5))
    rotate_left
    · rw [yy_un_n (by omega), y3 _ (by omega), hT.1 q a c b9]; unfold ye_w; rw [if_neg (by omega)]
    · rw [yy_un_n (by omega), y3 _ (by omega)]; exact hT.2
    have hb4 := (z8 b (by omega) (by omega) (by omega) (by omega) (by omega)).trans hb
    have hbs4 := (z8 (b + 12) (by omega) (by omega) (by omega) (by omega) (by omega)).trans hbs
    refine xx_aload_n dX9_enter_180 rfl ?_
    refine xx_bipush (v := 18) dX9_enter_181 (by decide) ?_
    refine xx_iload dX9_enter_183 rfl ?_
    refine xx_cst (st2 := [.int (nI (26 + tt)), .int (nI 18), .ref b]) rfl ?_
    have c2 := c_X9_copy (G := G) (l := l) (x := 18) (a := 26 + tt) hb4 z2.1 (by decide) (by omega) (by omega)
    rw [z4] at c2
    refine xx_callV (N := mX9_copy) (vs := [.int (nI 18), .int (nI (26 + tt))]) (b := b) (rest := []) (d2 := 0) (c2 := 0) (s2 := 0) (c3 := 0) (s3 := 0) dX9_enter_185 wm_X9_98 wi_X9_copy wv_X9_copy (k := 9) rfl (by decide) hb4 nX9_copy ⟨pX9_copy, Nat.le_of_ble_eq_true rfl, by decide, Nat.le_of_ble_eq_true rfl, by decide, by decide⟩ (c2) (fun v9 F hC => ?_) (fun E9 B9 hC => absurd hC.1 (by simp))
    obtain ⟨hv7, m1, m2, m3⟩ := hC
    cases hv7
    refine xx_cst (st2 := []) rfl ?_
    have hb5 := (m3 b (by omega) (by omega) (by omega)).trans hb4
    have hbs5 := (m3 (b + 12) (by omega) (by omega) (by omega)).trans hbs4
    refine xx_aload_n dX9_enter_188 rfl ?_
    refine xx_get xx_c9 dX9_enter_189 wf_X9_48 (j := 18) (by decide) hb5 rfl ?_
    refine xx_bipush (v := 6) dX9_enter_192 (by decide) ?_
    refine xx_iload_n dX9_enter_194 rfl ?_
    refine xx_imul dX9_enter_195 ?_
    refine xx_eqi (y := nI (6 * tt)) (pk_mul 6 tt) ?_
    refine xx_iload_n dX9_enter_196 rfl ?_
    refine xx_iadd dX9_enter_197 ?_
    refine xx_eqi (y := nI (6 * tt + r)) (nI_add (6 * tt) r) ?_
    refine xx_iald dX9_enter_198 hbs5 (vp_in_nI (by omega) (by decide)) ?_
    refine xx_eqi (y := nI gone) (by rw [nI_clamp (by omega)]; exact hg) ?_
    refine xx_istore dX9_enter_199 (by decide) ?_
    refine xx_clv (lv2 := [(0, .ref b), (1, .int (nI tt)), (2, .int (nI e)), (3, .int (nI r)), (4, .int (nI (26 + tt))), (5, .int (nI gone))]) rfl ?_
    refine xx_aload_n dX9_enter_201 rfl ?_
    refine xx_get xx_c9 dX9_enter_202 wf_X9_48 (j := 18) (by decide) hb5 rfl ?_
    refine xx_bipush (v := 6) dX9_enter_205 (by decide) ?_
    refine xx_iload_n dX9_enter_207 rfl ?_
    refine xx_imul dX9_enter_208 ?_
    refine xx_eqi (y := nI (6 * tt)) (pk_mul 6 tt) ?_
    refine xx_iload_n dX9_enter_209 rfl ?_
    refine xx_iadd dX9_enter_210 ?_
    refine xx_eqi (y := nI (6 * tt + r)) (nI_add (6 * tt) r) ?_
    refine xx_iload_n dX9_enter_211 rfl ?_
    refine xx_iast dX9_enter_212 hbs5 (vp_in_nI (by omega) (by decide)) (xx_gu fun H t1 t2 t3 => ?_)
    rw [nI_clamp (by omega)] at t2
    refine xx_iload dX9_enter_213 rfl ?_
    have w5 := z2.set m2 m3
    refine xx_iret dX9_enter_215 rfl ⟨rfl, by omega, ⟨_, w5.to (t3 _ (by omega)) (t3 _ (by omega)) (t3 _ (by omega)) (t3 _ (by omega)) (t3 _ (by omega)), ⟨fun k9 a c b9 => ?_, yy_un_s⟩, fun q a1 a2 a3 a4 a5 => (yy_un_n a4).trans (z7 q a1 a2 a3 a5)⟩, t2, fun q a1 a2 a3 a4 a5 a6 => (t3 q a4).trans ((m3 q a1 a2 a3).trans (z8 q a1 a2 a3 a5 a6))⟩
    rw [yy_un_n (by omega), z3 k9 a c b9]
    unfold ye_w
    rw [if_pos (Or.inl a)]
  · have j57 : tt = 0 := (nI_eq (a := tt) (b := 0) (by omega) (by omega)).mp j57
    refine xx_bipush (v := 26) dX9_enter_60 (by decide) ?_
    refine xx_goto (tgt := 67) dX9_enter_62 (by decide) ?_
    refine xx_eqi (y := nI (26 + tt)) (by rw [show tt = 0 by omega]; rfl) ?_
    refine xx_istore dX9_enter_67 (by decide) ?_
    refine xx_clv (lv2 := [(0, .ref b), (1, .int (nI tt)), (2, .int (nI e)), (3, .int (nI r)), (4, .int (nI (26 + tt)))]) rfl ?_
    refine xx_aload_n dX9_enter_69 rfl ?_
    refine xx_aload_n dX9_enter_70 rfl ?_
    refine xx_iload_n dX9_enter_71 rfl ?_
    refine xx_iload_n dX9_enter_72 rfl ?_
    refine xx_iload_n dX9_enter_73 rfl ?_
    refine xx_callV (N := mX9_cell) (vs := [.int (nI tt), .int (nI r), .int (nI e)]) (b := b) (rest := [.ref b]) (d2 := 0) (c2 := 0) (s2 := 0) (c3 := 0) (s3 := 0) dX9_enter_74 wm_X9_151 wi_X9_cell wv_X9_cell (k := 9) rfl (by decide) hb2 nX9_cell ⟨pX9_cell, Nat.le_of_ble_eq_true rfl, by decide, Nat.le_of_ble_eq_true rfl, by decide, by decide⟩ (c_X9_cell (tt := tt) (r := r) (c := e) hb2 (by omega) (by omega) (by omega)) (fun v9 B9 hC => ?_) (fun E9 B9 hC => absurd hC.1 (by simp))
    obtain ⟨hv9, e9⟩ := hC
    cases hv9
    refine xx_cst (st2 := [.int (nI (yy_tb tt + 13 * r + e)), .ref b]) rfl ?_
    rw [e9]
    refine xx_bipush (v := 18) dX9_enter_77 (by decide) ?_
    refine xx_cst (st2 := [.int (nI 18), .int (nI (yy_tb tt + 13 * r + e)), .ref b]) rfl ?_
    have c1 := c_X9_copy (G := G) (l := l) (x := yy_tb tt + 13 * r + e) (a := 18) hb2 y2.1 (by omega) (by decide) (by omega)
    rw [n1] at c1
    refine xx_callV (N := mX9_copy) (vs := [.int (nI (yy_tb tt + 13 * r + e)), .int (nI 18)]) (b := b) (rest := []) (d2 := 0) (c2 := 0) (s2 := 0) (c3 := 0) (s3 := 0) dX9_enter_79 wm_X9_98 wi_X9_copy wv_X9_copy (k := 9) rfl (by decide) hb2 nX9_copy ⟨pX9_copy, Nat.le_of_ble_eq_true rfl, by decide, Nat.le_of_ble_eq_true rfl, by decide, by decide⟩ (c1) (fun v9 D hC => ?_) (fun E9 B9 hC => absurd hC.1 (by simp))
    obtain ⟨hv8, k1, k2, k3⟩ := hC
    cases hv8
    refine xx_cst (st2 := []) rfl ?_
    refine xx_iconst (v := 0) dX9_enter_82 (by decide) ?_
    refine xx_istore dX9_enter_83 (by decide) ?_
    refine xx_clv (lv2 := [(0, .ref b), (1, .int (nI tt)), (2, .int (nI e)), (3, .int (nI r)), (4, .int (nI (26 + tt))), (5, .int 0)]) rfl ?_
    refine xx_clv (lv2 := [(0, .ref b), (1, .int (nI tt)), (2, .int (nI e)), (3, .int (nI r)), (4, .int (nI (26 + tt))), (5, .int (nI 0))]) rfl ?_
    refine l_X9_eo (N := N) hb ht hR hmn he hB hm hn hmn2 hr9 hd hB2 hR2 (fun E N3 z1 z2 z3 z4 z6 z7 z8 => ?_) R 0 (by omega) D _ (by omega) (y2.set k2 k3) (fun q a c b9 => ?_) yy_un_s ?_ (fun q a1 a2 a3 a4 => (yy_un_n a2).trans (y3 q (by omega))) (fun q a1 a2 a3 a4 a5 => (k3 q a1 a2 a3).trans (y4 q a1 a2 a3 a4 a5))
    rotate_left
    · rw [yy_un_n (by omega), y3 _ (by omega), hT.1 q a c b9]; unfold ye_w; rw [if_neg (by omega)]
    · rw [yy_un_n (by omega), y3 _ (by omega)]; exact hT.2
    have hb4 := (z8 b (by omega) (by omega) (by omega) (by omega) (by omega)).trans hb
    have hbs4 := (z8 (b + 12) (by omega) (by omega) (by omega) (by omega) (by omega)).trans hbs
    refine xx_aload_n dX9_enter_180 rfl ?_
    refine xx_bipush (v := 18) dX9_enter_181 (by decide) ?_
    refine xx_iload dX9_enter_183 rfl ?_
    refine xx_cst (st2 := [.int (nI (26 + tt)), .int (nI 18), .ref b]) rfl ?_
    have c2 := c_X9_copy (G := G) (l := l) (x := 18) (a := 26 + tt) hb4 z2.1 (by decide) (by omega) (by omega)
    rw [z4] at c2
    refine xx_callV (N := mX9_copy) (vs := [.int (nI 18), .int (nI (26 + tt))]) (b := b) (rest := []) (d2 := 0) (c2 := 0) (s2 := 0) (c3 := 0) (s3 := 0) dX9_enter_185 wm_X9_98 wi_X9_copy wv_X9_copy (k := 9) rfl (by decide) hb4 nX9_copy ⟨pX9_copy, Nat.le_of_ble_eq_true rfl, by decide, Nat.le_of_ble_eq_true rfl, by decide, by decide⟩ (c2) (fun v9 F hC => ?_) (fun E9 B9 hC => absurd hC.1 (by simp))
    obtain ⟨hv7, m1, m2, m3⟩ := hC
    cases hv7
    refine xx_cst (st2 := []) rfl ?_
    have hb5 := (m3 b (by omega) (by omega) (by omega)).trans hb4
    have hbs5 := (m3 (b + 12) (by omega) (by omega) (by omega)).trans hbs4
    refine xx_aload_n dX9_enter_188 rfl ?_
    refine xx_get xx_c9 dX9_enter_189 wf_X9_48 (j := 18) (by decide) hb5 rfl ?_
    refine xx_bipush (v := 6) dX9_enter_192 (by decide) ?_
    refine xx_iload_n dX9_enter_194 rfl ?_
    refine xx_imul dX9_enter_195 ?_
    refine xx_eqi (y := nI (6 * tt)) (pk_mul 6 tt) ?_
    refine xx_iload_n dX9_enter_196 rfl ?_
    refine xx_iadd dX9_enter_197 ?_
    refine xx_eqi (y := nI (6 * tt + r)) (nI_add (6 * tt) r) ?_
    refine xx_iald dX9_enter_198 hbs5 (vp_in_nI (by omega) (by decide)) ?_
    refine xx_eqi (y := nI gone) (by rw [nI_clamp (by omega)]; exact hg) ?_
    refine xx_istore dX9_enter_199 (by decide) ?_
    refine xx_clv (lv2 := [(0, .ref b), (1, .int (nI tt)), (2, .int (nI e)), (3, .int (nI r)), (4, .int (nI (26 + tt))), (5, .int (nI gone))]) rfl ?_
    refine xx_aload_n dX9_enter_201 rfl ?_
    refine xx_get xx_c9 dX9_enter_202 wf_X9_48 (j := 18) (by decide) hb5 rfl ?_
    refine xx_bipush (v := 6) dX9_enter_205 (by decide) ?_
    refine xx_iload_n dX9_enter_207 rfl ?_
    refine xx_imul dX9_enter_208 ?_
    refine xx_eqi (y := nI (6 * tt)) (pk_mul 6 tt) ?_
    refine xx_iload_n dX9_enter_209 rfl ?_
    refine xx_iadd dX9_enter_210 ?_
    refine xx_eqi (y := nI (6 * tt + r)) (nI_add (6 * tt) r) ?_
    refine xx_iload_n dX9_enter_211 rfl ?_
    refine xx_iast dX9_enter_212 hbs5 (vp_in_nI (by omega) (by decide)) (xx_gu fun H t1 t2 t3 => ?_)
    rw [nI_clamp (by omega)] at t2
    refine xx_iload dX9_enter_213 rfl ?_
    have w5 := z2.set m2 m3
    refine xx_iret dX9_enter_215 rfl ⟨rfl, by omega, ⟨_, w5.to (t3 _ (by omega)) (t3 _ (by omega)) (t3 _ (by omega)) (t3 _ (by omega)) (t3 _ (by omega)), ⟨fun k9 a c b9 => ?_, yy_un_s⟩, fun q a1 a2 a3 a4 a5 => (yy_un_n a4).trans (z7 q a1 a2 a3 a5)⟩, t2, fun q a1 a2 a3 a4 a5 a6 => (t3 q a4).trans ((m3 q a1 a2 a3).trans (z8 q a1 a2 a3 a5 a6))⟩
    rw [yy_un_n (by omega), z3 k9 a c b9]
    unfold ye_w
    rw [if_pos (Or.inl a)]
