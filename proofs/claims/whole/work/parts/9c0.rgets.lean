/-! ===== the reference's rowGets, ownGets, best ===== -/
/-- a strategy's numbers stand at w -/
def xx_pl (N : Nat → Int) (w : Nat) (X : Nat → Nat → Int) (t : Nat → Int) : Prop := (∀ q, q < 2 → ∀ k, k < 6 → N (w + 6 * q + k) = X q k) ∧ ∀ q, q < 2 → N (w + 12 + q) = t q
theorem xx_pl.to {N N2 : Nat → Int} {w : Nat} {X : Nat → Nat → Int} {t : Nat → Int} (h : xx_pl N w X t) (hq : ∀ r, w ≤ r → r < w + 14 → N2 r = N r) : xx_pl N2 w X t := ⟨fun q hq9 k hk => (hq _ (by omega) (by omega)).trans (h.1 q hq9 k hk), fun q hq9 => (hq _ (by omega) (by omega)).trans (h.2 q hq9)⟩
theorem yy_p2 {v : Int} (h : v.natAbs ≤ 277172280) : v.natAbs < 65536 ^ 2 := Nat.lt_of_le_of_lt h (by decide)
theorem yy_p38w {v : Int} (h : v.natAbs < 2 ^ 192) : v.natAbs < 65536 ^ 38 := Nat.lt_trans h (by decide +kernel)
theorem yy_p15 {v : Int} (h : v.natAbs < 2 ^ 224) : v.natAbs < 65536 ^ 15 := Nat.lt_trans h (by decide +kernel)
theorem yy_p25 {v : Int} (h : v.natAbs < 2 ^ 195) : v.natAbs < 65536 ^ 25 := Nat.lt_trans h (by decide +kernel)
theorem yy_p25b {v : Int} (h : v.natAbs < 2 ^ 192) : v.natAbs < 65536 ^ 25 := Nat.lt_trans h (by decide +kernel)
theorem yy_p39a {v : Int} (h : v.natAbs < 2 ^ 224) : v.natAbs < 65536 ^ 39 := Nat.lt_trans h (by decide +kernel)
theorem yy_p39b {v : Int} (h : v.natAbs ≤ 2 ^ 221) : v.natAbs < 65536 ^ 39 := Nat.lt_of_le_of_lt h (by decide +kernel)
theorem yy_p39c {v : Int} (h : v.natAbs ≤ 2 ^ 416) : v.natAbs < 65536 ^ 39 := Nat.lt_of_le_of_lt h (by decide +kernel)
theorem yy_p39d {v : Int} (h : v.natAbs < 2 ^ 419) : v.natAbs < 65536 ^ 39 := Nat.lt_trans h (by decide +kernel)
theorem yo_w_r {B : xx_H} {b m n p : Nat} {W : Nat → Nat → Nat → Int} {le : Nat → Int} {mu : Nat → Nat} (h : xx_rp B b m n W le mu) (hp : p < 2) : ∀ i, i < yy_cn m n p → ∀ j, j < yy_cn m n (1 - p) → (yo_w W p i j).natAbs ≤ 277172280 := by
  intro i hi j hj
  unfold yo_w
  unfold yy_cn at hi hj
  by_cases z : p = 0
  · rw [if_pos z]
    rw [if_pos z] at hi
    rw [if_neg (by omega)] at hj
    exact h.2.2.2.1 0 (by decide) i hi j hj
  · rw [if_neg z]
    rw [if_neg z] at hi
    rw [if_pos (by omega)] at hj
    exact h.2.2.2.1 1 (by decide) j hj i hi
set_option maxRecDepth 100000 in
theorem l_X9_rg0 {G : xx_G} {l : Launch} {A : xx_H} {b : Nat} {th hr st hl en tu : Value} {m n : Nat} {N : Nat → Int} {W : Nat → Nat → Nat → Int} {le : Nat → Int} {mu : Nat → Nat} {X : Nat → Nat → Int} {t : Nat → Int} {w : Nat} {r to9 : Nat} {Q : Option Value ⊕ String → xx_H → Prop} (hb : A.2 b = xx_o 9 (xx_mf b th (.int (nI m)) (.int (nI n)) hr st hl en tu)) (hP : xx_rp A b m n W le mu) (hm : m ≤ 6) (hn : n ≤ 6) (hw : 300 ≤ w) (hw2 : w + 14 ≤ 1740) (hL : xx_pl N w X t) (hX : ∀ q, q < 2 → ∀ k, k < 6 → (X q k).natAbs < 2 ^ 192) (hr : r < m) (k : ∀ (B : xx_H) (N2 : Nat → Int), (B.1 = A.1) → (xx_rw B b N2) → (N2 29 = yd_s n (fun k => yo_w W 0 r k * X 1 k)) → (∀ q, q ≠ 10 → q ≠ 11 → q ≠ 29 → N2 q = N q) → (∀ q, q ≠ b + 1 → q ≠ b + 2 → q ≠ b + 3 → q ≠ b + 17 → q ≠ b + 18 → B.2 q = A.2 q) → xx_X G l mX9_rowGets 3 0 0 103 [(0, .ref b), (4, .int (nI to9))] [] B Q) :
    ∀ (v i : Nat), i + v = n → ∀ (B : xx_H) (N2 : Nat → Int), (B.1 = A.1) → (xx_rw B b N2) → (N2 29 = yd_s i (fun k => yo_w W 0 r k * X 1 k)) → (∀ q, q ≠ 10 → q ≠ 11 → q ≠ 29 → N2 q = N q) → (∀ q, q ≠ b + 1 → q ≠ b + 2 → q ≠ b + 3 → q ≠ b + 17 → q ≠ b + 18 → B.2 q = A.2 q) → xx_X G l mX9_rowGets 3 0 0 10 [(0, .ref b), (1, .int (nI w)), (2, .int 0), (3, .int (nI r)), (4, .int (nI to9)), (5, .int (nI i))] [] B Q := by
  obtain ⟨⟨f, f1, f2⟩, _, _, wb, _⟩ := id hP
  have wo := yo_w_r (p := 0) hP (by decide)
  have wo : ∀ i, i < m → ∀ j, j < n → (yo_w W 0 i j).natAbs ≤ 277172280 := wo
  intro v
  induction v with
  | zero =>
    intro i h9i B N2 y1 y2 y3 y4 y5
    have h9e : n = i := by omega
    subst h9e
    have hb2 := (y5 b (by omega) (by omega) (by omega) (by omega) (by omega)).trans hb
    refine xx_clv (lv2 := [(0, .ref b), (1, .int (nI w)), (2, .int 0), (3, .int (nI r)), (4, .int (nI to9)), (5, .int (nI n))]) rfl ?_
    refine xx_iload dX9_rowGets_10 rfl ?_
    refine xx_iload_n dX9_rowGets_12 rfl ?_
    refine xx_if_ne (tgt := 23) dX9_rowGets_13 (by decide) (fun h => absurd rfl h) (fun j13 => ?_)
    refine xx_aload_n dX9_rowGets_16 rfl ?_
    refine xx_get xx_c9 dX9_rowGets_17 wf_X9_123 (j := 5) (by decide) hb2 rfl ?_
    refine xx_goto (tgt := 27) dX9_rowGets_20 (by decide) ?_
    refine xx_icmp_ge (tgt := 103) dX9_rowGets_27 (by decide) (fun j27 => ?_) (fun h => absurd (Int32.le_refl _) h)
    refine xx_less [0, 4] ?_
    refine xx_clv (lv2 := [(0, .ref b), (4, .int (nI to9))]) rfl ?_
    exact k B N2 y1 y2 y3 y4 y5
  | succ v ih =>
    intro i h9i B N2 y1 y2 y3 y4 y5
    have hb2 := (y5 b (by omega) (by omega) (by omega) (by omega) (by omega)).trans hb
    have wb9 := wo r hr i (by omega)
    have p9 : (yo_w W 0 r i * X 1 i).natAbs ≤ 2 ^ 221 := yy_v192 wb9 (hX 1 (by decide) i (by omega))
    have s9 : (yd_s i (fun k => yo_w W 0 r k * X 1 k)).natAbs < 2 ^ 224 := yy_v224 (by omega) (fun k hk => yy_v192 (wo r hr k (by omega)) (hX 1 (by decide) k (by omega)))
    refine xx_iload dX9_rowGets_10 rfl ?_
    refine xx_iload_n dX9_rowGets_12 rfl ?_
    refine xx_if_ne (tgt := 23) dX9_rowGets_13 (by decide) (fun h => absurd rfl h) (fun j13 => ?_)
    refine xx_aload_n dX9_rowGets_16 rfl ?_
    refine xx_get xx_c9 dX9_rowGets_17 wf_X9_123 (j := 5) (by decide) hb2 rfl ?_
    refine xx_goto (tgt := 27) dX9_rowGets_20 (by decide) ?_
    refine xx_icmp_ge (tgt := 103) dX9_rowGets_27 (by decide) (fun h => absurd h (nI_ge (a := i) (b := n) (by omega) (by omega))) (fun j27 => ?_)
    refine xx_aload_n dX9_rowGets_30 rfl ?_
    refine xx_bipush (v := 10) dX9_rowGets_31 (by decide) ?_
    refine xx_aload_n dX9_rowGets_33 rfl ?_
    refine xx_get xx_c9 dX9_rowGets_34 wf_X9_59 (j := 21) (by decide) hb2 rfl ?_
    refine xx_bipush (v := 36) dX9_rowGets_37 (by decide) ?_
    refine xx_iload_n dX9_rowGets_39 rfl ?_
    refine xx_imul dX9_rowGets_40 ?_
    refine xx_eqi (y := 0) (by decide) ?_
    refine xx_iload_n dX9_rowGets_41 rfl ?_
    refine xx_if_ne (tgt := 55) dX9_rowGets_42 (by decide) (fun h => absurd rfl h) (fun j42 => ?_)
    refine xx_bipush (v := 6) dX9_rowGets_45 (by decide) ?_
    refine xx_iload_n dX9_rowGets_47 rfl ?_
    refine xx_imul dX9_rowGets_48 ?_
    refine xx_eqi (y := nI (6 * r)) (pk_mul 6 r) ?_
    refine xx_iload dX9_rowGets_49 rfl ?_
    refine xx_iadd dX9_rowGets_51 ?_
    refine xx_eqi (y := nI (6 * r + i)) (nI_add (6 * r) i) ?_
    refine xx_goto (tgt := 62) dX9_rowGets_52 (by decide) ?_
    refine xx_iadd dX9_rowGets_62 ?_
    refine xx_eqi (y := nI (0 + (6 * r + i))) (nI_add 0 (6 * r + i)) ?_
    refine xx_lald dX9_rowGets_63 ((y5 (b + 15) (by omega) (by omega) (by omega) (by omega) (by omega)).trans f1) (vp_in_nI (by omega) (by decide)) ?_
    refine xx_eql (y := lz (yo_w W 0 r i)) (by rw [nI_clamp (by omega)]; exact (congrArg f (by omega)).trans (f2 0 (by decide) r hr i (by omega))) ?_
    refine xx_callV (N := mX9_set) (vs := [.int 10, .long (lz (yo_w W 0 r i))]) (b := b) (rest := []) (d2 := 0) (c2 := 0) (s2 := 0) (c3 := 0) (s3 := 0) dX9_rowGets_64 wm_X9_80 wi_X9_set wv_X9_set (k := 9) rfl (by decide) hb2 nX9_set ⟨pX9_set, Nat.le_of_ble_eq_true rfl, by decide, Nat.le_of_ble_eq_true rfl, by decide, by decide⟩ (w_X9_set hb2 y2 (a := 10) (v := yo_w W 0 r i) (by omega) (by omega) (by omega)) (fun v9 Eq1 hC => ?_) (fun E9 B9 hC => absurd hC.1 (by simp))
    obtain ⟨hv9, zq1, ⟨Nq1, hNq1, vq1, fq1⟩, oq1⟩ := hC
    cases hv9
    refine xx_cst (st2 := []) rfl ?_
    have hbq1 := (oq1 b (by omega) (by omega) (by omega) (by omega) (by omega)).trans hb2
    refine xx_aload_n dX9_rowGets_67 rfl ?_
    refine xx_bipush (v := 10) dX9_rowGets_68 (by decide) ?_
    refine xx_iload_n dX9_rowGets_70 rfl ?_
    refine xx_bipush (v := 6) dX9_rowGets_71 (by decide) ?_
    refine xx_iconst (v := 1) dX9_rowGets_73 (by decide) ?_
    refine xx_iload_n dX9_rowGets_74 rfl ?_
    refine xx_isub dX9_rowGets_75 ?_
    refine xx_eqi (y := 1) (by decide) ?_
    refine xx_imul dX9_rowGets_76 ?_
    refine xx_eqi (y := 6) (by decide) ?_
    refine xx_iadd dX9_rowGets_77 ?_
    refine xx_eqi (y := nI (w + 6)) (nI_add w 6) ?_
    refine xx_iload dX9_rowGets_78 rfl ?_
    refine xx_iadd dX9_rowGets_80 ?_
    refine xx_eqi (y := nI (w + 6 + i)) (nI_add (w + 6) i) ?_
    refine xx_bipush (v := 11) dX9_rowGets_81 (by decide) ?_
    have x1 : Nq1 (w + 6 * 1 + i) = X 1 i := (fq1 _ (by omega)).trans ((y4 _ (by omega) (by omega) (by omega)).trans (hL.1 1 (by decide) i (by omega)))
    refine xx_cst (st2 := [.int 11, .int (nI (w + 6 * 1 + i)), .int 10, .ref b]) rfl ?_
    refine xx_callV (N := mX9_times) (vs := [.int 10, .int (nI (w + 6 * 1 + i)), .int 11]) (b := b) (rest := []) (d2 := 1) (c2 := 0) (s2 := 0) (c3 := 0) (s3 := 0) dX9_rowGets_83 wm_X9_104 wi_X9_times wv_X9_times (k := 9) rfl (by decide) hbq1 nX9_times ⟨pX9_times, Nat.le_of_ble_eq_true rfl, by decide, Nat.le_of_ble_eq_true rfl, by decide, by decide⟩ (w_X9_times hbq1 hNq1 (x := 10) (y := w + 6 * 1 + i) (c := 11) (p := 2) (q := 38) (by omega) (by omega) (by omega) (by omega) (by omega) (by decide) (by rw [vq1]; exact yy_p2 wb9) (by rw [x1]; exact yy_p38w (hX 1 (by decide) i (by omega)))) (fun v9 Eq2 hC => ?_) (fun E9 B9 hC => absurd hC.1 (by simp))
    obtain ⟨hv9, zq2, ⟨Nq2, hNq2, vq2, fq2⟩, oq2⟩ := hC
    cases hv9
    refine xx_cst (st2 := []) rfl ?_
    have hbq2 := (oq2 b (by omega) (by omega) (by omega) (by omega) (by omega)).trans hbq1
    refine xx_aload_n dX9_rowGets_86 rfl ?_
    refine xx_bipush (v := 29) dX9_rowGets_87 (by decide) ?_
    refine xx_bipush (v := 11) dX9_rowGets_89 (by decide) ?_
    refine xx_iconst (v := 0) dX9_rowGets_91 (by decide) ?_
    refine xx_bipush (v := 29) dX9_rowGets_92 (by decide) ?_
    have x2 : Nq2 11 = yo_w W 0 r i * X 1 i := by rw [vq2, vq1, x1]
    have x3 : Nq2 29 = yd_s i (fun k => yo_w W 0 r k * X 1 k) := (fq2 _ (by decide)).trans ((fq1 _ (by decide)).trans y3)
    refine xx_cst (st2 := [.int 29, .int (if false then 1 else 0), .int 11, .int 29, .ref b]) rfl ?_
    refine xx_callV (N := mX9_add) (vs := [.int 29, .int 11, .int (if false then 1 else 0), .int 29]) (b := b) (rest := []) (d2 := 2) (c2 := 0) (s2 := 0) (c3 := 0) (s3 := 0) dX9_rowGets_94 wm_X9_108 wi_X9_add wv_X9_add (k := 9) rfl (by decide) hbq2 nX9_add ⟨pX9_add, Nat.le_of_ble_eq_true rfl, by decide, Nat.le_of_ble_eq_true rfl, by decide, by decide⟩ (w_X9_add hbq2 hNq2 (x := 29) (y := 11) (c := 29) (mn := false) (by omega) (by omega) (by omega) (by rw [x3]; exact yy_p39a s9) (by rw [x2]; exact yy_p39b p9)) (fun v9 Eq3 hC => ?_) (fun E9 B9 hC => absurd hC.1 (by simp))
    obtain ⟨hv9, zq3, ⟨Nq3, hNq3, vq3, fq3⟩, oq3⟩ := hC
    cases hv9
    refine xx_cst (st2 := []) rfl ?_
    have hbq3 := (oq3 b (by omega) (by omega) (by omega) (by omega) (by omega)).trans hbq2
    refine xx_iinc (v := nI (i + 1)) dX9_rowGets_97 rfl (nI_1 i) (by decide) ?_
    refine xx_clv (lv2 := [(0, .ref b), (1, .int (nI w)), (2, .int 0), (3, .int (nI r)), (4, .int (nI to9)), (5, .int (nI (i + 1)))]) rfl ?_
    refine xx_goto (tgt := 10) dX9_rowGets_100 (by decide) ?_
    refine xx_less [0, 1, 2, 3, 4, 5] ?_
    refine xx_clv (lv2 := [(0, .ref b), (1, .int (nI w)), (2, .int 0), (3, .int (nI r)), (4, .int (nI to9)), (5, .int (nI (i + 1)))]) rfl ?_
    refine ih (i + 1) (by omega) Eq3 Nq3 (by omega) hNq3 (by rw [vq3, x3, x2]; rfl) (fun q a1 a2 a3 => (fq3 q a3).trans ((fq2 q a2).trans ((fq1 q a1).trans (y4 q a1 a2 a3)))) (fun q a1 a2 a3 a4 a5 => (oq3 q a1 a2 a3 a4 a5).trans ((oq2 q a1 a2 a3 a4 a5).trans ((oq1 q a1 a2 a3 a4 a5).trans (y5 q a1 a2 a3 a4 a5))))
set_option maxRecDepth 100000 in
theorem l_X9_rg1 {G : xx_G} {l : Launch} {A : xx_H} {b : Nat} {th hr st hl en tu : Value} {m n : Nat} {N : Nat → Int} {W : Nat → Nat → Nat → Int} {le : Nat → Int} {mu : Nat → Nat} {X : Nat → Nat → Int} {t : Nat → Int} {w : Nat} {r to9 : Nat} {Q : Option Value ⊕ String → xx_H → Prop} (hb : A.2 b = xx_o 9 (xx_mf b th (.int (nI m)) (.int (nI n)) hr st hl en tu)) (hP : xx_rp A b m n W le mu) (hm : m ≤ 6) (hn : n ≤ 6) (hw : 300 ≤ w) (hw2 : w + 14 ≤ 1740) (hL : xx_pl N w X t) (hX : ∀ q, q < 2 → ∀ k, k < 6 → (X q k).natAbs < 2 ^ 192) (hr : r < n) (k : ∀ (B : xx_H) (N2 : Nat → Int), (B.1 = A.1) → (xx_rw B b N2) → (N2 29 = yd_s m (fun k => yo_w W 1 r k * X 0 k)) → (∀ q, q ≠ 10 → q ≠ 11 → q ≠ 29 → N2 q = N q) → (∀ q, q ≠ b + 1 → q ≠ b + 2 → q ≠ b + 3 → q ≠ b + 17 → q ≠ b + 18 → B.2 q = A.2 q) → xx_X G l mX9_rowGets 3 0 0 103 [(0, .ref b), (4, .int (nI to9))] [] B Q) :
    ∀ (v i : Nat), i + v = m → ∀ (B : xx_H) (N2 : Nat → Int), (B.1 = A.1) → (xx_rw B b N2) → (N2 29 = yd_s i (fun k => yo_w W 1 r k * X 0 k)) → (∀ q, q ≠ 10 → q ≠ 11 → q ≠ 29 → N2 q = N q) → (∀ q, q ≠ b + 1 → q ≠ b + 2 → q ≠ b + 3 → q ≠ b + 17 → q ≠ b + 18 → B.2 q = A.2 q) → xx_X G l mX9_rowGets 3 0 0 10 [(0, .ref b), (1, .int (nI w)), (2, .int 1), (3, .int (nI r)), (4, .int (nI to9)), (5, .int (nI i))] [] B Q := by
  obtain ⟨⟨f, f1, f2⟩, _, _, wb, _⟩ := id hP
  have wo := yo_w_r (p := 1) hP (by decide)
  have wo : ∀ i, i < n → ∀ j, j < m → (yo_w W 1 i j).natAbs ≤ 277172280 := wo
  intro v
  induction v with
  | zero =>
    intro i h9i B N2 y1 y2 y3 y4 y5
    have h9e : m = i := by omega
    subst h9e
    have hb2 := (y5 b (by omega) (by omega) (by omega) (by omega) (by omega)).trans hb
    refine xx_clv (lv2 := [(0, .ref b), (1, .int (nI w)), (2, .int 1), (3, .int (nI r)), (4, .int (nI to9)), (5, .int (nI m))]) rfl ?_
    refine xx_iload dX9_rowGets_10 rfl ?_
    refine xx_iload_n dX9_rowGets_12 rfl ?_
    refine xx_if_ne (tgt := 23) dX9_rowGets_13 (by decide) (fun j13 => ?_) (fun h => absurd h (by decide))
    refine xx_aload_n dX9_rowGets_23 rfl ?_
    refine xx_get xx_c9 dX9_rowGets_24 wf_X9_120 (j := 4) (by decide) hb2 rfl ?_
    refine xx_icmp_ge (tgt := 103) dX9_rowGets_27 (by decide) (fun j27 => ?_) (fun h => absurd (Int32.le_refl _) h)
    refine xx_less [0, 4] ?_
    refine xx_clv (lv2 := [(0, .ref b), (4, .int (nI to9))]) rfl ?_
    exact k B N2 y1 y2 y3 y4 y5
  | succ v ih =>
    intro i h9i B N2 y1 y2 y3 y4 y5
    have hb2 := (y5 b (by omega) (by omega) (by omega) (by omega) (by omega)).trans hb
    have wb9 := wo r hr i (by omega)
    have p9 : (yo_w W 1 r i * X 0 i).natAbs ≤ 2 ^ 221 := yy_v192 wb9 (hX 0 (by decide) i (by omega))
    have s9 : (yd_s i (fun k => yo_w W 1 r k * X 0 k)).natAbs < 2 ^ 224 := yy_v224 (by omega) (fun k hk => yy_v192 (wo r hr k (by omega)) (hX 0 (by decide) k (by omega)))
    refine xx_iload dX9_rowGets_10 rfl ?_
    refine xx_iload_n dX9_rowGets_12 rfl ?_
    refine xx_if_ne (tgt := 23) dX9_rowGets_13 (by decide) (fun j13 => ?_) (fun h => absurd h (by decide))
    refine xx_aload_n dX9_rowGets_23 rfl ?_
    refine xx_get xx_c9 dX9_rowGets_24 wf_X9_120 (j := 4) (by decide) hb2 rfl ?_
    refine xx_icmp_ge (tgt := 103) dX9_rowGets_27 (by decide) (fun h => absurd h (nI_ge (a := i) (b := m) (by omega) (by omega))) (fun j27 => ?_)
    refine xx_aload_n dX9_rowGets_30 rfl ?_
    refine xx_bipush (v := 10) dX9_rowGets_31 (by decide) ?_
    refine xx_aload_n dX9_rowGets_33 rfl ?_
    refine xx_get xx_c9 dX9_rowGets_34 wf_X9_59 (j := 21) (by decide) hb2 rfl ?_
    refine xx_bipush (v := 36) dX9_rowGets_37 (by decide) ?_
    refine xx_iload_n dX9_rowGets_39 rfl ?_
    refine xx_imul dX9_rowGets_40 ?_
    refine xx_eqi (y := 36) (by decide) ?_
    refine xx_iload_n dX9_rowGets_41 rfl ?_
    refine xx_if_ne (tgt := 55) dX9_rowGets_42 (by decide) (fun j42 => ?_) (fun h => absurd h (by decide))
    refine xx_bipush (v := 6) dX9_rowGets_55 (by decide) ?_
    refine xx_iload dX9_rowGets_57 rfl ?_
    refine xx_imul dX9_rowGets_59 ?_
    refine xx_eqi (y := nI (6 * i)) (pk_mul 6 i) ?_
    refine xx_iload_n dX9_rowGets_60 rfl ?_
    refine xx_iadd dX9_rowGets_61 ?_
    refine xx_eqi (y := nI (6 * i + r)) (nI_add (6 * i) r) ?_
    refine xx_iadd dX9_rowGets_62 ?_
    refine xx_eqi (y := nI (36 + (6 * i + r))) (nI_add 36 (6 * i + r)) ?_
    refine xx_lald dX9_rowGets_63 ((y5 (b + 15) (by omega) (by omega) (by omega) (by omega) (by omega)).trans f1) (vp_in_nI (by omega) (by decide)) ?_
    refine xx_eql (y := lz (yo_w W 1 r i)) (by rw [nI_clamp (by omega)]; exact (congrArg f (by omega)).trans (f2 1 (by decide) i (by omega) r hr)) ?_
    refine xx_callV (N := mX9_set) (vs := [.int 10, .long (lz (yo_w W 1 r i))]) (b := b) (rest := []) (d2 := 0) (c2 := 0) (s2 := 0) (c3 := 0) (s3 := 0) dX9_rowGets_64 wm_X9_80 wi_X9_set wv_X9_set (k := 9) rfl (by decide) hb2 nX9_set ⟨pX9_set, Nat.le_of_ble_eq_true rfl, by decide, Nat.le_of_ble_eq_true rfl, by decide, by decide⟩ (w_X9_set hb2 y2 (a := 10) (v := yo_w W 1 r i) (by omega) (by omega) (by omega)) (fun v9 Eq1 hC => ?_) (fun E9 B9 hC => absurd hC.1 (by simp))
    obtain ⟨hv9, zq1, ⟨Nq1, hNq1, vq1, fq1⟩, oq1⟩ := hC
    cases hv9
    refine xx_cst (st2 := []) rfl ?_
    have hbq1 := (oq1 b (by omega) (by omega) (by omega) (by omega) (by omega)).trans hb2
    refine xx_aload_n dX9_rowGets_67 rfl ?_
    refine xx_bipush (v := 10) dX9_rowGets_68 (by decide) ?_
    refine xx_iload_n dX9_rowGets_70 rfl ?_
    refine xx_bipush (v := 6) dX9_rowGets_71 (by decide) ?_
    refine xx_iconst (v := 1) dX9_rowGets_73 (by decide) ?_
    refine xx_iload_n dX9_rowGets_74 rfl ?_
    refine xx_isub dX9_rowGets_75 ?_
    refine xx_eqi (y := 0) (by decide) ?_
    refine xx_imul dX9_rowGets_76 ?_
    refine xx_eqi (y := 0) (by decide) ?_
    refine xx_iadd dX9_rowGets_77 ?_
    refine xx_eqi (y := nI (w + 0)) (nI_add w 0) ?_
    refine xx_iload dX9_rowGets_78 rfl ?_
    refine xx_iadd dX9_rowGets_80 ?_
    refine xx_eqi (y := nI (w + 0 + i)) (nI_add (w + 0) i) ?_
    refine xx_bipush (v := 11) dX9_rowGets_81 (by decide) ?_
    have x1 : Nq1 (w + 6 * 0 + i) = X 0 i := (fq1 _ (by omega)).trans ((y4 _ (by omega) (by omega) (by omega)).trans (hL.1 0 (by decide) i (by omega)))
    refine xx_cst (st2 := [.int 11, .int (nI (w + 6 * 0 + i)), .int 10, .ref b]) rfl ?_
    refine xx_callV (N := mX9_times) (vs := [.int 10, .int (nI (w + 6 * 0 + i)), .int 11]) (b := b) (rest := []) (d2 := 1) (c2 := 0) (s2 := 0) (c3 := 0) (s3 := 0) dX9_rowGets_83 wm_X9_104 wi_X9_times wv_X9_times (k := 9) rfl (by decide) hbq1 nX9_times ⟨pX9_times, Nat.le_of_ble_eq_true rfl, by decide, Nat.le_of_ble_eq_true rfl, by decide, by decide⟩ (w_X9_times hbq1 hNq1 (x := 10) (y := w + 6 * 0 + i) (c := 11) (p := 2) (q := 38) (by omega) (by omega) (by omega) (by omega) (by omega) (by decide) (by rw [vq1]; exact yy_p2 wb9) (by rw [x1]; exact yy_p38w (hX 0 (by decide) i (by omega)))) (fun v9 Eq2 hC => ?_) (fun E9 B9 hC => absurd hC.1 (by simp))
    obtain ⟨hv9, zq2, ⟨Nq2, hNq2, vq2, fq2⟩, oq2⟩ := hC
    cases hv9
    refine xx_cst (st2 := []) rfl ?_
    have hbq2 := (oq2 b (by omega) (by omega) (by omega) (by omega) (by omega)).trans hbq1
    refine xx_aload_n dX9_rowGets_86 rfl ?_
    refine xx_bipush (v := 29) dX9_rowGets_87 (by decide) ?_
    refine xx_bipush (v := 11) dX9_rowGets_89 (by decide) ?_
    refine xx_iconst (v := 0) dX9_rowGets_91 (by decide) ?_
    refine xx_bipush (v := 29) dX9_rowGets_92 (by decide) ?_
    have x2 : Nq2 11 = yo_w W 1 r i * X 0 i := by rw [vq2, vq1, x1]
    have x3 : Nq2 29 = yd_s i (fun k => yo_w W 1 r k * X 0 k) := (fq2 _ (by decide)).trans ((fq1 _ (by decide)).trans y3)
    refine xx_cst (st2 := [.int 29, .int (if false then 1 else 0), .int 11, .int 29, .ref b]) rfl ?_
    refine xx_callV (N := mX9_add) (vs := [.int 29, .int 11, .int (if false then 1 else 0), .int 29]) (b := b) (rest := []) (d2 := 2) (c2 := 0) (s2 := 0) (c3 := 0) (s3 := 0) dX9_rowGets_94 wm_X9_108 wi_X9_add wv_X9_add (k := 9) rfl (by decide) hbq2 nX9_add ⟨pX9_add, Nat.le_of_ble_eq_true rfl, by decide, Nat.le_of_ble_eq_true rfl, by decide, by decide⟩ (w_X9_add hbq2 hNq2 (x := 29) (y := 11) (c := 29) (mn := false) (by omega) (by omega) (by omega) (by rw [x3]; exact yy_p39a s9) (by rw [x2]; exact yy_p39b p9)) (fun v9 Eq3 hC => ?_) (fun E9 B9 hC => absurd hC.1 (by simp))
    obtain ⟨hv9, zq3, ⟨Nq3, hNq3, vq3, fq3⟩, oq3⟩ := hC
    cases hv9
    refine xx_cst (st2 := []) rfl ?_
    have hbq3 := (oq3 b (by omega) (by omega) (by omega) (by omega) (by omega)).trans hbq2
    refine xx_iinc (v := nI (i + 1)) dX9_rowGets_97 rfl (nI_1 i) (by decide) ?_
    refine xx_clv (lv2 := [(0, .ref b), (1, .int (nI w)), (2, .int 1), (3, .int (nI r)), (4, .int (nI to9)), (5, .int (nI (i + 1)))]) rfl ?_
    refine xx_goto (tgt := 10) dX9_rowGets_100 (by decide) ?_
    refine xx_less [0, 1, 2, 3, 4, 5] ?_
    refine xx_clv (lv2 := [(0, .ref b), (1, .int (nI w)), (2, .int 1), (3, .int (nI r)), (4, .int (nI to9)), (5, .int (nI (i + 1)))]) rfl ?_
    refine ih (i + 1) (by omega) Eq3 Nq3 (by omega) hNq3 (by rw [vq3, x3, x2]; rfl) (fun q a1 a2 a3 => (fq3 q a3).trans ((fq2 q a2).trans ((fq1 q a1).trans (y4 q a1 a2 a3)))) (fun q a1 a2 a3 a4 a5 => (oq3 q a1 a2 a3 a4 a5).trans ((oq2 q a1 a2 a3 a4 a5).trans ((oq1 q a1 a2 a3 a4 a5).trans (y5 q a1 a2 a3 a4 a5))))
set_option maxRecDepth 100000 in
theorem c_X9_rowGets {G : xx_G} {l : Launch} {A : xx_H} {b : Nat} {th hr st hl en tu : Value} {m n : Nat} {N : Nat → Int} {W : Nat → Nat → Nat → Int} {le : Nat → Int} {mu : Nat → Nat} {X : Nat → Nat → Int} {t : Nat → Int} {w : Nat} {p r to9 : Nat} (hb : A.2 b = xx_o 9 (xx_mf b th (.int (nI m)) (.int (nI n)) hr st hl en tu)) (hP : xx_rp A b m n W le mu) (hm : m ≤ 6) (hn : n ≤ 6) (hw : 300 ≤ w) (hw2 : w + 14 ≤ 1740) (hL : xx_pl N w X t) (hX : ∀ q, q < 2 → ∀ k, k < 6 → (X q k).natAbs < 2 ^ 192) (hN : xx_rw A b N) (hp : p < 2) (hr : r < yy_cn m n p) (t9 : to9 < 28) (t10 : 12 ≤ to9) : xx_X G l mX9_rowGets 3 0 0 0 (lv_args 0 [.ref b, .int (nI w), .int (nI p), .int (nI r), .int (nI to9)]) [] A (fun z B => z = .inl none ∧ B.1 = A.1 ∧ (∃ N2, xx_rw B b N2 ∧ N2 to9 = ye_v m n W X p r ∧ ∀ q, q ≠ 10 → q ≠ 11 → q ≠ 29 → q ≠ to9 → N2 q = N q) ∧ ∀ q, q ≠ b + 1 → q ≠ b + 2 → q ≠ b + 3 → q ≠ b + 17 → q ≠ b + 18 → B.2 q = A.2 q) := by
  rcases (show p = 0 ∨ p = 1 by omega) with pz | pz
  · subst pz
    have hr : r < m := hr
    refine xx_clv (lv2 := [(0, .ref b), (1, .int (nI w)), (2, .int 0), (3, .int (nI r)), (4, .int (nI to9))]) rfl ?_
    refine xx_aload_n dX9_rowGets_0 rfl ?_
    refine xx_bipush (v := 29) dX9_rowGets_1 (by decide) ?_
    refine xx_lconst (v := 0) dX9_rowGets_3 (by decide) ?_
    refine xx_eql (y := lz 0) (by decide) ?_
    refine xx_callV (N := mX9_set) (vs := [.int 29, .long (lz 0)]) (b := b) (rest := []) (d2 := 0) (c2 := 0) (s2 := 0) (c3 := 0) (s3 := 0) dX9_rowGets_4 wm_X9_80 wi_X9_set wv_X9_set (k := 9) rfl (by decide) hb nX9_set ⟨pX9_set, Nat.le_of_ble_eq_true rfl, by decide, Nat.le_of_ble_eq_true rfl, by decide, by decide⟩ (w_X9_set hb hN (a := 29) (v := 0) (by omega) (by decide) (by decide)) (fun v9 Eq1 hC => ?_) (fun E9 B9 hC => absurd hC.1 (by simp))
    obtain ⟨hv9, zq1, ⟨Nq1, hNq1, vq1, fq1⟩, oq1⟩ := hC
    cases hv9
    refine xx_cst (st2 := []) rfl ?_
    have hbq1 := (oq1 b (by omega) (by omega) (by omega) (by omega) (by omega)).trans hb
    refine xx_iconst (v := 0) dX9_rowGets_7 (by decide) ?_
    refine xx_istore dX9_rowGets_8 (by decide) ?_
    refine xx_clv (lv2 := [(0, .ref b), (1, .int (nI w)), (2, .int 0), (3, .int (nI r)), (4, .int (nI to9)), (5, .int 0)]) rfl ?_
    refine xx_clv (lv2 := [(0, .ref b), (1, .int (nI w)), (2, .int 0), (3, .int (nI r)), (4, .int (nI to9)), (5, .int (nI 0))]) rfl ?_
    refine l_X9_rg0 (A := Eq1) (N := Nq1) (t := t) hbq1 (hP.to (oq1 _ (by omega) (by omega) (by omega) (by omega) (by omega)) (oq1 _ (by omega) (by omega) (by omega) (by omega) (by omega)) (oq1 _ (by omega) (by omega) (by omega) (by omega) (by omega))) hm hn hw hw2 (hL.to (fun q9 a9 b9 => fq1 q9 (by omega))) hX hr (fun B N2 y1 y2 y3 y4 y5 => ?_) n 0 (by omega) Eq1 Nq1 rfl hNq1 vq1 (fun q _ _ _ => rfl) (fun q _ _ _ _ _ => rfl)
    have hbc := (y5 b (by omega) (by omega) (by omega) (by omega) (by omega)).trans hbq1
    refine xx_aload_n dX9_rowGets_103 rfl ?_
    refine xx_bipush (v := 29) dX9_rowGets_104 (by decide) ?_
    refine xx_iload dX9_rowGets_106 rfl ?_
    refine xx_callV (N := mX9_copy) (vs := [.int 29, .int (nI to9)]) (b := b) (rest := []) (d2 := 0) (c2 := 0) (s2 := 0) (c3 := 0) (s3 := 0) dX9_rowGets_108 wm_X9_98 wi_X9_copy wv_X9_copy (k := 9) rfl (by decide) hbc nX9_copy ⟨pX9_copy, Nat.le_of_ble_eq_true rfl, by decide, Nat.le_of_ble_eq_true rfl, by decide, by decide⟩ (w_X9_copy hbc y2 (x := 29) (a := to9) (by omega) (by omega) (by omega)) (fun v9 Eqc1 hC => ?_) (fun E9 B9 hC => absurd hC.1 (by simp))
    obtain ⟨hv9, zqc1, ⟨Nqc1, hNqc1, vqc1, fqc1⟩, oqc1⟩ := hC
    cases hv9
    refine xx_cst (st2 := []) rfl ?_
    have hbqc1 := (oqc1 b (by omega) (by omega) (by omega) (by omega) (by omega)).trans hbc
    exact xx_vret dX9_rowGets_111 rfl ⟨rfl, by omega, ⟨Nqc1, hNqc1, vqc1.trans y3, fun q a1 a2 a3 a4 => (fqc1 q a4).trans ((y4 q a1 a2 a3).trans (fq1 q a3))⟩, fun q a1 a2 a3 a4 a5 => (oqc1 q a1 a2 a3 a4 a5).trans ((y5 q a1 a2 a3 a4 a5).trans (oq1 q a1 a2 a3 a4 a5))⟩
  · subst pz
    have hr : r < n := hr
    refine xx_clv (lv2 := [(0, .ref b), (1, .int (nI w)), (2, .int 1), (3, .int (nI r)), (4, .int (nI to9))]) rfl ?_
    refine xx_aload_n dX9_rowGets_0 rfl ?_
    refine xx_bipush (v := 29) dX9_rowGets_1 (by decide) ?_
    refine xx_lconst (v := 0) dX9_rowGets_3 (by decide) ?_
    refine xx_eql (y := lz 0) (by decide) ?_
    refine xx_callV (N := mX9_set) (vs := [.int 29, .long (lz 0)]) (b := b) (rest := []) (d2 := 0) (c2 := 0) (s2 := 0) (c3 := 0) (s3 := 0) dX9_rowGets_4 wm_X9_80 wi_X9_set wv_X9_set (k := 9) rfl (by decide) hb nX9_set ⟨pX9_set, Nat.le_of_ble_eq_true rfl, by decide, Nat.le_of_ble_eq_true rfl, by decide, by decide⟩ (w_X9_set hb hN (a := 29) (v := 0) (by omega) (by decide) (by decide)) (fun v9 Eq1 hC => ?_) (fun E9 B9 hC => absurd hC.1 (by simp))
    obtain ⟨hv9, zq1, ⟨Nq1, hNq1, vq1, fq1⟩, oq1⟩ := hC
    cases hv9
    refine xx_cst (st2 := []) rfl ?_
    have hbq1 := (oq1 b (by omega) (by omega) (by omega) (by omega) (by omega)).trans hb
    refine xx_iconst (v := 0) dX9_rowGets_7 (by decide) ?_
    refine xx_istore dX9_rowGets_8 (by decide) ?_
    refine xx_clv (lv2 := [(0, .ref b), (1, .int (nI w)), (2, .int 1), (3, .int (nI r)), (4, .int (nI to9)), (5, .int 0)]) rfl ?_
    refine xx_clv (lv2 := [(0, .ref b), (1, .int (nI w)), (2, .int 1), (3, .int (nI r)), (4, .int (nI to9)), (5, .int (nI 0))]) rfl ?_
    refine l_X9_rg1 (A := Eq1) (N := Nq1) (t := t) hbq1 (hP.to (oq1 _ (by omega) (by omega) (by omega) (by omega) (by omega)) (oq1 _ (by omega) (by omega) (by omega) (by omega) (by omega)) (oq1 _ (by omega) (by omega) (by omega) (by omega) (by omega))) hm hn hw hw2 (hL.to (fun q9 a9 b9 => fq1 q9 (by omega))) hX hr (fun B N2 y1 y2 y3 y4 y5 => ?_) m 0 (by omega) Eq1 Nq1 rfl hNq1 vq1 (fun q _ _ _ => rfl) (fun q _ _ _ _ _ => rfl)
    have hbc := (y5 b (by omega) (by omega) (by omega) (by omega) (by omega)).trans hbq1
    refine xx_aload_n dX9_rowGets_103 rfl ?_
    refine xx_bipush (v := 29) dX9_rowGets_104 (by decide) ?_
    refine xx_iload dX9_rowGets_106 rfl ?_
    refine xx_callV (N := mX9_copy) (vs := [.int 29, .int (nI to9)]) (b := b) (rest := []) (d2 := 0) (c2 := 0) (s2 := 0) (c3 := 0) (s3 := 0) dX9_rowGets_108 wm_X9_98 wi_X9_copy wv_X9_copy (k := 9) rfl (by decide) hbc nX9_copy ⟨pX9_copy, Nat.le_of_ble_eq_true rfl, by decide, Nat.le_of_ble_eq_true rfl, by decide, by decide⟩ (w_X9_copy hbc y2 (x := 29) (a := to9) (by omega) (by omega) (by omega)) (fun v9 Eqc1 hC => ?_) (fun E9 B9 hC => absurd hC.1 (by simp))
    obtain ⟨hv9, zqc1, ⟨Nqc1, hNqc1, vqc1, fqc1⟩, oqc1⟩ := hC
    cases hv9
    refine xx_cst (st2 := []) rfl ?_
    have hbqc1 := (oqc1 b (by omega) (by omega) (by omega) (by omega) (by omega)).trans hbc
    exact xx_vret dX9_rowGets_111 rfl ⟨rfl, by omega, ⟨Nqc1, hNqc1, vqc1.trans y3, fun q a1 a2 a3 a4 => (fqc1 q a4).trans ((y4 q a1 a2 a3).trans (fq1 q a3))⟩, fun q a1 a2 a3 a4 a5 => (oqc1 q a1 a2 a3 a4 a5).trans ((y5 q a1 a2 a3 a4 a5).trans (oq1 q a1 a2 a3 a4 a5))⟩
set_option maxRecDepth 100000 in
theorem l_X9_og0 {G : xx_G} {l : Launch} {A : xx_H} {b : Nat} {th hr st hl en tu : Value} {m n : Nat} {N : Nat → Int} {W : Nat → Nat → Nat → Int} {le : Nat → Int} {mu : Nat → Nat} {X : Nat → Nat → Int} {t : Nat → Int} {w : Nat} {to9 : Nat} {Q : Option Value ⊕ String → xx_H → Prop} (hb : A.2 b = xx_o 9 (xx_mf b th (.int (nI m)) (.int (nI n)) hr st hl en tu)) (hP : xx_rp A b m n W le mu) (hm : m ≤ 6) (hn : n ≤ 6) (hw : 300 ≤ w) (hw2 : w + 14 ≤ 1740) (hL : xx_pl N w X t) (hX : ∀ q, q < 2 → ∀ k, k < 6 → (X q k).natAbs < 2 ^ 192) (k : ∀ (B : xx_H) (N2 : Nat → Int), (B.1 = A.1) → (xx_rw B b N2) → (N2 28 = ye_o m n W X 0 m) → (∀ q, q ≠ 10 → q ≠ 11 → q ≠ 29 → q ≠ 20 → q ≠ 28 → N2 q = N q) → (∀ q, q ≠ b + 1 → q ≠ b + 2 → q ≠ b + 3 → q ≠ b + 17 → q ≠ b + 18 → B.2 q = A.2 q) → xx_X G l mX9_ownGets 4 0 0 74 [(0, .ref b), (3, .int (nI to9))] [] B Q) :
    ∀ (v i : Nat), i + v = m → ∀ (B : xx_H) (N2 : Nat → Int), (B.1 = A.1) → (xx_rw B b N2) → (N2 28 = ye_o m n W X 0 i) → (∀ q, q ≠ 10 → q ≠ 11 → q ≠ 29 → q ≠ 20 → q ≠ 28 → N2 q = N q) → (∀ q, q ≠ b + 1 → q ≠ b + 2 → q ≠ b + 3 → q ≠ b + 17 → q ≠ b + 18 → B.2 q = A.2 q) → xx_X G l mX9_ownGets 4 0 0 10 [(0, .ref b), (1, .int (nI w)), (2, .int 0), (3, .int (nI to9)), (4, .int (nI i))] [] B Q := by
  have wo := yo_w_r (p := 0) hP (by decide)
  intro v
  induction v with
  | zero =>
    intro i h9i B N2 y1 y2 y3 y4 y5
    have h9e : m = i := by omega
    subst h9e
    have hb2 := (y5 b (by omega) (by omega) (by omega) (by omega) (by omega)).trans hb
    refine xx_clv (lv2 := [(0, .ref b), (1, .int (nI w)), (2, .int 0), (3, .int (nI to9)), (4, .int (nI m))]) rfl ?_
    refine xx_iload dX9_ownGets_10 rfl ?_
    refine xx_iload_n dX9_ownGets_12 rfl ?_
    refine xx_if_ne (tgt := 23) dX9_ownGets_13 (by decide) (fun h => absurd rfl h) (fun j13 => ?_)
    refine xx_aload_n dX9_ownGets_16 rfl ?_
    refine xx_get xx_c9 dX9_ownGets_17 wf_X9_120 (j := 4) (by decide) hb2 rfl ?_
    refine xx_goto (tgt := 27) dX9_ownGets_20 (by decide) ?_
    refine xx_icmp_ge (tgt := 74) dX9_ownGets_27 (by decide) (fun j27 => ?_) (fun h => absurd (Int32.le_refl _) h)
    refine xx_less [0, 3] ?_
    refine xx_clv (lv2 := [(0, .ref b), (3, .int (nI to9))]) rfl ?_
    exact k B N2 y1 y2 y3 y4 y5
  | succ v ih =>
    intro i h9i B N2 y1 y2 y3 y4 y5
    have hb2 := (y5 b (by omega) (by omega) (by omega) (by omega) (by omega)).trans hb
    have vb := ye_v_b (p := 0) (r := i) hm hn (by decide) (show i < m by omega) wo hX
    have p9 : (ye_v m n W X 0 i * X 0 i).natAbs ≤ 2 ^ 416 := ye_p_b vb (hX 0 (by decide) i (by omega))
    have s9 : (ye_o m n W X 0 i).natAbs < 2 ^ 419 := ye_s_b (by omega) (fun k hk => ye_p_b (ye_v_b (p := 0) (r := k) hm hn (by decide) (show k < m by omega) wo hX) (hX 0 (by decide) k (by omega)))
    refine xx_iload dX9_ownGets_10 rfl ?_
    refine xx_iload_n dX9_ownGets_12 rfl ?_
    refine xx_if_ne (tgt := 23) dX9_ownGets_13 (by decide) (fun h => absurd rfl h) (fun j13 => ?_)
    refine xx_aload_n dX9_ownGets_16 rfl ?_
    refine xx_get xx_c9 dX9_ownGets_17 wf_X9_120 (j := 4) (by decide) hb2 rfl ?_
    refine xx_goto (tgt := 27) dX9_ownGets_20 (by decide) ?_
    refine xx_icmp_ge (tgt := 74) dX9_ownGets_27 (by decide) (fun h => absurd h (nI_ge (a := i) (b := m) (by omega) (by omega))) (fun j27 => ?_)
    refine xx_aload_n dX9_ownGets_30 rfl ?_
    refine xx_iload_n dX9_ownGets_31 rfl ?_
    refine xx_iload_n dX9_ownGets_32 rfl ?_
    refine xx_iload dX9_ownGets_33 rfl ?_
    refine xx_bipush (v := 20) dX9_ownGets_35 (by decide) ?_
    have hP2 : xx_rp B b m n W le mu := hP.to (y5 _ (by omega) (by omega) (by omega) (by omega) (by omega)) (y5 _ (by omega) (by omega) (by omega) (by omega) (by omega)) (y5 _ (by omega) (by omega) (by omega) (by omega) (by omega))
    have hL2 : xx_pl N2 w X t := hL.to (fun q9 a9 b9 => y4 q9 (by omega) (by omega) (by omega) (by omega) (by omega))
    refine xx_callV (N := mX9_rowGets) (vs := [.int (nI w), .int 0, .int (nI i), .int 20]) (b := b) (rest := []) (d2 := 3) (c2 := 0) (s2 := 0) (c3 := 0) (s3 := 0) dX9_ownGets_37 wm_X9_190 wi_X9_rowGets wv_X9_rowGets (k := 9) rfl (by decide) hb2 nX9_rowGets ⟨pX9_rowGets, Nat.le_of_ble_eq_true rfl, by decide, Nat.le_of_ble_eq_true rfl, by decide, by decide⟩ (c_X9_rowGets (p := 0) (r := i) (to9 := 20) hb2 hP2 hm hn hw hw2 hL2 hX y2 (by decide) (show i < m by omega) (by decide) (by decide)) (fun v9 Eq1 hC => ?_) (fun E9 B9 hC => absurd hC.1 (by simp))
    obtain ⟨hv9, zq1, ⟨Nq1, hNq1, vq1, fq1⟩, oq1⟩ := hC
    cases hv9
    refine xx_cst (st2 := []) rfl ?_
    have hbq1 := (oq1 b (by omega) (by omega) (by omega) (by omega) (by omega)).trans hb2
    refine xx_aload_n dX9_ownGets_40 rfl ?_
    refine xx_bipush (v := 20) dX9_ownGets_41 (by decide) ?_
    refine xx_iload_n dX9_ownGets_43 rfl ?_
    refine xx_bipush (v := 6) dX9_ownGets_44 (by decide) ?_
    refine xx_iload_n dX9_ownGets_46 rfl ?_
    refine xx_imul dX9_ownGets_47 ?_
    refine xx_eqi (y := 0) (by decide) ?_
    refine xx_iadd dX9_ownGets_48 ?_
    refine xx_eqi (y := nI (w + 0)) (nI_add w 0) ?_
    refine xx_iload dX9_ownGets_49 rfl ?_
    refine xx_iadd dX9_ownGets_51 ?_
    refine xx_eqi (y := nI (w + 0 + i)) (nI_add (w + 0) i) ?_
    refine xx_bipush (v := 11) dX9_ownGets_52 (by decide) ?_
    have x1 : Nq1 (w + 6 * 0 + i) = X 0 i := (fq1 _ (by omega) (by omega) (by omega) (by omega)).trans (hL2.1 0 (by decide) i (by omega))
    refine xx_cst (st2 := [.int 11, .int (nI (w + 6 * 0 + i)), .int 20, .ref b]) rfl ?_
    refine xx_callV (N := mX9_times) (vs := [.int 20, .int (nI (w + 6 * 0 + i)), .int 11]) (b := b) (rest := []) (d2 := 1) (c2 := 0) (s2 := 0) (c3 := 0) (s3 := 0) dX9_ownGets_54 wm_X9_104 wi_X9_times wv_X9_times (k := 9) rfl (by decide) hbq1 nX9_times ⟨pX9_times, Nat.le_of_ble_eq_true rfl, by decide, Nat.le_of_ble_eq_true rfl, by decide, by decide⟩ (w_X9_times hbq1 hNq1 (x := 20) (y := w + 6 * 0 + i) (c := 11) (p := 15) (q := 25) (by omega) (by omega) (by omega) (by omega) (by omega) (by decide) (by rw [vq1]; exact yy_p15 vb) (by rw [x1]; exact yy_p25b (hX 0 (by decide) i (by omega)))) (fun v9 Eq2 hC => ?_) (fun E9 B9 hC => absurd hC.1 (by simp))
    obtain ⟨hv9, zq2, ⟨Nq2, hNq2, vq2, fq2⟩, oq2⟩ := hC
    cases hv9
    refine xx_cst (st2 := []) rfl ?_
    have hbq2 := (oq2 b (by omega) (by omega) (by omega) (by omega) (by omega)).trans hbq1
    refine xx_aload_n dX9_ownGets_57 rfl ?_
    refine xx_bipush (v := 28) dX9_ownGets_58 (by decide) ?_
    refine xx_bipush (v := 11) dX9_ownGets_60 (by decide) ?_
    refine xx_iconst (v := 0) dX9_ownGets_62 (by decide) ?_
    refine xx_bipush (v := 28) dX9_ownGets_63 (by decide) ?_
    have x2 : Nq2 11 = ye_v m n W X 0 i * X 0 i := by rw [vq2, vq1, x1]
    have x3 : Nq2 28 = ye_o m n W X 0 i := (fq2 _ (by decide)).trans ((fq1 _ (by decide) (by decide) (by decide) (by decide)).trans y3)
    refine xx_cst (st2 := [.int 28, .int (if false then 1 else 0), .int 11, .int 28, .ref b]) rfl ?_
    refine xx_callV (N := mX9_add) (vs := [.int 28, .int 11, .int (if false then 1 else 0), .int 28]) (b := b) (rest := []) (d2 := 2) (c2 := 0) (s2 := 0) (c3 := 0) (s3 := 0) dX9_ownGets_65 wm_X9_108 wi_X9_add wv_X9_add (k := 9) rfl (by decide) hbq2 nX9_add ⟨pX9_add, Nat.le_of_ble_eq_true rfl, by decide, Nat.le_of_ble_eq_true rfl, by decide, by decide⟩ (w_X9_add hbq2 hNq2 (x := 28) (y := 11) (c := 28) (mn := false) (by omega) (by omega) (by omega) (by rw [x3]; exact yy_p39d s9) (by rw [x2]; exact yy_p39c p9)) (fun v9 Eq3 hC => ?_) (fun E9 B9 hC => absurd hC.1 (by simp))
    obtain ⟨hv9, zq3, ⟨Nq3, hNq3, vq3, fq3⟩, oq3⟩ := hC
    cases hv9
    refine xx_cst (st2 := []) rfl ?_
    have hbq3 := (oq3 b (by omega) (by omega) (by omega) (by omega) (by omega)).trans hbq2
    refine xx_iinc (v := nI (i + 1)) dX9_ownGets_68 rfl (nI_1 i) (by decide) ?_
    refine xx_clv (lv2 := [(0, .ref b), (1, .int (nI w)), (2, .int 0), (3, .int (nI to9)), (4, .int (nI (i + 1)))]) rfl ?_
    refine xx_goto (tgt := 10) dX9_ownGets_71 (by decide) ?_
    refine xx_less [0, 1, 2, 3, 4] ?_
    refine xx_clv (lv2 := [(0, .ref b), (1, .int (nI w)), (2, .int 0), (3, .int (nI to9)), (4, .int (nI (i + 1)))]) rfl ?_
    refine ih (i + 1) (by omega) Eq3 Nq3 (by omega) hNq3 (by rw [vq3, x3, x2]; rfl) (fun q a1 a2 a3 a4 a5 => (fq3 q a5).trans ((fq2 q a2).trans ((fq1 q a1 a2 a3 a4).trans (y4 q a1 a2 a3 a4 a5)))) (fun q a1 a2 a3 a4 a5 => (oq3 q a1 a2 a3 a4 a5).trans ((oq2 q a1 a2 a3 a4 a5).trans ((oq1 q a1 a2 a3 a4 a5).trans (y5 q a1 a2 a3 a4 a5))))
set_option maxRecDepth 100000 in
theorem l_X9_og1 {G : xx_G} {l : Launch} {A : xx_H} {b : Nat} {th hr st hl en tu : Value} {m n : Nat} {N : Nat → Int} {W : Nat → Nat → Nat → Int} {le : Nat → Int} {mu : Nat → Nat} {X : Nat → Nat → Int} {t : Nat → Int} {w : Nat} {to9 : Nat} {Q : Option Value ⊕ String → xx_H → Prop} (hb : A.2 b = xx_o 9 (xx_mf b th (.int (nI m)) (.int (nI n)) hr st hl en tu)) (hP : xx_rp A b m n W le mu) (hm : m ≤ 6) (hn : n ≤ 6) (hw : 300 ≤ w) (hw2 : w + 14 ≤ 1740) (hL : xx_pl N w X t) (hX : ∀ q, q < 2 → ∀ k, k < 6 → (X q k).natAbs < 2 ^ 192) (k : ∀ (B : xx_H) (N2 : Nat → Int), (B.1 = A.1) → (xx_rw B b N2) → (N2 28 = ye_o m n W X 1 n) → (∀ q, q ≠ 10 → q ≠ 11 → q ≠ 29 → q ≠ 20 → q ≠ 28 → N2 q = N q) → (∀ q, q ≠ b + 1 → q ≠ b + 2 → q ≠ b + 3 → q ≠ b + 17 → q ≠ b + 18 → B.2 q = A.2 q) → xx_X G l mX9_ownGets 4 0 0 74 [(0, .ref b), (3, .int (nI to9))] [] B Q) :
    ∀ (v i : Nat), i + v = n → ∀ (B : xx_H) (N2 : Nat → Int), (B.1 = A.1) → (xx_rw B b N2) → (N2 28 = ye_o m n W X 1 i) → (∀ q, q ≠ 10 → q ≠ 11 → q ≠ 29 → q ≠ 20 → q ≠ 28 → N2 q = N q) → (∀ q, q ≠ b + 1 → q ≠ b + 2 → q ≠ b + 3 → q ≠ b + 17 → q ≠ b + 18 → B.2 q = A.2 q) → xx_X G l mX9_ownGets 4 0 0 10 [(0, .ref b), (1, .int (nI w)), (2, .int 1), (3, .int (nI to9)), (4, .int (nI i))] [] B Q := by
  have wo := yo_w_r (p := 1) hP (by decide)
  intro v
  induction v with
  | zero =>
    intro i h9i B N2 y1 y2 y3 y4 y5
    have h9e : n = i := by omega
    subst h9e
    have hb2 := (y5 b (by omega) (by omega) (by omega) (by omega) (by omega)).trans hb
    refine xx_clv (lv2 := [(0, .ref b), (1, .int (nI w)), (2, .int 1), (3, .int (nI to9)), (4, .int (nI n))]) rfl ?_
    refine xx_iload dX9_ownGets_10 rfl ?_
    refine xx_iload_n dX9_ownGets_12 rfl ?_
    refine xx_if_ne (tgt := 23) dX9_ownGets_13 (by decide) (fun j13 => ?_) (fun h => absurd h (by decide))
    refine xx_aload_n dX9_ownGets_23 rfl ?_
    refine xx_get xx_c9 dX9_ownGets_24 wf_X9_123 (j := 5) (by decide) hb2 rfl ?_
    refine xx_icmp_ge (tgt := 74) dX9_ownGets_27 (by decide) (fun j27 => ?_) (fun h => absurd (Int32.le_refl _) h)
    refine xx_less [0, 3] ?_
    refine xx_clv (lv2 := [(0, .ref b), (3, .int (nI to9))]) rfl ?_
    exact k B N2 y1 y2 y3 y4 y5
  | succ v ih =>
    intro i h9i B N2 y1 y2 y3 y4 y5
    have hb2 := (y5 b (by omega) (by omega) (by omega) (by omega) (by omega)).trans hb
    have vb := ye_v_b (p := 1) (r := i) hm hn (by decide) (show i < n by omega) wo hX
    have p9 : (ye_v m n W X 1 i * X 1 i).natAbs ≤ 2 ^ 416 := ye_p_b vb (hX 1 (by decide) i (by omega))
    have s9 : (ye_o m n W X 1 i).natAbs < 2 ^ 419 := ye_s_b (by omega) (fun k hk => ye_p_b (ye_v_b (p := 1) (r := k) hm hn (by decide) (show k < n by omega) wo hX) (hX 1 (by decide) k (by omega)))
    refine xx_iload dX9_ownGets_10 rfl ?_
    refine xx_iload_n dX9_ownGets_12 rfl ?_
    refine xx_if_ne (tgt := 23) dX9_ownGets_13 (by decide) (fun j13 => ?_) (fun h => absurd h (by decide))
    refine xx_aload_n dX9_ownGets_23 rfl ?_
    refine xx_get xx_c9 dX9_ownGets_24 wf_X9_123 (j := 5) (by decide) hb2 rfl ?_
    refine xx_icmp_ge (tgt := 74) dX9_ownGets_27 (by decide) (fun h => absurd h (nI_ge (a := i) (b := n) (by omega) (by omega))) (fun j27 => ?_)
    refine xx_aload_n dX9_ownGets_30 rfl ?_
    refine xx_iload_n dX9_ownGets_31 rfl ?_
    refine xx_iload_n dX9_ownGets_32 rfl ?_
    refine xx_iload dX9_ownGets_33 rfl ?_
    refine xx_bipush (v := 20) dX9_ownGets_35 (by decide) ?_
    have hP2 : xx_rp B b m n W le mu := hP.to (y5 _ (by omega) (by omega) (by omega) (by omega) (by omega)) (y5 _ (by omega) (by omega) (by omega) (by omega) (by omega)) (y5 _ (by omega) (by omega) (by omega) (by omega) (by omega))
    have hL2 : xx_pl N2 w X t := hL.to (fun q9 a9 b9 => y4 q9 (by omega) (by omega) (by omega) (by omega) (by omega))
    refine xx_callV (N := mX9_rowGets) (vs := [.int (nI w), .int 1, .int (nI i), .int 20]) (b := b) (rest := []) (d2 := 3) (c2 := 0) (s2 := 0) (c3 := 0) (s3 := 0) dX9_ownGets_37 wm_X9_190 wi_X9_rowGets wv_X9_rowGets (k := 9) rfl (by decide) hb2 nX9_rowGets ⟨pX9_rowGets, Nat.le_of_ble_eq_true rfl, by decide, Nat.le_of_ble_eq_true rfl, by decide, by decide⟩ (c_X9_rowGets (p := 1) (r := i) (to9 := 20) hb2 hP2 hm hn hw hw2 hL2 hX y2 (by decide) (show i < n by omega) (by decide) (by decide)) (fun v9 Eq1 hC => ?_) (fun E9 B9 hC => absurd hC.1 (by simp))
    obtain ⟨hv9, zq1, ⟨Nq1, hNq1, vq1, fq1⟩, oq1⟩ := hC
    cases hv9
    refine xx_cst (st2 := []) rfl ?_
    have hbq1 := (oq1 b (by omega) (by omega) (by omega) (by omega) (by omega)).trans hb2
    refine xx_aload_n dX9_ownGets_40 rfl ?_
    refine xx_bipush (v := 20) dX9_ownGets_41 (by decide) ?_
    refine xx_iload_n dX9_ownGets_43 rfl ?_
    refine xx_bipush (v := 6) dX9_ownGets_44 (by decide) ?_
    refine xx_iload_n dX9_ownGets_46 rfl ?_
    refine xx_imul dX9_ownGets_47 ?_
    refine xx_eqi (y := 6) (by decide) ?_
    refine xx_iadd dX9_ownGets_48 ?_
    refine xx_eqi (y := nI (w + 6)) (nI_add w 6) ?_
    refine xx_iload dX9_ownGets_49 rfl ?_
    refine xx_iadd dX9_ownGets_51 ?_
    refine xx_eqi (y := nI (w + 6 + i)) (nI_add (w + 6) i) ?_
    refine xx_bipush (v := 11) dX9_ownGets_52 (by decide) ?_
    have x1 : Nq1 (w + 6 * 1 + i) = X 1 i := (fq1 _ (by omega) (by omega) (by omega) (by omega)).trans (hL2.1 1 (by decide) i (by omega))
    refine xx_cst (st2 := [.int 11, .int (nI (w + 6 * 1 + i)), .int 20, .ref b]) rfl ?_
    refine xx_callV (N := mX9_times) (vs := [.int 20, .int (nI (w + 6 * 1 + i)), .int 11]) (b := b) (rest := []) (d2 := 1) (c2 := 0) (s2 := 0) (c3 := 0) (s3 := 0) dX9_ownGets_54 wm_X9_104 wi_X9_times wv_X9_times (k := 9) rfl (by decide) hbq1 nX9_times ⟨pX9_times, Nat.le_of_ble_eq_true rfl, by decide, Nat.le_of_ble_eq_true rfl, by decide, by decide⟩ (w_X9_times hbq1 hNq1 (x := 20) (y := w + 6 * 1 + i) (c := 11) (p := 15) (q := 25) (by omega) (by omega) (by omega) (by omega) (by omega) (by decide) (by rw [vq1]; exact yy_p15 vb) (by rw [x1]; exact yy_p25b (hX 1 (by decide) i (by omega)))) (fun v9 Eq2 hC => ?_) (fun E9 B9 hC => absurd hC.1 (by simp))
    obtain ⟨hv9, zq2, ⟨Nq2, hNq2, vq2, fq2⟩, oq2⟩ := hC
    cases hv9
    refine xx_cst (st2 := []) rfl ?_
    have hbq2 := (oq2 b (by omega) (by omega) (by omega) (by omega) (by omega)).trans hbq1
    refine xx_aload_n dX9_ownGets_57 rfl ?_
    refine xx_bipush (v := 28) dX9_ownGets_58 (by decide) ?_
    refine xx_bipush (v := 11) dX9_ownGets_60 (by decide) ?_
    refine xx_iconst (v := 0) dX9_ownGets_62 (by decide) ?_
    refine xx_bipush (v := 28) dX9_ownGets_63 (by decide) ?_
    have x2 : Nq2 11 = ye_v m n W X 1 i * X 1 i := by rw [vq2, vq1, x1]
    have x3 : Nq2 28 = ye_o m n W X 1 i := (fq2 _ (by decide)).trans ((fq1 _ (by decide) (by decide) (by decide) (by decide)).trans y3)
    refine xx_cst (st2 := [.int 28, .int (if false then 1 else 0), .int 11, .int 28, .ref b]) rfl ?_
    refine xx_callV (N := mX9_add) (vs := [.int 28, .int 11, .int (if false then 1 else 0), .int 28]) (b := b) (rest := []) (d2 := 2) (c2 := 0) (s2 := 0) (c3 := 0) (s3 := 0) dX9_ownGets_65 wm_X9_108 wi_X9_add wv_X9_add (k := 9) rfl (by decide) hbq2 nX9_add ⟨pX9_add, Nat.le_of_ble_eq_true rfl, by decide, Nat.le_of_ble_eq_true rfl, by decide, by decide⟩ (w_X9_add hbq2 hNq2 (x := 28) (y := 11) (c := 28) (mn := false) (by omega) (by omega) (by omega) (by rw [x3]; exact yy_p39d s9) (by rw [x2]; exact yy_p39c p9)) (fun v9 Eq3 hC => ?_) (fun E9 B9 hC => absurd hC.1 (by simp))
    obtain ⟨hv9, zq3, ⟨Nq3, hNq3, vq3, fq3⟩, oq3⟩ := hC
    cases hv9
    refine xx_cst (st2 := []) rfl ?_
    have hbq3 := (oq3 b (by omega) (by omega) (by omega) (by omega) (by omega)).trans hbq2
    refine xx_iinc (v := nI (i + 1)) dX9_ownGets_68 rfl (nI_1 i) (by decide) ?_
    refine xx_clv (lv2 := [(0, .ref b), (1, .int (nI w)), (2, .int 1), (3, .int (nI to9)), (4, .int (nI (i + 1)))]) rfl ?_
    refine xx_goto (tgt := 10) dX9_ownGets_71 (by decide) ?_
    refine xx_less [0, 1, 2, 3, 4] ?_
    refine xx_clv (lv2 := [(0, .ref b), (1, .int (nI w)), (2, .int 1), (3, .int (nI to9)), (4, .int (nI (i + 1)))]) rfl ?_
    refine ih (i + 1) (by omega) Eq3 Nq3 (by omega) hNq3 (by rw [vq3, x3, x2]; rfl) (fun q a1 a2 a3 a4 a5 => (fq3 q a5).trans ((fq2 q a2).trans ((fq1 q a1 a2 a3 a4).trans (y4 q a1 a2 a3 a4 a5)))) (fun q a1 a2 a3 a4 a5 => (oq3 q a1 a2 a3 a4 a5).trans ((oq2 q a1 a2 a3 a4 a5).trans ((oq1 q a1 a2 a3 a4 a5).trans (y5 q a1 a2 a3 a4 a5))))
set_option maxRecDepth 100000 in
theorem c_X9_ownGets {G : xx_G} {l : Launch} {A : xx_H} {b : Nat} {th hr st hl en tu : Value} {m n : Nat} {N : Nat → Int} {W : Nat → Nat → Nat → Int} {le : Nat → Int} {mu : Nat → Nat} {X : Nat → Nat → Int} {t : Nat → Int} {w : Nat} {p to9 : Nat} (hb : A.2 b = xx_o 9 (xx_mf b th (.int (nI m)) (.int (nI n)) hr st hl en tu)) (hP : xx_rp A b m n W le mu) (hm : m ≤ 6) (hn : n ≤ 6) (hw : 300 ≤ w) (hw2 : w + 14 ≤ 1740) (hL : xx_pl N w X t) (hX : ∀ q, q < 2 → ∀ k, k < 6 → (X q k).natAbs < 2 ^ 192) (hN : xx_rw A b N) (hp : p < 2) (t9 : to9 < 28) (t10 : 12 ≤ to9) : xx_X G l mX9_ownGets 4 0 0 0 (lv_args 0 [.ref b, .int (nI w), .int (nI p), .int (nI to9)]) [] A (fun z B => z = .inl none ∧ B.1 = A.1 ∧ (∃ N2, xx_rw B b N2 ∧ N2 to9 = ye_o m n W X p (yy_cn m n p) ∧ ∀ q, q ≠ 10 → q ≠ 11 → q ≠ 29 → q ≠ 20 → q ≠ 28 → q ≠ to9 → N2 q = N q) ∧ ∀ q, q ≠ b + 1 → q ≠ b + 2 → q ≠ b + 3 → q ≠ b + 17 → q ≠ b + 18 → B.2 q = A.2 q) := by
  rcases (show p = 0 ∨ p = 1 by omega) with pz | pz
  · subst pz
    refine xx_clv (lv2 := [(0, .ref b), (1, .int (nI w)), (2, .int 0), (3, .int (nI to9))]) rfl ?_
    refine xx_aload_n dX9_ownGets_0 rfl ?_
    refine xx_bipush (v := 28) dX9_ownGets_1 (by decide) ?_
    refine xx_lconst (v := 0) dX9_ownGets_3 (by decide) ?_
    refine xx_eql (y := lz 0) (by decide) ?_
    refine xx_callV (N := mX9_set) (vs := [.int 28, .long (lz 0)]) (b := b) (rest := []) (d2 := 0) (c2 := 0) (s2 := 0) (c3 := 0) (s3 := 0) dX9_ownGets_4 wm_X9_80 wi_X9_set wv_X9_set (k := 9) rfl (by decide) hb nX9_set ⟨pX9_set, Nat.le_of_ble_eq_true rfl, by decide, Nat.le_of_ble_eq_true rfl, by decide, by decide⟩ (w_X9_set hb hN (a := 28) (v := 0) (by omega) (by decide) (by decide)) (fun v9 Eq1 hC => ?_) (fun E9 B9 hC => absurd hC.1 (by simp))
    obtain ⟨hv9, zq1, ⟨Nq1, hNq1, vq1, fq1⟩, oq1⟩ := hC
    cases hv9
    refine xx_cst (st2 := []) rfl ?_
    have hbq1 := (oq1 b (by omega) (by omega) (by omega) (by omega) (by omega)).trans hb
    refine xx_iconst (v := 0) dX9_ownGets_7 (by decide) ?_
    refine xx_istore dX9_ownGets_8 (by decide) ?_
    refine xx_clv (lv2 := [(0, .ref b), (1, .int (nI w)), (2, .int 0), (3, .int (nI to9)), (4, .int 0)]) rfl ?_
    refine xx_clv (lv2 := [(0, .ref b), (1, .int (nI w)), (2, .int 0), (3, .int (nI to9)), (4, .int (nI 0))]) rfl ?_
    refine l_X9_og0 (A := Eq1) (N := Nq1) (t := t) hbq1 (hP.to (oq1 _ (by omega) (by omega) (by omega) (by omega) (by omega)) (oq1 _ (by omega) (by omega) (by omega) (by omega) (by omega)) (oq1 _ (by omega) (by omega) (by omega) (by omega) (by omega))) hm hn hw hw2 (hL.to (fun q9 a9 b9 => fq1 q9 (by omega))) hX (fun B N2 y1 y2 y3 y4 y5 => ?_) m 0 (by omega) Eq1 Nq1 rfl hNq1 vq1 (fun q _ _ _ _ _ => rfl) (fun q _ _ _ _ _ => rfl)
    have hbc := (y5 b (by omega) (by omega) (by omega) (by omega) (by omega)).trans hbq1
    refine xx_aload_n dX9_ownGets_74 rfl ?_
    refine xx_bipush (v := 28) dX9_ownGets_75 (by decide) ?_
    refine xx_iload_n dX9_ownGets_77 rfl ?_
    refine xx_callV (N := mX9_copy) (vs := [.int 28, .int (nI to9)]) (b := b) (rest := []) (d2 := 0) (c2 := 0) (s2 := 0) (c3 := 0) (s3 := 0) dX9_ownGets_78 wm_X9_98 wi_X9_copy wv_X9_copy (k := 9) rfl (by decide) hbc nX9_copy ⟨pX9_copy, Nat.le_of_ble_eq_true rfl, by decide, Nat.le_of_ble_eq_true rfl, by decide, by decide⟩ (w_X9_copy hbc y2 (x := 28) (a := to9) (by omega) (by omega) (by omega)) (fun v9 Eqc1 hC => ?_) (fun E9 B9 hC => absurd hC.1 (by simp))
    obtain ⟨hv9, zqc1, ⟨Nqc1, hNqc1, vqc1, fqc1⟩, oqc1⟩ := hC
    cases hv9
    refine xx_cst (st2 := []) rfl ?_
    have hbqc1 := (oqc1 b (by omega) (by omega) (by omega) (by omega) (by omega)).trans hbc
    exact xx_vret dX9_ownGets_81 rfl ⟨rfl, by omega, ⟨Nqc1, hNqc1, vqc1.trans y3, fun q a1 a2 a3 a4 a5 a6 => (fqc1 q a6).trans ((y4 q a1 a2 a3 a4 a5).trans (fq1 q a5))⟩, fun q a1 a2 a3 a4 a5 => (oqc1 q a1 a2 a3 a4 a5).trans ((y5 q a1 a2 a3 a4 a5).trans (oq1 q a1 a2 a3 a4 a5))⟩
  · subst pz
    refine xx_clv (lv2 := [(0, .ref b), (1, .int (nI w)), (2, .int 1), (3, .int (nI to9))]) rfl ?_
    refine xx_aload_n dX9_ownGets_0 rfl ?_
    refine xx_bipush (v := 28) dX9_ownGets_1 (by decide) ?_
    refine xx_lconst (v := 0) dX9_ownGets_3 (by decide) ?_
    refine xx_eql (y := lz 0) (by decide) ?_
    refine xx_callV (N := mX9_set) (vs := [.int 28, .long (lz 0)]) (b := b) (rest := []) (d2 := 0) (c2 := 0) (s2 := 0) (c3 := 0) (s3 := 0) dX9_ownGets_4 wm_X9_80 wi_X9_set wv_X9_set (k := 9) rfl (by decide) hb nX9_set ⟨pX9_set, Nat.le_of_ble_eq_true rfl, by decide, Nat.le_of_ble_eq_true rfl, by decide, by decide⟩ (w_X9_set hb hN (a := 28) (v := 0) (by omega) (by decide) (by decide)) (fun v9 Eq1 hC => ?_) (fun E9 B9 hC => absurd hC.1 (by simp))
    obtain ⟨hv9, zq1, ⟨Nq1, hNq1, vq1, fq1⟩, oq1⟩ := hC
    cases hv9
    refine xx_cst (st2 := []) rfl ?_
    have hbq1 := (oq1 b (by omega) (by omega) (by omega) (by omega) (by omega)).trans hb
    refine xx_iconst (v := 0) dX9_ownGets_7 (by decide) ?_
    refine xx_istore dX9_ownGets_8 (by decide) ?_
    refine xx_clv (lv2 := [(0, .ref b), (1, .int (nI w)), (2, .int 1), (3, .int (nI to9)), (4, .int 0)]) rfl ?_
    refine xx_clv (lv2 := [(0, .ref b), (1, .int (nI w)), (2, .int 1), (3, .int (nI to9)), (4, .int (nI 0))]) rfl ?_
    refine l_X9_og1 (A := Eq1) (N := Nq1) (t := t) hbq1 (hP.to (oq1 _ (by omega) (by omega) (by omega) (by omega) (by omega)) (oq1 _ (by omega) (by omega) (by omega) (by omega) (by omega)) (oq1 _ (by omega) (by omega) (by omega) (by omega) (by omega))) hm hn hw hw2 (hL.to (fun q9 a9 b9 => fq1 q9 (by omega))) hX (fun B N2 y1 y2 y3 y4 y5 => ?_) n 0 (by omega) Eq1 Nq1 rfl hNq1 vq1 (fun q _ _ _ _ _ => rfl) (fun q _ _ _ _ _ => rfl)
    have hbc := (y5 b (by omega) (by omega) (by omega) (by omega) (by omega)).trans hbq1
    refine xx_aload_n dX9_ownGets_74 rfl ?_
    refine xx_bipush (v := 28) dX9_ownGets_75 (by decide) ?_
    refine xx_iload_n dX9_ownGets_77 rfl ?_
    refine xx_callV (N := mX9_copy) (vs := [.int 28, .int (nI to9)]) (b := b) (rest := []) (d2 := 0) (c2 := 0) (s2 := 0) (c3 := 0) (s3 := 0) dX9_ownGets_78 wm_X9_98 wi_X9_copy wv_X9_copy (k := 9) rfl (by decide) hbc nX9_copy ⟨pX9_copy, Nat.le_of_ble_eq_true rfl, by decide, Nat.le_of_ble_eq_true rfl, by decide, by decide⟩ (w_X9_copy hbc y2 (x := 28) (a := to9) (by omega) (by omega) (by omega)) (fun v9 Eqc1 hC => ?_) (fun E9 B9 hC => absurd hC.1 (by simp))
    obtain ⟨hv9, zqc1, ⟨Nqc1, hNqc1, vqc1, fqc1⟩, oqc1⟩ := hC
    cases hv9
    refine xx_cst (st2 := []) rfl ?_
    have hbqc1 := (oqc1 b (by omega) (by omega) (by omega) (by omega) (by omega)).trans hbc
    exact xx_vret dX9_ownGets_81 rfl ⟨rfl, by omega, ⟨Nqc1, hNqc1, vqc1.trans y3, fun q a1 a2 a3 a4 a5 a6 => (fqc1 q a6).trans ((y4 q a1 a2 a3 a4 a5).trans (fq1 q a5))⟩, fun q a1 a2 a3 a4 a5 => (oqc1 q a1 a2 a3 a4 a5).trans ((y5 q a1 a2 a3 a4 a5).trans (oq1 q a1 a2 a3 a4 a5))⟩
set_option maxRecDepth 100000 in
theorem l_X9_be0 {G : xx_G} {l : Launch} {A : xx_H} {b : Nat} {th hr st hl en tu : Value} {m n : Nat} {N : Nat → Int} {W : Nat → Nat → Nat → Int} {le : Nat → Int} {mu : Nat → Nat} {X : Nat → Nat → Int} {t : Nat → Int} {w : Nat} {Q : Option Value ⊕ String → xx_H → Prop} (hb : A.2 b = xx_o 9 (xx_mf b th (.int (nI m)) (.int (nI n)) hr st hl en tu)) (hP : xx_rp A b m n W le mu) (hm : m ≤ 6) (hn : n ≤ 6) (hw : 300 ≤ w) (hw2 : w + 14 ≤ 1740) (hL : xx_pl N w X t) (hX : ∀ q, q < 2 → ∀ k, k < 6 → (X q k).natAbs < 2 ^ 192) (h1 : 1 ≤ m) (k : ∀ (B : xx_H) (N2 : Nat → Int), (B.1 = A.1) → (xx_rw B b N2) → (m ≠ 0 → N2 24 = ye_m (ye_v m n W X 0) (m - 1)) → (∀ q, q ≠ 10 → q ≠ 11 → q ≠ 29 → q ≠ 22 → q ≠ 24 → N2 q = N q) → (∀ q, q ≠ b + 1 → q ≠ b + 2 → q ≠ b + 3 → q ≠ b + 17 → q ≠ b + 18 → B.2 q = A.2 q) → xx_X G l mX9_best 4 0 0 90 [(3, .int (nI (ye_b (ye_v m n W X 0) (m - 1))))] [] B Q) :
    ∀ (v i : Nat), i + v = m → ∀ (B : xx_H) (N2 : Nat → Int), (B.1 = A.1) → (xx_rw B b N2) → (i ≠ 0 → N2 24 = ye_m (ye_v m n W X 0) (i - 1)) → (∀ q, q ≠ 10 → q ≠ 11 → q ≠ 29 → q ≠ 22 → q ≠ 24 → N2 q = N q) → (∀ q, q ≠ b + 1 → q ≠ b + 2 → q ≠ b + 3 → q ≠ b + 17 → q ≠ b + 18 → B.2 q = A.2 q) → xx_X G l mX9_best 4 0 0 5 [(0, .ref b), (1, .int (nI w)), (2, .int 0), (3, .int (nI (if i = 0 then 0 else ye_b (ye_v m n W X 0) (i - 1)))), (4, .int (nI i))] [] B Q := by
  have wo := yo_w_r (p := 0) hP (by decide)
  intro v
  induction v with
  | zero =>
    intro i h9i B N2 y1 y2 y3 y4 y5
    have h9e : m = i := by omega
    subst h9e
    have hb2 := (y5 b (by omega) (by omega) (by omega) (by omega) (by omega)).trans hb
    rw [if_neg (by omega)]
    refine xx_clv (lv2 := [(0, .ref b), (1, .int (nI w)), (2, .int 0), (3, .int (nI (ye_b (ye_v m n W X 0) (m - 1)))), (4, .int (nI m))]) rfl ?_
    refine xx_iload dX9_best_5 rfl ?_
    refine xx_iload_n dX9_best_7 rfl ?_
    refine xx_if_ne (tgt := 18) dX9_best_8 (by decide) (fun h => absurd rfl h) (fun j8 => ?_)
    refine xx_aload_n dX9_best_11 rfl ?_
    refine xx_get xx_c9 dX9_best_12 wf_X9_120 (j := 4) (by decide) hb2 rfl ?_
    refine xx_goto (tgt := 22) dX9_best_15 (by decide) ?_
    refine xx_icmp_ge (tgt := 90) dX9_best_22 (by decide) (fun j22 => ?_) (fun h => absurd (Int32.le_refl _) h)
    refine xx_less [3] ?_
    refine xx_clv (lv2 := [(3, .int (nI (ye_b (ye_v m n W X 0) (m - 1))))]) rfl ?_
    exact k B N2 y1 y2 y3 y4 y5
  | succ v ih =>
    intro i h9i B N2 y1 y2 y3 y4 y5
    have hb2 := (y5 b (by omega) (by omega) (by omega) (by omega) (by omega)).trans hb
    refine xx_iload dX9_best_5 rfl ?_
    refine xx_iload_n dX9_best_7 rfl ?_
    refine xx_if_ne (tgt := 18) dX9_best_8 (by decide) (fun h => absurd rfl h) (fun j8 => ?_)
    refine xx_aload_n dX9_best_11 rfl ?_
    refine xx_get xx_c9 dX9_best_12 wf_X9_120 (j := 4) (by decide) hb2 rfl ?_
    refine xx_goto (tgt := 22) dX9_best_15 (by decide) ?_
    refine xx_icmp_ge (tgt := 90) dX9_best_22 (by decide) (fun h => absurd h (nI_ge (a := i) (b := m) (by omega) (by omega))) (fun j22 => ?_)
    refine xx_aload_n dX9_best_25 rfl ?_
    refine xx_iload_n dX9_best_26 rfl ?_
    refine xx_iload_n dX9_best_27 rfl ?_
    refine xx_iload dX9_best_28 rfl ?_
    refine xx_bipush (v := 22) dX9_best_30 (by decide) ?_
    have hP2 : xx_rp B b m n W le mu := hP.to (y5 _ (by omega) (by omega) (by omega) (by omega) (by omega)) (y5 _ (by omega) (by omega) (by omega) (by omega) (by omega)) (y5 _ (by omega) (by omega) (by omega) (by omega) (by omega))
    have hL2 : xx_pl N2 w X t := hL.to (fun q9 a9 b9 => y4 q9 (by omega) (by omega) (by omega) (by omega) (by omega))
    refine xx_callV (N := mX9_rowGets) (vs := [.int (nI w), .int 0, .int (nI i), .int 22]) (b := b) (rest := []) (d2 := 3) (c2 := 0) (s2 := 0) (c3 := 0) (s3 := 0) dX9_best_32 wm_X9_190 wi_X9_rowGets wv_X9_rowGets (k := 9) rfl (by decide) hb2 nX9_rowGets ⟨pX9_rowGets, Nat.le_of_ble_eq_true rfl, by decide, Nat.le_of_ble_eq_true rfl, by decide, by decide⟩ (c_X9_rowGets (p := 0) (r := i) (to9 := 22) hb2 hP2 hm hn hw hw2 hL2 hX y2 (by decide) (show i < m by omega) (by decide) (by decide)) (fun v9 Eq1 hC => ?_) (fun E9 B9 hC => absurd hC.1 (by simp))
    obtain ⟨hv9, zq1, ⟨Nq1, hNq1, vq1, fq1⟩, oq1⟩ := hC
    cases hv9
    refine xx_cst (st2 := []) rfl ?_
    have hbq1 := (oq1 b (by omega) (by omega) (by omega) (by omega) (by omega)).trans hb2
    by_cases iz9 : i = 0
    · refine xx_clv (lv2 := [(0, .ref b), (1, .int (nI w)), (2, .int 0), (3, .int 0), (4, .int (nI i))]) (by rw [if_pos iz9]; rfl) ?_
      refine xx_iload_n dX9_best_35 rfl ?_
      refine xx_if_ne (tgt := 43) dX9_best_36 (by decide) (fun h => absurd rfl h) (fun j36 => ?_)
      refine xx_iconst (v := 1) dX9_best_39 (by decide) ?_
      refine xx_goto (tgt := 51) dX9_best_40 (by decide) ?_
      refine xx_istore dX9_best_51 (by decide) ?_
      refine xx_clv (lv2 := [(0, .ref b), (1, .int (nI w)), (2, .int 0), (3, .int 0), (4, .int (nI i)), (5, .int 1)]) rfl ?_
      refine xx_iload dX9_best_53 rfl ?_
      refine xx_if_le (tgt := 68) dX9_best_55 (by decide) (fun h => absurd h (by decide)) (fun j55 => ?_)
      refine xx_aload_n dX9_best_58 rfl ?_
      refine xx_bipush (v := 22) dX9_best_59 (by decide) ?_
      refine xx_bipush (v := 24) dX9_best_61 (by decide) ?_
      refine xx_callV (N := mX9_copy) (vs := [.int 22, .int 24]) (b := b) (rest := []) (d2 := 0) (c2 := 0) (s2 := 0) (c3 := 0) (s3 := 0) dX9_best_63 wm_X9_98 wi_X9_copy wv_X9_copy (k := 9) rfl (by decide) hbq1 nX9_copy ⟨pX9_copy, Nat.le_of_ble_eq_true rfl, by decide, Nat.le_of_ble_eq_true rfl, by decide, by decide⟩ (w_X9_copy hbq1 hNq1 (x := 22) (a := 24) (by omega) (by omega) (by omega)) (fun v9 Eq2 hC => ?_) (fun E9 B9 hC => absurd hC.1 (by simp))
      obtain ⟨hv9, zq2, ⟨Nq2, hNq2, vq2, fq2⟩, oq2⟩ := hC
      cases hv9
      refine xx_cst (st2 := []) rfl ?_
      have hbq2 := (oq2 b (by omega) (by omega) (by omega) (by omega) (by omega)).trans hbq1
      refine xx_iconst (v := 0) dX9_best_66 (by decide) ?_
      refine xx_istore_n dX9_best_67 (by decide) ?_
      refine xx_clv (lv2 := [(0, .ref b), (1, .int (nI w)), (2, .int 0), (3, .int 0), (4, .int (nI i)), (5, .int 1)]) rfl ?_
      refine xx_iload_n dX9_best_68 rfl ?_
      refine xx_iload dX9_best_69 rfl ?_
      refine xx_if_lt (tgt := 81) dX9_best_71 (by decide) (fun h => absurd h (by decide)) (fun j71 => ?_)
      refine xx_iconst (v := 1) dX9_best_74 (by decide) ?_
      refine xx_iload dX9_best_75 rfl ?_
      refine xx_ishl dX9_best_77 ?_
      refine xx_goto (tgt := 82) dX9_best_78 (by decide) ?_
      refine xx_ior dX9_best_82 ?_
      refine xx_eqi (y := nI (ye_b (ye_v m n W X 0) (i + 1 - 1))) (by rw [iz9]; show (0 : Int32) ||| (1 <<< (nI 0 &&& 31)) = nI (0 + (if decide (ye_v m n W X 0 0 = ye_v m n W X 0 0) = true then 2 ^ 0 else 0)); rw [if_pos (decide_eq_true rfl)]; rfl) ?_
      refine xx_istore_n dX9_best_83 (by decide) ?_
      refine xx_clv (lv2 := [(0, .ref b), (1, .int (nI w)), (2, .int 0), (3, .int (nI (ye_b (ye_v m n W X 0) (i + 1 - 1)))), (4, .int (nI i)), (5, .int 1)]) rfl ?_
      refine xx_clv (lv2 := [(0, .ref b), (1, .int (nI w)), (2, .int 0), (3, .int (nI (if (i + 1) = 0 then 0 else ye_b (ye_v m n W X 0) ((i + 1) - 1)))), (4, .int (nI i)), (5, .int 1)]) (by rw [if_neg (by omega)]) ?_
      refine xx_iinc (v := nI (i + 1)) dX9_best_84 rfl (nI_1 i) (by decide) ?_
      refine xx_clv (lv2 := [(0, .ref b), (1, .int (nI w)), (2, .int 0), (3, .int (nI (if (i + 1) = 0 then 0 else ye_b (ye_v m n W X 0) ((i + 1) - 1)))), (4, .int (nI (i + 1))), (5, .int 1)]) rfl ?_
      refine xx_goto (tgt := 5) dX9_best_87 (by decide) ?_
      refine xx_less [0, 1, 2, 3, 4] ?_
      refine xx_clv (lv2 := [(0, .ref b), (1, .int (nI w)), (2, .int 0), (3, .int (nI (if (i + 1) = 0 then 0 else ye_b (ye_v m n W X 0) ((i + 1) - 1)))), (4, .int (nI (i + 1)))]) rfl ?_
      refine ih (i + 1) (by omega) Eq2 Nq2 (by omega) hNq2 (fun _ => by rw [vq2, vq1, iz9]; rfl) (fun q a1 a2 a3 a4 a5 => (fq2 q a5).trans ((fq1 q a1 a2 a3 a4).trans (y4 q a1 a2 a3 a4 a5))) (fun q a1 a2 a3 a4 a5 => (oq2 q a1 a2 a3 a4 a5).trans ((oq1 q a1 a2 a3 a4 a5).trans (y5 q a1 a2 a3 a4 a5)))
    · obtain ⟨j9, ej⟩ : ∃ j, i = j + 1 := ⟨i - 1, by omega⟩
      refine xx_clv (lv2 := [(0, .ref b), (1, .int (nI w)), (2, .int 0), (3, .int (nI (ye_b (ye_v m n W X 0) j9))), (4, .int (nI i))]) (by rw [if_neg iz9, show i - 1 = j9 by omega]) ?_
      have b0 := (ye_b_z (V := ye_v m n W X 0) (i := j9) (by omega)).2.1
      have b64 := (ye_b_z (V := ye_v m n W X 0) (i := j9) (by omega)).1
      have n24 : Nq1 24 = ye_m (ye_v m n W X 0) j9 := (fq1 _ (by decide) (by decide) (by decide) (by decide)).trans ((y3 iz9).trans (by rw [show i - 1 = j9 by omega]))
      refine xx_iload_n dX9_best_35 rfl ?_
      refine xx_if_ne (tgt := 43) dX9_best_36 (by decide) (fun j36 => ?_) (fun h => absurd h (nI_ne0 (n := ye_b (ye_v m n W X 0) j9) (by omega) (by omega)))
      refine xx_aload_n dX9_best_43 rfl ?_
      refine xx_bipush (v := 22) dX9_best_44 (by decide) ?_
      refine xx_bipush (v := 24) dX9_best_46 (by decide) ?_
      refine xx_callV (N := mX9_compare) (vs := [.int 22, .int 24]) (b := b) (rest := []) (d2 := 1) (c2 := 0) (s2 := 0) (c3 := 0) (s3 := 0) dX9_best_48 wm_X9_159 wi_X9_compare wv_X9_compare (k := 9) rfl (by decide) hbq1 nX9_compare ⟨pX9_compare, Nat.le_of_ble_eq_true rfl, by decide, Nat.le_of_ble_eq_true rfl, by decide, by decide⟩ (c_X9_compare hbq1 hNq1.1 (x := 22) (y := 24) (by decide) (by decide)) (fun v9 B9 hC => ?_) (fun E9 B9 hC => absurd hC.1 (by simp))
      obtain ⟨hv9, e9⟩ := hC
      cases hv9
      refine xx_cst (st2 := [.int (yy_cmz (ye_v m n W X 0 i) (ye_m (ye_v m n W X 0) j9))]) (by rw [vq1, n24]; rfl) ?_
      rw [e9]
      refine xx_istore dX9_best_51 (by decide) ?_
      refine xx_clv (lv2 := [(0, .ref b), (1, .int (nI w)), (2, .int 0), (3, .int (nI (ye_b (ye_v m n W X 0) j9))), (4, .int (nI i)), (5, .int (yy_cmz (ye_v m n W X 0 i) (ye_m (ye_v m n W X 0) j9)))]) rfl ?_
      refine xx_iload dX9_best_53 rfl ?_
      refine xx_if_le (tgt := 68) dX9_best_55 (by decide) (fun j55 => ?_) (fun j55 => ?_)
      · refine xx_iload_n dX9_best_68 rfl ?_
        refine xx_iload dX9_best_69 rfl ?_
        refine xx_if_lt (tgt := 81) dX9_best_71 (by decide) (fun j71 => ?_) (fun j71 => ?_)
        · refine xx_iconst (v := 0) dX9_best_81 (by decide) ?_
          refine xx_ior dX9_best_82 ?_
          have q9 : ye_v m n W X 0 (j9 + 1) < ye_m (ye_v m n W X 0) j9 := by have h2 := (yy_cmz_lt _ _).mp j71; rw [← ej]; exact h2
          obtain ⟨m9, b9⟩ := ye_b_lt q9
          refine xx_eqi (y := nI (ye_b (ye_v m n W X 0) (i + 1 - 1))) (by rw [Int32.or_zero, show i + 1 - 1 = j9 + 1 by omega, b9]) ?_
          refine xx_istore_n dX9_best_83 (by decide) ?_
          refine xx_clv (lv2 := [(0, .ref b), (1, .int (nI w)), (2, .int 0), (3, .int (nI (ye_b (ye_v m n W X 0) (i + 1 - 1)))), (4, .int (nI i)), (5, .int (yy_cmz (ye_v m n W X 0 i) (ye_m (ye_v m n W X 0) j9)))]) rfl ?_
          refine xx_clv (lv2 := [(0, .ref b), (1, .int (nI w)), (2, .int 0), (3, .int (nI (if (i + 1) = 0 then 0 else ye_b (ye_v m n W X 0) ((i + 1) - 1)))), (4, .int (nI i)), (5, .int (yy_cmz (ye_v m n W X 0 i) (ye_m (ye_v m n W X 0) j9)))]) (by rw [if_neg (by omega)]) ?_
          refine xx_iinc (v := nI (i + 1)) dX9_best_84 rfl (nI_1 i) (by decide) ?_
          refine xx_clv (lv2 := [(0, .ref b), (1, .int (nI w)), (2, .int 0), (3, .int (nI (if (i + 1) = 0 then 0 else ye_b (ye_v m n W X 0) ((i + 1) - 1)))), (4, .int (nI (i + 1))), (5, .int (yy_cmz (ye_v m n W X 0 i) (ye_m (ye_v m n W X 0) j9)))]) rfl ?_
          refine xx_goto (tgt := 5) dX9_best_87 (by decide) ?_
          refine xx_less [0, 1, 2, 3, 4] ?_
          refine xx_clv (lv2 := [(0, .ref b), (1, .int (nI w)), (2, .int 0), (3, .int (nI (if (i + 1) = 0 then 0 else ye_b (ye_v m n W X 0) ((i + 1) - 1)))), (4, .int (nI (i + 1)))]) rfl ?_
          refine ih (i + 1) (by omega) Eq1 Nq1 (by omega) hNq1 (fun _ => by rw [n24, show i + 1 - 1 = j9 + 1 by omega, m9]) (fun q a1 a2 a3 a4 a5 => (fq1 q a1 a2 a3 a4).trans (y4 q a1 a2 a3 a4 a5)) (fun q a1 a2 a3 a4 a5 => (oq1 q a1 a2 a3 a4 a5).trans (y5 q a1 a2 a3 a4 a5))
        · refine xx_iconst (v := 1) dX9_best_74 (by decide) ?_
          refine xx_iload dX9_best_75 rfl ?_
          refine xx_ishl dX9_best_77 ?_
          refine xx_goto (tgt := 82) dX9_best_78 (by decide) ?_
          refine xx_ior dX9_best_82 ?_
          have q9 : ye_m (ye_v m n W X 0) j9 = ye_v m n W X 0 (j9 + 1) := by have h1 := (yy_cmz_le _ _).mp j55; have h2 : ¬ ye_v m n W X 0 i < ye_m (ye_v m n W X 0) j9 := fun z => j71 ((yy_cmz_lt _ _).mpr z); rw [← ej]; omega
          obtain ⟨m9, b9⟩ := ye_b_eq q9
          have lt9 : ye_b (ye_v m n W X 0) j9 < 2 ^ i := by rw [ej]; exact yb_lt _ _
          refine xx_eqi (y := nI (ye_b (ye_v m n W X 0) (i + 1 - 1))) (by rw [yb_or (by omega) lt9, show i + 1 - 1 = j9 + 1 by omega, b9, ej]) ?_
          refine xx_istore_n dX9_best_83 (by decide) ?_
          refine xx_clv (lv2 := [(0, .ref b), (1, .int (nI w)), (2, .int 0), (3, .int (nI (ye_b (ye_v m n W X 0) (i + 1 - 1)))), (4, .int (nI i)), (5, .int (yy_cmz (ye_v m n W X 0 i) (ye_m (ye_v m n W X 0) j9)))]) rfl ?_
          refine xx_clv (lv2 := [(0, .ref b), (1, .int (nI w)), (2, .int 0), (3, .int (nI (if (i + 1) = 0 then 0 else ye_b (ye_v m n W X 0) ((i + 1) - 1)))), (4, .int (nI i)), (5, .int (yy_cmz (ye_v m n W X 0 i) (ye_m (ye_v m n W X 0) j9)))]) (by rw [if_neg (by omega)]) ?_
          refine xx_iinc (v := nI (i + 1)) dX9_best_84 rfl (nI_1 i) (by decide) ?_
          refine xx_clv (lv2 := [(0, .ref b), (1, .int (nI w)), (2, .int 0), (3, .int (nI (if (i + 1) = 0 then 0 else ye_b (ye_v m n W X 0) ((i + 1) - 1)))), (4, .int (nI (i + 1))), (5, .int (yy_cmz (ye_v m n W X 0 i) (ye_m (ye_v m n W X 0) j9)))]) rfl ?_
          refine xx_goto (tgt := 5) dX9_best_87 (by decide) ?_
          refine xx_less [0, 1, 2, 3, 4] ?_
          refine xx_clv (lv2 := [(0, .ref b), (1, .int (nI w)), (2, .int 0), (3, .int (nI (if (i + 1) = 0 then 0 else ye_b (ye_v m n W X 0) ((i + 1) - 1)))), (4, .int (nI (i + 1)))]) rfl ?_
          refine ih (i + 1) (by omega) Eq1 Nq1 (by omega) hNq1 (fun _ => by rw [n24, show i + 1 - 1 = j9 + 1 by omega, m9]) (fun q a1 a2 a3 a4 a5 => (fq1 q a1 a2 a3 a4).trans (y4 q a1 a2 a3 a4 a5)) (fun q a1 a2 a3 a4 a5 => (oq1 q a1 a2 a3 a4 a5).trans (y5 q a1 a2 a3 a4 a5))
      · refine xx_aload_n dX9_best_58 rfl ?_
        refine xx_bipush (v := 22) dX9_best_59 (by decide) ?_
        refine xx_bipush (v := 24) dX9_best_61 (by decide) ?_
        refine xx_callV (N := mX9_copy) (vs := [.int 22, .int 24]) (b := b) (rest := []) (d2 := 0) (c2 := 0) (s2 := 0) (c3 := 0) (s3 := 0) dX9_best_63 wm_X9_98 wi_X9_copy wv_X9_copy (k := 9) rfl (by decide) hbq1 nX9_copy ⟨pX9_copy, Nat.le_of_ble_eq_true rfl, by decide, Nat.le_of_ble_eq_true rfl, by decide, by decide⟩ (w_X9_copy hbq1 hNq1 (x := 22) (a := 24) (by omega) (by omega) (by omega)) (fun v9 Eq2 hC => ?_) (fun E9 B9 hC => absurd hC.1 (by simp))
        obtain ⟨hv9, zq2, ⟨Nq2, hNq2, vq2, fq2⟩, oq2⟩ := hC
        cases hv9
        refine xx_cst (st2 := []) rfl ?_
        have hbq2 := (oq2 b (by omega) (by omega) (by omega) (by omega) (by omega)).trans hbq1
        refine xx_iconst (v := 0) dX9_best_66 (by decide) ?_
        refine xx_istore_n dX9_best_67 (by decide) ?_
        refine xx_clv (lv2 := [(0, .ref b), (1, .int (nI w)), (2, .int 0), (3, .int 0), (4, .int (nI i)), (5, .int (yy_cmz (ye_v m n W X 0 i) (ye_m (ye_v m n W X 0) j9)))]) rfl ?_
        refine xx_iload_n dX9_best_68 rfl ?_
        refine xx_iload dX9_best_69 rfl ?_
        refine xx_if_lt (tgt := 81) dX9_best_71 (by decide) (fun h => absurd h (fun z => j55 (Int32.le_of_lt z))) (fun j71 => ?_)
        refine xx_iconst (v := 1) dX9_best_74 (by decide) ?_
        refine xx_iload dX9_best_75 rfl ?_
        refine xx_ishl dX9_best_77 ?_
        refine xx_goto (tgt := 82) dX9_best_78 (by decide) ?_
        refine xx_ior dX9_best_82 ?_
        have q9 : ye_m (ye_v m n W X 0) j9 < ye_v m n W X 0 (j9 + 1) := by rw [← ej]; exact Classical.byContradiction (fun z => j55 ((yy_cmz_le _ _).mpr z))
        obtain ⟨m9, b9⟩ := ye_b_gt q9
        refine xx_eqi (y := nI (ye_b (ye_v m n W X 0) (i + 1 - 1))) (by rw [show (0 : Int32) = nI 0 from rfl, yb_or (by omega) (Nat.two_pow_pos i), show i + 1 - 1 = j9 + 1 by omega, b9, ej]) ?_
        refine xx_istore_n dX9_best_83 (by decide) ?_
        refine xx_clv (lv2 := [(0, .ref b), (1, .int (nI w)), (2, .int 0), (3, .int (nI (ye_b (ye_v m n W X 0) (i + 1 - 1)))), (4, .int (nI i)), (5, .int (yy_cmz (ye_v m n W X 0 i) (ye_m (ye_v m n W X 0) j9)))]) rfl ?_
        refine xx_clv (lv2 := [(0, .ref b), (1, .int (nI w)), (2, .int 0), (3, .int (nI (if (i + 1) = 0 then 0 else ye_b (ye_v m n W X 0) ((i + 1) - 1)))), (4, .int (nI i)), (5, .int (yy_cmz (ye_v m n W X 0 i) (ye_m (ye_v m n W X 0) j9)))]) (by rw [if_neg (by omega)]) ?_
        refine xx_iinc (v := nI (i + 1)) dX9_best_84 rfl (nI_1 i) (by decide) ?_
        refine xx_clv (lv2 := [(0, .ref b), (1, .int (nI w)), (2, .int 0), (3, .int (nI (if (i + 1) = 0 then 0 else ye_b (ye_v m n W X 0) ((i + 1) - 1)))), (4, .int (nI (i + 1))), (5, .int (yy_cmz (ye_v m n W X 0 i) (ye_m (ye_v m n W X 0) j9)))]) rfl ?_
        refine xx_goto (tgt := 5) dX9_best_87 (by decide) ?_
        refine xx_less [0, 1, 2, 3, 4] ?_
        refine xx_clv (lv2 := [(0, .ref b), (1, .int (nI w)), (2, .int 0), (3, .int (nI (if (i + 1) = 0 then 0 else ye_b (ye_v m n W X 0) ((i + 1) - 1)))), (4, .int (nI (i + 1)))]) rfl ?_
        refine ih (i + 1) (by omega) Eq2 Nq2 (by omega) hNq2 (fun _ => by rw [vq2, vq1, show i + 1 - 1 = j9 + 1 by omega, m9, ej]) (fun q a1 a2 a3 a4 a5 => (fq2 q a5).trans ((fq1 q a1 a2 a3 a4).trans (y4 q a1 a2 a3 a4 a5))) (fun q a1 a2 a3 a4 a5 => (oq2 q a1 a2 a3 a4 a5).trans ((oq1 q a1 a2 a3 a4 a5).trans (y5 q a1 a2 a3 a4 a5)))
set_option maxRecDepth 100000 in
theorem l_X9_be1 {G : xx_G} {l : Launch} {A : xx_H} {b : Nat} {th hr st hl en tu : Value} {m n : Nat} {N : Nat → Int} {W : Nat → Nat → Nat → Int} {le : Nat → Int} {mu : Nat → Nat} {X : Nat → Nat → Int} {t : Nat → Int} {w : Nat} {Q : Option Value ⊕ String → xx_H → Prop} (hb : A.2 b = xx_o 9 (xx_mf b th (.int (nI m)) (.int (nI n)) hr st hl en tu)) (hP : xx_rp A b m n W le mu) (hm : m ≤ 6) (hn : n ≤ 6) (hw : 300 ≤ w) (hw2 : w + 14 ≤ 1740) (hL : xx_pl N w X t) (hX : ∀ q, q < 2 → ∀ k, k < 6 → (X q k).natAbs < 2 ^ 192) (h1 : 1 ≤ n) (k : ∀ (B : xx_H) (N2 : Nat → Int), (B.1 = A.1) → (xx_rw B b N2) → (n ≠ 0 → N2 24 = ye_m (ye_v m n W X 1) (n - 1)) → (∀ q, q ≠ 10 → q ≠ 11 → q ≠ 29 → q ≠ 22 → q ≠ 24 → N2 q = N q) → (∀ q, q ≠ b + 1 → q ≠ b + 2 → q ≠ b + 3 → q ≠ b + 17 → q ≠ b + 18 → B.2 q = A.2 q) → xx_X G l mX9_best 4 0 0 90 [(3, .int (nI (ye_b (ye_v m n W X 1) (n - 1))))] [] B Q) :
    ∀ (v i : Nat), i + v = n → ∀ (B : xx_H) (N2 : Nat → Int), (B.1 = A.1) → (xx_rw B b N2) → (i ≠ 0 → N2 24 = ye_m (ye_v m n W X 1) (i - 1)) → (∀ q, q ≠ 10 → q ≠ 11 → q ≠ 29 → q ≠ 22 → q ≠ 24 → N2 q = N q) → (∀ q, q ≠ b + 1 → q ≠ b + 2 → q ≠ b + 3 → q ≠ b + 17 → q ≠ b + 18 → B.2 q = A.2 q) → xx_X G l mX9_best 4 0 0 5 [(0, .ref b), (1, .int (nI w)), (2, .int 1), (3, .int (nI (if i = 0 then 0 else ye_b (ye_v m n W X 1) (i - 1)))), (4, .int (nI i))] [] B Q := by
  have wo := yo_w_r (p := 1) hP (by decide)
  intro v
  induction v with
  | zero =>
    intro i h9i B N2 y1 y2 y3 y4 y5
    have h9e : n = i := by omega
    subst h9e
    have hb2 := (y5 b (by omega) (by omega) (by omega) (by omega) (by omega)).trans hb
    rw [if_neg (by omega)]
    refine xx_clv (lv2 := [(0, .ref b), (1, .int (nI w)), (2, .int 1), (3, .int (nI (ye_b (ye_v m n W X 1) (n - 1)))), (4, .int (nI n))]) rfl ?_
    refine xx_iload dX9_best_5 rfl ?_
    refine xx_iload_n dX9_best_7 rfl ?_
    refine xx_if_ne (tgt := 18) dX9_best_8 (by decide) (fun j8 => ?_) (fun h => absurd h (by decide))
    refine xx_aload_n dX9_best_18 rfl ?_
    refine xx_get xx_c9 dX9_best_19 wf_X9_123 (j := 5) (by decide) hb2 rfl ?_
    refine xx_icmp_ge (tgt := 90) dX9_best_22 (by decide) (fun j22 => ?_) (fun h => absurd (Int32.le_refl _) h)
    refine xx_less [3] ?_
    refine xx_clv (lv2 := [(3, .int (nI (ye_b (ye_v m n W X 1) (n - 1))))]) rfl ?_
    exact k B N2 y1 y2 y3 y4 y5
  | succ v ih =>
    intro i h9i B N2 y1 y2 y3 y4 y5
    have hb2 := (y5 b (by omega) (by omega) (by omega) (by omega) (by omega)).trans hb
    refine xx_iload dX9_best_5 rfl ?_
    refine xx_iload_n dX9_best_7 rfl ?_
    refine xx_if_ne (tgt := 18) dX9_best_8 (by decide) (fun j8 => ?_) (fun h => absurd h (by decide))
    refine xx_aload_n dX9_best_18 rfl ?_
    refine xx_get xx_c9 dX9_best_19 wf_X9_123 (j := 5) (by decide) hb2 rfl ?_
    refine xx_icmp_ge (tgt := 90) dX9_best_22 (by decide) (fun h => absurd h (nI_ge (a := i) (b := n) (by omega) (by omega))) (fun j22 => ?_)
    refine xx_aload_n dX9_best_25 rfl ?_
    refine xx_iload_n dX9_best_26 rfl ?_
    refine xx_iload_n dX9_best_27 rfl ?_
    refine xx_iload dX9_best_28 rfl ?_
    refine xx_bipush (v := 22) dX9_best_30 (by decide) ?_
    have hP2 : xx_rp B b m n W le mu := hP.to (y5 _ (by omega) (by omega) (by omega) (by omega) (by omega)) (y5 _ (by omega) (by omega) (by omega) (by omega) (by omega)) (y5 _ (by omega) (by omega) (by omega) (by omega) (by omega))
    have hL2 : xx_pl N2 w X t := hL.to (fun q9 a9 b9 => y4 q9 (by omega) (by omega) (by omega) (by omega) (by omega))
    refine xx_callV (N := mX9_rowGets) (vs := [.int (nI w), .int 1, .int (nI i), .int 22]) (b := b) (rest := []) (d2 := 3) (c2 := 0) (s2 := 0) (c3 := 0) (s3 := 0) dX9_best_32 wm_X9_190 wi_X9_rowGets wv_X9_rowGets (k := 9) rfl (by decide) hb2 nX9_rowGets ⟨pX9_rowGets, Nat.le_of_ble_eq_true rfl, by decide, Nat.le_of_ble_eq_true rfl, by decide, by decide⟩ (c_X9_rowGets (p := 1) (r := i) (to9 := 22) hb2 hP2 hm hn hw hw2 hL2 hX y2 (by decide) (show i < n by omega) (by decide) (by decide)) (fun v9 Eq1 hC => ?_) (fun E9 B9 hC => absurd hC.1 (by simp))
    obtain ⟨hv9, zq1, ⟨Nq1, hNq1, vq1, fq1⟩, oq1⟩ := hC
    cases hv9
    refine xx_cst (st2 := []) rfl ?_
    have hbq1 := (oq1 b (by omega) (by omega) (by omega) (by omega) (by omega)).trans hb2
    by_cases iz9 : i = 0
    · refine xx_clv (lv2 := [(0, .ref b), (1, .int (nI w)), (2, .int 1), (3, .int 0), (4, .int (nI i))]) (by rw [if_pos iz9]; rfl) ?_
      refine xx_iload_n dX9_best_35 rfl ?_
      refine xx_if_ne (tgt := 43) dX9_best_36 (by decide) (fun h => absurd rfl h) (fun j36 => ?_)
      refine xx_iconst (v := 1) dX9_best_39 (by decide) ?_
      refine xx_goto (tgt := 51) dX9_best_40 (by decide) ?_
      refine xx_istore dX9_best_51 (by decide) ?_
      refine xx_clv (lv2 := [(0, .ref b), (1, .int (nI w)), (2, .int 1), (3, .int 0), (4, .int (nI i)), (5, .int 1)]) rfl ?_
      refine xx_iload dX9_best_53 rfl ?_
      refine xx_if_le (tgt := 68) dX9_best_55 (by decide) (fun h => absurd h (by decide)) (fun j55 => ?_)
      refine xx_aload_n dX9_best_58 rfl ?_
      refine xx_bipush (v := 22) dX9_best_59 (by decide) ?_
      refine xx_bipush (v := 24) dX9_best_61 (by decide) ?_
      refine xx_callV (N := mX9_copy) (vs := [.int 22, .int 24]) (b := b) (rest := []) (d2 := 0) (c2 := 0) (s2 := 0) (c3 := 0) (s3 := 0) dX9_best_63 wm_X9_98 wi_X9_copy wv_X9_copy (k := 9) rfl (by decide) hbq1 nX9_copy ⟨pX9_copy, Nat.le_of_ble_eq_true rfl, by decide, Nat.le_of_ble_eq_true rfl, by decide, by decide⟩ (w_X9_copy hbq1 hNq1 (x := 22) (a := 24) (by omega) (by omega) (by omega)) (fun v9 Eq2 hC => ?_) (fun E9 B9 hC => absurd hC.1 (by simp))
      obtain ⟨hv9, zq2, ⟨Nq2, hNq2, vq2, fq2⟩, oq2⟩ := hC
      cases hv9
      refine xx_cst (st2 := []) rfl ?_
      have hbq2 := (oq2 b (by omega) (by omega) (by omega) (by omega) (by omega)).trans hbq1
      refine xx_iconst (v := 0) dX9_best_66 (by decide) ?_
      refine xx_istore_n dX9_best_67 (by decide) ?_
      refine xx_clv (lv2 := [(0, .ref b), (1, .int (nI w)), (2, .int 1), (3, .int 0), (4, .int (nI i)), (5, .int 1)]) rfl ?_
      refine xx_iload_n dX9_best_68 rfl ?_
      refine xx_iload dX9_best_69 rfl ?_
      refine xx_if_lt (tgt := 81) dX9_best_71 (by decide) (fun h => absurd h (by decide)) (fun j71 => ?_)
      refine xx_iconst (v := 1) dX9_best_74 (by decide) ?_
      refine xx_iload dX9_best_75 rfl ?_
      refine xx_ishl dX9_best_77 ?_
      refine xx_goto (tgt := 82) dX9_best_78 (by decide) ?_
      refine xx_ior dX9_best_82 ?_
      refine xx_eqi (y := nI (ye_b (ye_v m n W X 1) (i + 1 - 1))) (by rw [iz9]; show (0 : Int32) ||| (1 <<< (nI 0 &&& 31)) = nI (0 + (if decide (ye_v m n W X 1 0 = ye_v m n W X 1 0) = true then 2 ^ 0 else 0)); rw [if_pos (decide_eq_true rfl)]; rfl) ?_
      refine xx_istore_n dX9_best_83 (by decide) ?_
      refine xx_clv (lv2 := [(0, .ref b), (1, .int (nI w)), (2, .int 1), (3, .int (nI (ye_b (ye_v m n W X 1) (i + 1 - 1)))), (4, .int (nI i)), (5, .int 1)]) rfl ?_
      refine xx_clv (lv2 := [(0, .ref b), (1, .int (nI w)), (2, .int 1), (3, .int (nI (if (i + 1) = 0 then 0 else ye_b (ye_v m n W X 1) ((i + 1) - 1)))), (4, .int (nI i)), (5, .int 1)]) (by rw [if_neg (by omega)]) ?_
      refine xx_iinc (v := nI (i + 1)) dX9_best_84 rfl (nI_1 i) (by decide) ?_
      refine xx_clv (lv2 := [(0, .ref b), (1, .int (nI w)), (2, .int 1), (3, .int (nI (if (i + 1) = 0 then 0 else ye_b (ye_v m n W X 1) ((i + 1) - 1)))), (4, .int (nI (i + 1))), (5, .int 1)]) rfl ?_
      refine xx_goto (tgt := 5) dX9_best_87 (by decide) ?_
      refine xx_less [0, 1, 2, 3, 4] ?_
      refine xx_clv (lv2 := [(0, .ref b), (1, .int (nI w)), (2, .int 1), (3, .int (nI (if (i + 1) = 0 then 0 else ye_b (ye_v m n W X 1) ((i + 1) - 1)))), (4, .int (nI (i + 1)))]) rfl ?_
      refine ih (i + 1) (by omega) Eq2 Nq2 (by omega) hNq2 (fun _ => by rw [vq2, vq1, iz9]; rfl) (fun q a1 a2 a3 a4 a5 => (fq2 q a5).trans ((fq1 q a1 a2 a3 a4).trans (y4 q a1 a2 a3 a4 a5))) (fun q a1 a2 a3 a4 a5 => (oq2 q a1 a2 a3 a4 a5).trans ((oq1 q a1 a2 a3 a4 a5).trans (y5 q a1 a2 a3 a4 a5)))
    · obtain ⟨j9, ej⟩ : ∃ j, i = j + 1 := ⟨i - 1, by omega⟩
      refine xx_clv (lv2 := [(0, .ref b), (1, .int (nI w)), (2, .int 1), (3, .int (nI (ye_b (ye_v m n W X 1) j9))), (4, .int (nI i))]) (by rw [if_neg iz9, show i - 1 = j9 by omega]) ?_
      have b0 := (ye_b_z (V := ye_v m n W X 1) (i := j9) (by omega)).2.1
      have b64 := (ye_b_z (V := ye_v m n W X 1) (i := j9) (by omega)).1
      have n24 : Nq1 24 = ye_m (ye_v m n W X 1) j9 := (fq1 _ (by decide) (by decide) (by decide) (by decide)).trans ((y3 iz9).trans (by rw [show i - 1 = j9 by omega]))
      refine xx_iload_n dX9_best_35 rfl ?_
      refine xx_if_ne (tgt := 43) dX9_best_36 (by decide) (fun j36 => ?_) (fun h => absurd h (nI_ne0 (n := ye_b (ye_v m n W X 1) j9) (by omega) (by omega)))
      refine xx_aload_n dX9_best_43 rfl ?_
      refine xx_bipush (v := 22) dX9_best_44 (by decide) ?_
      refine xx_bipush (v := 24) dX9_best_46 (by decide) ?_
      refine xx_callV (N := mX9_compare) (vs := [.int 22, .int 24]) (b := b) (rest := []) (d2 := 1) (c2 := 0) (s2 := 0) (c3 := 0) (s3 := 0) dX9_best_48 wm_X9_159 wi_X9_compare wv_X9_compare (k := 9) rfl (by decide) hbq1 nX9_compare ⟨pX9_compare, Nat.le_of_ble_eq_true rfl, by decide, Nat.le_of_ble_eq_true rfl, by decide, by decide⟩ (c_X9_compare hbq1 hNq1.1 (x := 22) (y := 24) (by decide) (by decide)) (fun v9 B9 hC => ?_) (fun E9 B9 hC => absurd hC.1 (by simp))
      obtain ⟨hv9, e9⟩ := hC
      cases hv9
      refine xx_cst (st2 := [.int (yy_cmz (ye_v m n W X 1 i) (ye_m (ye_v m n W X 1) j9))]) (by rw [vq1, n24]; rfl) ?_
      rw [e9]
      refine xx_istore dX9_best_51 (by decide) ?_
      refine xx_clv (lv2 := [(0, .ref b), (1, .int (nI w)), (2, .int 1), (3, .int (nI (ye_b (ye_v m n W X 1) j9))), (4, .int (nI i)), (5, .int (yy_cmz (ye_v m n W X 1 i) (ye_m (ye_v m n W X 1) j9)))]) rfl ?_
      refine xx_iload dX9_best_53 rfl ?_
      refine xx_if_le (tgt := 68) dX9_best_55 (by decide) (fun j55 => ?_) (fun j55 => ?_)
      · refine xx_iload_n dX9_best_68 rfl ?_
        refine xx_iload dX9_best_69 rfl ?_
        refine xx_if_lt (tgt := 81) dX9_best_71 (by decide) (fun j71 => ?_) (fun j71 => ?_)
        · refine xx_iconst (v := 0) dX9_best_81 (by decide) ?_
          refine xx_ior dX9_best_82 ?_
          have q9 : ye_v m n W X 1 (j9 + 1) < ye_m (ye_v m n W X 1) j9 := by have h2 := (yy_cmz_lt _ _).mp j71; rw [← ej]; exact h2
          obtain ⟨m9, b9⟩ := ye_b_lt q9
          refine xx_eqi (y := nI (ye_b (ye_v m n W X 1) (i + 1 - 1))) (by rw [Int32.or_zero, show i + 1 - 1 = j9 + 1 by omega, b9]) ?_
          refine xx_istore_n dX9_best_83 (by decide) ?_
          refine xx_clv (lv2 := [(0, .ref b), (1, .int (nI w)), (2, .int 1), (3, .int (nI (ye_b (ye_v m n W X 1) (i + 1 - 1)))), (4, .int (nI i)), (5, .int (yy_cmz (ye_v m n W X 1 i) (ye_m (ye_v m n W X 1) j9)))]) rfl ?_
          refine xx_clv (lv2 := [(0, .ref b), (1, .int (nI w)), (2, .int 1), (3, .int (nI (if (i + 1) = 0 then 0 else ye_b (ye_v m n W X 1) ((i + 1) - 1)))), (4, .int (nI i)), (5, .int (yy_cmz (ye_v m n W X 1 i) (ye_m (ye_v m n W X 1) j9)))]) (by rw [if_neg (by omega)]) ?_
          refine xx_iinc (v := nI (i + 1)) dX9_best_84 rfl (nI_1 i) (by decide) ?_
          refine xx_clv (lv2 := [(0, .ref b), (1, .int (nI w)), (2, .int 1), (3, .int (nI (if (i + 1) = 0 then 0 else ye_b (ye_v m n W X 1) ((i + 1) - 1)))), (4, .int (nI (i + 1))), (5, .int (yy_cmz (ye_v m n W X 1 i) (ye_m (ye_v m n W X 1) j9)))]) rfl ?_
          refine xx_goto (tgt := 5) dX9_best_87 (by decide) ?_
          refine xx_less [0, 1, 2, 3, 4] ?_
          refine xx_clv (lv2 := [(0, .ref b), (1, .int (nI w)), (2, .int 1), (3, .int (nI (if (i + 1) = 0 then 0 else ye_b (ye_v m n W X 1) ((i + 1) - 1)))), (4, .int (nI (i + 1)))]) rfl ?_
          refine ih (i + 1) (by omega) Eq1 Nq1 (by omega) hNq1 (fun _ => by rw [n24, show i + 1 - 1 = j9 + 1 by omega, m9]) (fun q a1 a2 a3 a4 a5 => (fq1 q a1 a2 a3 a4).trans (y4 q a1 a2 a3 a4 a5)) (fun q a1 a2 a3 a4 a5 => (oq1 q a1 a2 a3 a4 a5).trans (y5 q a1 a2 a3 a4 a5))
        · refine xx_iconst (v := 1) dX9_best_74 (by decide) ?_
          refine xx_iload dX9_best_75 rfl ?_
          refine xx_ishl dX9_best_77 ?_
          refine xx_goto (tgt := 82) dX9_best_78 (by decide) ?_
          refine xx_ior dX9_best_82 ?_
          have q9 : ye_m (ye_v m n W X 1) j9 = ye_v m n W X 1 (j9 + 1) := by have h1 := (yy_cmz_le _ _).mp j55; have h2 : ¬ ye_v m n W X 1 i < ye_m (ye_v m n W X 1) j9 := fun z => j71 ((yy_cmz_lt _ _).mpr z); rw [← ej]; omega
          obtain ⟨m9, b9⟩ := ye_b_eq q9
          have lt9 : ye_b (ye_v m n W X 1) j9 < 2 ^ i := by rw [ej]; exact yb_lt _ _
          refine xx_eqi (y := nI (ye_b (ye_v m n W X 1) (i + 1 - 1))) (by rw [yb_or (by omega) lt9, show i + 1 - 1 = j9 + 1 by omega, b9, ej]) ?_
          refine xx_istore_n dX9_best_83 (by decide) ?_
          refine xx_clv (lv2 := [(0, .ref b), (1, .int (nI w)), (2, .int 1), (3, .int (nI (ye_b (ye_v m n W X 1) (i + 1 - 1)))), (4, .int (nI i)), (5, .int (yy_cmz (ye_v m n W X 1 i) (ye_m (ye_v m n W X 1) j9)))]) rfl ?_
          refine xx_clv (lv2 := [(0, .ref b), (1, .int (nI w)), (2, .int 1), (3, .int (nI (if (i + 1) = 0 then 0 else ye_b (ye_v m n W X 1) ((i + 1) - 1)))), (4, .int (nI i)), (5, .int (yy_cmz (ye_v m n W X 1 i) (ye_m (ye_v m n W X 1) j9)))]) (by rw [if_neg (by omega)]) ?_
          refine xx_iinc (v := nI (i + 1)) dX9_best_84 rfl (nI_1 i) (by decide) ?_
          refine xx_clv (lv2 := [(0, .ref b), (1, .int (nI w)), (2, .int 1), (3, .int (nI (if (i + 1) = 0 then 0 else ye_b (ye_v m n W X 1) ((i + 1) - 1)))), (4, .int (nI (i + 1))), (5, .int (yy_cmz (ye_v m n W X 1 i) (ye_m (ye_v m n W X 1) j9)))]) rfl ?_
          refine xx_goto (tgt := 5) dX9_best_87 (by decide) ?_
          refine xx_less [0, 1, 2, 3, 4] ?_
          refine xx_clv (lv2 := [(0, .ref b), (1, .int (nI w)), (2, .int 1), (3, .int (nI (if (i + 1) = 0 then 0 else ye_b (ye_v m n W X 1) ((i + 1) - 1)))), (4, .int (nI (i + 1)))]) rfl ?_
          refine ih (i + 1) (by omega) Eq1 Nq1 (by omega) hNq1 (fun _ => by rw [n24, show i + 1 - 1 = j9 + 1 by omega, m9]) (fun q a1 a2 a3 a4 a5 => (fq1 q a1 a2 a3 a4).trans (y4 q a1 a2 a3 a4 a5)) (fun q a1 a2 a3 a4 a5 => (oq1 q a1 a2 a3 a4 a5).trans (y5 q a1 a2 a3 a4 a5))
      · refine xx_aload_n dX9_best_58 rfl ?_
        refine xx_bipush (v := 22) dX9_best_59 (by decide) ?_
        refine xx_bipush (v := 24) dX9_best_61 (by decide) ?_
        refine xx_callV (N := mX9_copy) (vs := [.int 22, .int 24]) (b := b) (rest := []) (d2 := 0) (c2 := 0) (s2 := 0) (c3 := 0) (s3 := 0) dX9_best_63 wm_X9_98 wi_X9_copy wv_X9_copy (k := 9) rfl (by decide) hbq1 nX9_copy ⟨pX9_copy, Nat.le_of_ble_eq_true rfl, by decide, Nat.le_of_ble_eq_true rfl, by decide, by decide⟩ (w_X9_copy hbq1 hNq1 (x := 22) (a := 24) (by omega) (by omega) (by omega)) (fun v9 Eq2 hC => ?_) (fun E9 B9 hC => absurd hC.1 (by simp))
        obtain ⟨hv9, zq2, ⟨Nq2, hNq2, vq2, fq2⟩, oq2⟩ := hC
        cases hv9
        refine xx_cst (st2 := []) rfl ?_
        have hbq2 := (oq2 b (by omega) (by omega) (by omega) (by omega) (by omega)).trans hbq1
        refine xx_iconst (v := 0) dX9_best_66 (by decide) ?_
        refine xx_istore_n dX9_best_67 (by decide) ?_
        refine xx_clv (lv2 := [(0, .ref b), (1, .int (nI w)), (2, .int 1), (3, .int 0), (4, .int (nI i)), (5, .int (yy_cmz (ye_v m n W X 1 i) (ye_m (ye_v m n W X 1) j9)))]) rfl ?_
        refine xx_iload_n dX9_best_68 rfl ?_
        refine xx_iload dX9_best_69 rfl ?_
        refine xx_if_lt (tgt := 81) dX9_best_71 (by decide) (fun h => absurd h (fun z => j55 (Int32.le_of_lt z))) (fun j71 => ?_)
        refine xx_iconst (v := 1) dX9_best_74 (by decide) ?_
        refine xx_iload dX9_best_75 rfl ?_
        refine xx_ishl dX9_best_77 ?_
        refine xx_goto (tgt := 82) dX9_best_78 (by decide) ?_
        refine xx_ior dX9_best_82 ?_
        have q9 : ye_m (ye_v m n W X 1) j9 < ye_v m n W X 1 (j9 + 1) := by rw [← ej]; exact Classical.byContradiction (fun z => j55 ((yy_cmz_le _ _).mpr z))
        obtain ⟨m9, b9⟩ := ye_b_gt q9
        refine xx_eqi (y := nI (ye_b (ye_v m n W X 1) (i + 1 - 1))) (by rw [show (0 : Int32) = nI 0 from rfl, yb_or (by omega) (Nat.two_pow_pos i), show i + 1 - 1 = j9 + 1 by omega, b9, ej]) ?_
        refine xx_istore_n dX9_best_83 (by decide) ?_
        refine xx_clv (lv2 := [(0, .ref b), (1, .int (nI w)), (2, .int 1), (3, .int (nI (ye_b (ye_v m n W X 1) (i + 1 - 1)))), (4, .int (nI i)), (5, .int (yy_cmz (ye_v m n W X 1 i) (ye_m (ye_v m n W X 1) j9)))]) rfl ?_
        refine xx_clv (lv2 := [(0, .ref b), (1, .int (nI w)), (2, .int 1), (3, .int (nI (if (i + 1) = 0 then 0 else ye_b (ye_v m n W X 1) ((i + 1) - 1)))), (4, .int (nI i)), (5, .int (yy_cmz (ye_v m n W X 1 i) (ye_m (ye_v m n W X 1) j9)))]) (by rw [if_neg (by omega)]) ?_
        refine xx_iinc (v := nI (i + 1)) dX9_best_84 rfl (nI_1 i) (by decide) ?_
        refine xx_clv (lv2 := [(0, .ref b), (1, .int (nI w)), (2, .int 1), (3, .int (nI (if (i + 1) = 0 then 0 else ye_b (ye_v m n W X 1) ((i + 1) - 1)))), (4, .int (nI (i + 1))), (5, .int (yy_cmz (ye_v m n W X 1 i) (ye_m (ye_v m n W X 1) j9)))]) rfl ?_
        refine xx_goto (tgt := 5) dX9_best_87 (by decide) ?_
        refine xx_less [0, 1, 2, 3, 4] ?_
        refine xx_clv (lv2 := [(0, .ref b), (1, .int (nI w)), (2, .int 1), (3, .int (nI (if (i + 1) = 0 then 0 else ye_b (ye_v m n W X 1) ((i + 1) - 1)))), (4, .int (nI (i + 1)))]) rfl ?_
        refine ih (i + 1) (by omega) Eq2 Nq2 (by omega) hNq2 (fun _ => by rw [vq2, vq1, show i + 1 - 1 = j9 + 1 by omega, m9, ej]) (fun q a1 a2 a3 a4 a5 => (fq2 q a5).trans ((fq1 q a1 a2 a3 a4).trans (y4 q a1 a2 a3 a4 a5))) (fun q a1 a2 a3 a4 a5 => (oq2 q a1 a2 a3 a4 a5).trans ((oq1 q a1 a2 a3 a4 a5).trans (y5 q a1 a2 a3 a4 a5)))
set_option maxRecDepth 100000 in
theorem c_X9_best {G : xx_G} {l : Launch} {A : xx_H} {b : Nat} {th hr st hl en tu : Value} {m n : Nat} {N : Nat → Int} {W : Nat → Nat → Nat → Int} {le : Nat → Int} {mu : Nat → Nat} {X : Nat → Nat → Int} {t : Nat → Int} {w : Nat} {p : Nat} (hb : A.2 b = xx_o 9 (xx_mf b th (.int (nI m)) (.int (nI n)) hr st hl en tu)) (hP : xx_rp A b m n W le mu) (hm : m ≤ 6) (hn : n ≤ 6) (hw : 300 ≤ w) (hw2 : w + 14 ≤ 1740) (hL : xx_pl N w X t) (hX : ∀ q, q < 2 → ∀ k, k < 6 → (X q k).natAbs < 2 ^ 192) (hN : xx_rw A b N) (hp : p < 2) (h1 : 1 ≤ yy_cn m n p) : xx_X G l mX9_best 4 0 0 0 (lv_args 0 [.ref b, .int (nI w), .int (nI p)]) [] A (fun z B => z = .inl (some (.int (nI (ye_b (ye_v m n W X p) (yy_cn m n p - 1))))) ∧ B.1 = A.1 ∧ (∃ N2, xx_rw B b N2 ∧ N2 24 = ye_m (ye_v m n W X p) (yy_cn m n p - 1) ∧ ∀ q, q ≠ 10 → q ≠ 11 → q ≠ 29 → q ≠ 22 → q ≠ 24 → N2 q = N q) ∧ ∀ q, q ≠ b + 1 → q ≠ b + 2 → q ≠ b + 3 → q ≠ b + 17 → q ≠ b + 18 → B.2 q = A.2 q) := by
  rcases (show p = 0 ∨ p = 1 by omega) with pz | pz
  · subst pz
    have h1 : 1 ≤ m := h1
    refine xx_clv (lv2 := [(0, .ref b), (1, .int (nI w)), (2, .int 0)]) rfl ?_
    refine xx_iconst (v := 0) dX9_best_0 (by decide) ?_
    refine xx_istore_n dX9_best_1 (by decide) ?_
    refine xx_clv (lv2 := [(0, .ref b), (1, .int (nI w)), (2, .int 0), (3, .int 0)]) rfl ?_
    refine xx_iconst (v := 0) dX9_best_2 (by decide) ?_
    refine xx_istore dX9_best_3 (by decide) ?_
    refine xx_clv (lv2 := [(0, .ref b), (1, .int (nI w)), (2, .int 0), (3, .int 0), (4, .int 0)]) rfl ?_
    refine xx_clv (lv2 := [(0, .ref b), (1, .int (nI w)), (2, .int 0), (3, .int (nI (if 0 = 0 then 0 else ye_b (ye_v m n W X 0) (0 - 1)))), (4, .int (nI 0))]) rfl ?_
    refine l_X9_be0 (A := A) (N := N) (t := t) hb hP hm hn hw hw2 hL hX h1 (fun B N2 y1 y2 y3 y4 y5 => ?_) m 0 (by omega) A N rfl hN (fun h => absurd rfl h) (fun q _ _ _ _ _ => rfl) (fun q _ _ _ _ _ => rfl)
    refine xx_iload_n dX9_best_90 rfl ?_
    exact xx_iret dX9_best_91 rfl ⟨rfl, y1, ⟨N2, y2, y3 (by omega), y4⟩, y5⟩
  · subst pz
    have h1 : 1 ≤ n := h1
    refine xx_clv (lv2 := [(0, .ref b), (1, .int (nI w)), (2, .int 1)]) rfl ?_
    refine xx_iconst (v := 0) dX9_best_0 (by decide) ?_
    refine xx_istore_n dX9_best_1 (by decide) ?_
    refine xx_clv (lv2 := [(0, .ref b), (1, .int (nI w)), (2, .int 1), (3, .int 0)]) rfl ?_
    refine xx_iconst (v := 0) dX9_best_2 (by decide) ?_
    refine xx_istore dX9_best_3 (by decide) ?_
    refine xx_clv (lv2 := [(0, .ref b), (1, .int (nI w)), (2, .int 1), (3, .int 0), (4, .int 0)]) rfl ?_
    refine xx_clv (lv2 := [(0, .ref b), (1, .int (nI w)), (2, .int 1), (3, .int (nI (if 0 = 0 then 0 else ye_b (ye_v m n W X 1) (0 - 1)))), (4, .int (nI 0))]) rfl ?_
    refine l_X9_be1 (A := A) (N := N) (t := t) hb hP hm hn hw hw2 hL hX h1 (fun B N2 y1 y2 y3 y4 y5 => ?_) n 0 (by omega) A N rfl hN (fun h => absurd rfl h) (fun q _ _ _ _ _ => rfl) (fun q _ _ _ _ _ => rfl)
    refine xx_iload_n dX9_best_90 rfl ?_
    exact xx_iret dX9_best_91 rfl ⟨rfl, y1, ⟨N2, y2, y3 (by omega), y4⟩, y5⟩
