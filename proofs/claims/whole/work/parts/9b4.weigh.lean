/-! ===== what the rows get ===== -/
def yo_w (W : Nat → Nat → Nat → Int) (p i j : Nat) : Int := if p = 0 then W 0 i j else W 1 j i
/-- both Payoffs -/
def xx_pys (B : xx_H) (b m n : Nat) (W : Nat → Nat → Nat → Int) (le : Nat → Int) (mu : Nat → Nat) : Prop := (∃ h, B.2 (b + 2) = xx_r 14 2 h ∧ ∀ p, p < 2 → h p = some (b + 3 + 4 * p)) ∧ ∀ p, p < 2 → xx_po B (b + 3 + 4 * p) (yy_cn m n p) (yy_cn m n (1 - p)) (mu p) (le p) (yo_w W p)
theorem xx_pys.to {B C : xx_H} {b m n : Nat} {W : Nat → Nat → Nat → Int} {le : Nat → Int} {mu : Nat → Nat} (h : xx_pys B b m n W le mu) (hq : ∀ q, b + 2 ≤ q → q < b + 11 → C.2 q = B.2 q) : xx_pys C b m n W le mu := by
  obtain ⟨⟨h1, a1, a2⟩, a3⟩ := h
  exact ⟨⟨h1, (hq _ (by omega) (by omega)).trans a1, a2⟩, fun p hp => (a3 p hp).to (hq _ (by omega) (by omega)) (hq _ (by omega) (by omega))⟩
/-- what a row gets, times the multiple and the others' total -/
def ye_v (m n : Nat) (W : Nat → Nat → Nat → Int) (X : Nat → Nat → Int) (p r : Nat) : Int := yd_s (yy_cn m n (1 - p)) (fun k => yo_w W p r k * X (1 - p) k)
def ye_o (m n : Nat) (W : Nat → Nat → Nat → Int) (X : Nat → Nat → Int) (p i : Nat) : Int := yd_s i (fun r => ye_v m n W X p r * X p r)
theorem yo_w_b {m n p : Nat} {W : Nat → Nat → Nat → Int} {B : xx_H} {b : Nat} {le : Nat → Int} {mu : Nat → Nat} (h : xx_pys B b m n W le mu) (hp : p < 2) : ∀ i, i < yy_cn m n p → ∀ j, j < yy_cn m n (1 - p) → (yo_w W p i j).natAbs ≤ 277172280 := (h.2 p hp).2.2.2.2.1
theorem ye_v_b {m n p r : Nat} {W : Nat → Nat → Nat → Int} {X : Nat → Nat → Int} (hm : m ≤ 6) (hn : n ≤ 6) (hp : p < 2) (hr : r < yy_cn m n p) (hW : ∀ i, i < yy_cn m n p → ∀ j, j < yy_cn m n (1 - p) → (yo_w W p i j).natAbs ≤ 277172280) (hX : ∀ q, q < 2 → ∀ k, k < 6 → (X q k).natAbs < 2 ^ 192) : (ye_v m n W X p r).natAbs < 2 ^ 224 := by
  have c6 := yy_cn6 (p := 1 - p) hm hn
  exact yy_v224 c6 (fun k hk => yy_v192 (hW r hr k hk) (hX (1 - p) (by omega) k (by omega)))
theorem ye_p_b {v x : Int} (hv : v.natAbs < 2 ^ 224) (hx : x.natAbs < 2 ^ 192) : (v * x).natAbs ≤ 2 ^ 416 := by
  rw [Int.natAbs_mul]
  exact Nat.le_trans (Nat.mul_le_mul (Nat.le_of_lt hv) (Nat.le_of_lt hx)) (by decide +kernel)
theorem ye_s_b {r : Nat} {f : Nat → Int} (hr : r ≤ 6) (h : ∀ k, k < r → (f k).natAbs ≤ 2 ^ 416) : (yd_s r f).natAbs < 2 ^ 419 := Nat.lt_of_le_of_lt (yd_s_abs h) (Nat.lt_of_le_of_lt (Nat.mul_le_mul_right _ hr) (by decide +kernel))
theorem yb_434 : 2 ^ 419 + 2 ^ 416 < yB ^ 14 := by decide +kernel
theorem yb_416 : 2 ^ 416 < yB ^ 14 := by decide +kernel
theorem xx_wk.val {B C : xx_H} {b r : Nat} {X : Nat → Nat → Int} {t V : Nat → Int} {o u w v v2 o2 : Int} (h : xx_wk B b X t V o u w) (hr : r < 6) (h0 : xx_bg C (b + 267 + 2 * r) v) (h1 : xx_bg C (b + 279) v2) (h2 : xx_bg C (b + 281) o2) (hq : ∀ q, q ≠ b + 267 + 2 * r → q ≠ b + 267 + 2 * r + 1 → q ≠ b + 279 → q ≠ b + 280 → q ≠ b + 281 → q ≠ b + 282 → C.2 q = B.2 q) : xx_wk C b X t (yy_un V r v) o2 u w := by
  obtain ⟨⟨h5, a1, a2⟩, a3, ⟨h3, a4, a5⟩, a6, _, _, a9, ⟨c, a10⟩⟩ := h
  refine ⟨⟨h5, (hq _ (by omega) (by omega) (by omega) (by omega) (by omega) (by omega)).trans a1, a2⟩, fun p hp => (a3 p hp).to (fun q a b => hq q (by omega) (by omega) (by omega) (by omega) (by omega) (by omega)), ⟨h3, (hq _ (by omega) (by omega) (by omega) (by omega) (by omega) (by omega)).trans a4, a5⟩, fun k hk => ?_, ⟨v2, h1⟩, h2, a9.to (fun q a b => hq q (by omega) (by omega) (by omega) (by omega) (by omega) (by omega)), ⟨c, a10.to (fun q a b => hq q (by omega) (by omega) (by omega) (by omega) (by omega) (by omega))⟩⟩
  by_cases e : k = r
  · rw [e, yy_un_s]; exact h0
  · rw [yy_un_n e]; exact (a6 k hk).to (hq _ (by omega) (by omega) (by omega) (by omega) (by omega) (by omega)) (hq _ (by omega) (by omega) (by omega) (by omega) (by omega) (by omega))
set_option maxRecDepth 100000 in
theorem l_X8_wv {G : xx_G} {l : Launch} {A : xx_H} {b m n : Nat} {u6 u7 u8 u10 u11 : Value} {fc : Nat → Int32} {X : Nat → Nat → Int} {t : Nat → Int} {u w : Int} {W : Nat → Nat → Nat → Int} {le : Nat → Int} {mu : Nat → Nat} {p : Nat} {Q : Option Value ⊕ String → xx_H → Prop} (hb : A.2 b = xx_o 8 [.ref (b + 1), .ref (b + 2), .ref (b + 11), .ref (b + 18), .ref (b + 19), .ref (b + 226), u6, u7, u8, .ref (b + 230), u10, u11, .ref (b + 233), .ref (b + 266), .ref (b + 279), .ref (b + 281), .ref (b + 283), .ref (b + 288)]) (hc : A.2 (b + 1) = xx_i 2 fc) (hc2 : ∀ p, p < 2 → fc p = nI (yy_cn m n p)) (P : xx_pys A b m n W le mu) (hm : m ≤ 6) (hn : n ≤ 6) (hp : p < 2) (hX : ∀ q, q < 2 → ∀ k, k < 6 → (X q k).natAbs < 2 ^ 192) (k : ∀ (B : xx_H) (V : Nat → Int), (B.1 = A.1) → (xx_wk B b X t V (ye_o m n W X p (yy_cn m n p)) u w) → (∀ k, k < (yy_cn m n p) → V k = ye_v m n W X p k) → (∀ q, (q < b + 267 ∨ b + 283 ≤ q) → B.2 q = A.2 q) → xx_X G l mX8_weighValues 5 0 0 97 [(0, .ref b)] [] B Q) :
    ∀ (v i : Nat), i + v = yy_cn m n p → ∀ (B : xx_H) (V : Nat → Int), (B.1 = A.1) → (xx_wk B b X t V (ye_o m n W X p i) u w) → (∀ k, k < i → V k = ye_v m n W X p k) → (∀ q, (q < b + 267 ∨ b + 283 ≤ q) → B.2 q = A.2 q) → xx_X G l mX8_weighValues 5 0 0 9 [(0, .ref b), (1, .int (nI p)), (2, .int (nI i))] [] B Q := by
  have c6 := yy_cn6 (p := p) hm hn
  obtain ⟨⟨hpa, pa1, pa2⟩, po⟩ := id P
  intro v
  induction v with
  | zero =>
    intro i h9i B V y1 K y3 y4
    have h9e : yy_cn m n p = i := by omega
    subst h9e
    have hb2 := (y4 b (by omega)).trans hb
    refine xx_clv (lv2 := [(0, .ref b), (1, .int (nI p)), (2, .int (nI (yy_cn m n p)))]) rfl ?_
    refine xx_iload_n dX8_weighValues_9 rfl ?_
    refine xx_aload_n dX8_weighValues_10 rfl ?_
    refine xx_get xx_c8 dX8_weighValues_11 wf_X8_7 (j := 0) (by decide) hb2 rfl ?_
    refine xx_iload_n dX8_weighValues_14 rfl ?_
    refine xx_iald dX8_weighValues_15 ((y4 _ (by omega)).trans hc) (vp_in_nI (by omega) (by decide)) ?_
    refine xx_eqi (y := nI (yy_cn m n p)) (by rw [nI_clamp (by omega)]; exact hc2 _ (by omega)) ?_
    refine xx_icmp_ge (tgt := 97) dX8_weighValues_16 (by decide) (fun j16 => ?_) (fun h => absurd (Int32.le_refl _) h)
    refine xx_less [0] ?_
    refine xx_clv (lv2 := [(0, .ref b)]) rfl ?_
    exact k B V y1 K y3 y4
  | succ v ih =>
    intro i h9i B V y1 K y3 y4
    have hb2 := (y4 b (by omega)).trans hb
    obtain ⟨⟨hs, k1, k2⟩, k3, ⟨hv, k4, k5⟩, k6, ⟨pv0, k7⟩, k8, k9, ⟨dc, k10⟩⟩ := id K
    obtain ⟨g7, l7, bv, _⟩ := id (k6 i (by omega))
    have vb := ye_v_b hm hn hp (show i < yy_cn m n p by omega) (yo_w_b P hp) hX
    have ob9 : (ye_o m n W X p i).natAbs < 2 ^ 419 := ye_s_b (by omega) (fun k hk => ye_p_b (ye_v_b hm hn hp (show k < yy_cn m n p by omega) (yo_w_b P hp) hX) (hX p hp k (by omega)))
    refine xx_iload_n dX8_weighValues_9 rfl ?_
    refine xx_aload_n dX8_weighValues_10 rfl ?_
    refine xx_get xx_c8 dX8_weighValues_11 wf_X8_7 (j := 0) (by decide) hb2 rfl ?_
    refine xx_iload_n dX8_weighValues_14 rfl ?_
    refine xx_iald dX8_weighValues_15 ((y4 _ (by omega)).trans hc) (vp_in_nI (by omega) (by decide)) ?_
    refine xx_eqi (y := nI (yy_cn m n p)) (by rw [nI_clamp (by omega)]; exact hc2 _ (by omega)) ?_
    refine xx_icmp_ge (tgt := 97) dX8_weighValues_16 (by decide) (fun h => absurd h (nI_ge (a := i) (b := yy_cn m n p) (by omega) (by omega))) (fun j16 => ?_)
    refine xx_aload_n dX8_weighValues_19 rfl ?_
    refine xx_get xx_c8 dX8_weighValues_20 wf_X8_74 (j := 13) (by decide) hb2 rfl ?_
    refine xx_iload_n dX8_weighValues_23 rfl ?_
    refine xx_aald (kd := 10) (b := b + 267 + 2 * i) dX8_weighValues_24 (by decide) rfl k4 (vp_in_nI (by omega) (by decide)) (by rw [nI_clamp (by omega)]; exact k5 _ (by omega)) ?_
    refine xx_callV (N := mX0_clear) (vs := []) (b := (b + 267 + 2 * i)) (rest := []) (d2 := 0) (c2 := 0) (s2 := 0) (c3 := 0) (s3 := 0) dX8_weighValues_25 wm_X8_204 wi_X0_clear wv_X0_clear (k := 0) rfl (by decide) bv nX0_clear ⟨pX0_clear, Nat.le_of_ble_eq_true rfl, by decide, Nat.le_of_ble_eq_true rfl, by decide, by decide⟩ (c_X0_clear (k6 i (by omega))) (fun v9 Eq1 hC => ?_) (fun E9 B9 hC => absurd hC.1 (by simp))
    obtain ⟨hv9, z1, v1, f1⟩ := hC
    cases hv9
    refine xx_cst (st2 := []) rfl ?_
    have hb3 := ((f1 _ (by omega)).trans hb2)
    refine xx_aload_n dX8_weighValues_28 rfl ?_
    refine xx_get xx_c8 dX8_weighValues_29 wf_X8_16 (j := 1) (by decide) hb3 rfl ?_
    refine xx_iload_n dX8_weighValues_32 rfl ?_
    refine xx_aald (kd := 14) (b := b + 3 + 4 * p) dX8_weighValues_33 (by decide) rfl ((f1 _ (by omega)).trans ((y4 _ (by omega)).trans pa1)) (vp_in_nI (by omega) (by decide)) (by rw [nI_clamp (by omega)]; exact pa2 _ hp) ?_
    refine xx_iload_n dX8_weighValues_34 rfl ?_
    refine xx_aload_n dX8_weighValues_35 rfl ?_
    refine xx_get xx_c8 dX8_weighValues_36 wf_X8_66 (j := 12) (by decide) hb3 rfl ?_
    refine xx_iconst (v := 1) dX8_weighValues_39 (by decide) ?_
    refine xx_iload_n dX8_weighValues_40 rfl ?_
    refine xx_isub dX8_weighValues_41 ?_
    refine xx_eqi (y := nI (1 - p)) (pk_sub (a := 1) (b := p) (by omega)) ?_
    refine xx_aald (kd := 17) (b := b + 234 + 16 * (1 - p)) dX8_weighValues_42 (by decide) rfl ((f1 _ (by omega)).trans k1) (vp_in_nI (by omega) (by decide)) (by rw [nI_clamp (by omega)]; exact k2 _ (by omega)) ?_
    refine xx_aload_n dX8_weighValues_43 rfl ?_
    refine xx_get xx_c8 dX8_weighValues_44 wf_X8_74 (j := 13) (by decide) hb3 rfl ?_
    refine xx_iload_n dX8_weighValues_47 rfl ?_
    refine xx_aald (kd := 10) (b := b + 267 + 2 * i) dX8_weighValues_48 (by decide) rfl ((f1 _ (by omega)).trans k4) (vp_in_nI (by omega) (by decide)) (by rw [nI_clamp (by omega)]; exact k5 _ (by omega)) ?_
    refine xx_aload_n dX8_weighValues_49 rfl ?_
    refine xx_get xx_c8 dX8_weighValues_50 wf_X8_81 (j := 14) (by decide) hb3 rfl ?_
    have po2 : xx_po Eq1 (b + 3 + 4 * p) _ _ (mu p) (le p) (yo_w W p) := (po p hp).to ((f1 _ (by omega)).trans (y4 _ (by omega))) ((f1 _ (by omega)).trans (y4 _ (by omega)))
    refine xx_callV (N := mX4_value) (vs := [.int (nI i), .ref (b + 234 + 16 * (1 - p)), .ref (b + 267 + 2 * i), .ref (b + 279)]) (b := (b + 3 + 4 * p)) (rest := []) (d2 := 4) (c2 := 0) (s2 := 0) (c3 := 0) (s3 := 0) dX8_weighValues_53 wm_X8_207 wi_X4_value wv_X4_value (k := 4) rfl (by decide) po2.1 nX4_value ⟨pX4_value, Nat.le_of_ble_eq_true rfl, by decide, Nat.le_of_ble_eq_true rfl, by decide, by decide⟩ (c_X4_value (mu := mu p) (le := le p) (w := yo_w W p) po2 (by omega) (((k3 (1 - p) (by omega)).to (fun q9 a9 b9 => f1 q9 (by omega)))) (hX (1 - p) (by omega)) (by omega) (by omega) (by omega) (by omega) (by omega) v1 (k7.to (f1 _ (by omega)) (f1 _ (by omega)))) (fun v9 Eq2 hC => ?_) (fun E9 B9 hC => absurd hC.1 (by simp))
    obtain ⟨hv9, z2, v2, ⟨pv, v2b⟩, f2⟩ := hC
    cases hv9
    refine xx_cst (st2 := []) rfl ?_
    have hb4 := (((f2 _ (by omega) (by omega) (by omega) (by omega)).trans (f1 _ (by omega))).trans hb2)
    obtain ⟨g9, l9, bp, _⟩ := id v2b
    have v2 : xx_bg Eq2 (b + 267 + 2 * i) (ye_v m n W X p i) := v2
    refine xx_aload_n dX8_weighValues_56 rfl ?_
    refine xx_get xx_c8 dX8_weighValues_57 wf_X8_81 (j := 14) (by decide) hb4 rfl ?_
    refine xx_aload_n dX8_weighValues_60 rfl ?_
    refine xx_get xx_c8 dX8_weighValues_61 wf_X8_74 (j := 13) (by decide) hb4 rfl ?_
    refine xx_iload_n dX8_weighValues_64 rfl ?_
    refine xx_aald (kd := 10) (b := b + 267 + 2 * i) dX8_weighValues_65 (by decide) rfl (((f2 _ (by omega) (by omega) (by omega) (by omega)).trans (f1 _ (by omega))).trans k4) (vp_in_nI (by omega) (by decide)) (by rw [nI_clamp (by omega)]; exact k5 _ (by omega)) ?_
    refine xx_aload_n dX8_weighValues_66 rfl ?_
    refine xx_get xx_c8 dX8_weighValues_67 wf_X8_66 (j := 12) (by decide) hb4 rfl ?_
    refine xx_iload_n dX8_weighValues_70 rfl ?_
    refine xx_aald (kd := 17) (b := b + 234 + 16 * p) dX8_weighValues_71 (by decide) rfl (((f2 _ (by omega) (by omega) (by omega) (by omega)).trans (f1 _ (by omega))).trans k1) (vp_in_nI (by omega) (by decide)) (by rw [nI_clamp (by omega)]; exact k2 _ hp) ?_
    obtain ⟨wo1, ⟨wh, wo2, wo3⟩, wo4, _⟩ := id (k3 p hp)
    refine xx_get xx_c7 dX8_weighValues_72 wf_X8_177 (j := 0) (by decide) (((f2 _ (by omega) (by omega) (by omega) (by omega)).trans (f1 _ (by omega))).trans wo1) rfl ?_
    refine xx_iload_n dX8_weighValues_75 rfl ?_
    refine xx_aald (kd := 10) (b := b + 234 + 16 * p + 2 + 2 * i) dX8_weighValues_76 (by decide) rfl (((f2 _ (by omega) (by omega) (by omega) (by omega)).trans (f1 _ (by omega))).trans wo2) (vp_in_nI (by omega) (by decide)) (by rw [nI_clamp (by omega)]; exact wo3 _ (by omega)) ?_
    refine xx_callV (N := mX0_setProduct) (vs := [.ref (b + 267 + 2 * i), .ref (b + 234 + 16 * p + 2 + 2 * i)]) (b := (b + 279)) (rest := []) (d2 := 2) (c2 := 0) (s2 := 0) (c3 := 0) (s3 := 0) dX8_weighValues_77 wm_X8_230 wi_X0_setProduct wv_X0_setProduct (k := 0) rfl (by decide) bp nX0_setProduct ⟨pX0_setProduct, Nat.le_of_ble_eq_true rfl, by decide, Nat.le_of_ble_eq_true rfl, by decide, by decide⟩ (c_X0_setProduct v2b v2 ((wo4 i (by omega)).to ((f2 _ (by omega) (by omega) (by omega) (by omega)).trans (f1 _ (by omega))) ((f2 _ (by omega) (by omega) (by omega) (by omega)).trans (f1 _ (by omega)))) (by omega) (by omega) (by omega) (by omega) (by omega) (by omega) (by rw [← Int.natAbs_mul]; exact Nat.lt_of_le_of_lt (ye_p_b vb (hX p hp i (by omega))) yb_416)) (fun v9 Eq3 hC => ?_) (fun E9 B9 hC => absurd hC.1 (by simp))
    obtain ⟨hv9, z3, v3, f3⟩ := hC
    cases hv9
    refine xx_cst (st2 := []) rfl ?_
    have hb5 := (((f3 _ (by omega) (by omega)).trans ((f2 _ (by omega) (by omega) (by omega) (by omega)).trans (f1 _ (by omega)))).trans hb2)
    refine xx_aload_n dX8_weighValues_80 rfl ?_
    refine xx_get xx_c8 dX8_weighValues_81 wf_X8_85 (j := 15) (by decide) hb5 rfl ?_
    refine xx_aload_n dX8_weighValues_84 rfl ?_
    refine xx_get xx_c8 dX8_weighValues_85 wf_X8_81 (j := 14) (by decide) hb5 rfl ?_
    obtain ⟨g8, l8, bow, _⟩ := id (k8.to ((f3 _ (by omega) (by omega)).trans ((f2 _ (by omega) (by omega) (by omega) (by omega)).trans (f1 _ (by omega)))) ((f3 _ (by omega) (by omega)).trans ((f2 _ (by omega) (by omega) (by omega) (by omega)).trans (f1 _ (by omega)))))
    refine xx_callV (N := mX0_add) (vs := [.ref (b + 279)]) (b := (b + 281)) (rest := []) (d2 := 3) (c2 := 0) (s2 := 0) (c3 := 0) (s3 := 0) dX8_weighValues_88 wm_X8_304 wi_X0_add wv_X0_add (k := 0) rfl (by decide) bow nX0_add ⟨pX0_add, Nat.le_of_ble_eq_true rfl, by decide, Nat.le_of_ble_eq_true rfl, by decide, by decide⟩ (c_X0_add (k8.to ((f3 _ (by omega) (by omega)).trans ((f2 _ (by omega) (by omega) (by omega) (by omega)).trans (f1 _ (by omega)))) ((f3 _ (by omega) (by omega)).trans ((f2 _ (by omega) (by omega) (by omega) (by omega)).trans (f1 _ (by omega))))) v3 (by omega) (by omega) (by omega) (Nat.lt_trans (Nat.add_lt_add_of_lt_of_le ob9 (ye_p_b vb (hX p hp i (by omega)))) yb_434)) (fun v9 Eq4 hC => ?_) (fun E9 B9 hC => absurd hC.1 (by simp))
    obtain ⟨hv9, z4, v4, f4⟩ := hC
    cases hv9
    refine xx_cst (st2 := []) rfl ?_
    refine xx_iinc (v := nI (i + 1)) dX8_weighValues_91 rfl (nI_1 i) (by decide) ?_
    refine xx_clv (lv2 := [(0, .ref b), (1, .int (nI p)), (2, .int (nI (i + 1)))]) rfl ?_
    refine xx_goto (tgt := 9) dX8_weighValues_94 (by decide) ?_
    refine xx_less [0, 1, 2] ?_
    refine xx_clv (lv2 := [(0, .ref b), (1, .int (nI p)), (2, .int (nI (i + 1)))]) rfl ?_
    refine ih (i + 1) (by omega) Eq4 _ (by omega) (K.val (by omega) (v2.to ((f4 _ (by omega) (by omega)).trans (f3 _ (by omega) (by omega))) ((f4 _ (by omega) (by omega)).trans (f3 _ (by omega) (by omega)))) (v3.to (f4 _ (by omega) (by omega)) (f4 _ (by omega) (by omega))) v4 (fun q9 a1 a2 a3 a4 a5 a6 => (f4 q9 (by omega) (by omega)).trans ((f3 q9 (by omega) (by omega)).trans ((f2 q9 (by omega) (by omega) (by omega) (by omega)).trans (f1 q9 (by omega)))))) (fun k hk => ?_) (fun q9 a9 => ((f4 q9 (by omega) (by omega)).trans ((f3 q9 (by omega) (by omega)).trans ((f2 q9 (by omega) (by omega) (by omega) (by omega)).trans (f1 q9 (by omega))))).trans (y4 q9 (by omega)))
    by_cases e : k = i
    · rw [e, yy_un_s]
    · rw [yy_un_n e]; exact y3 k (by omega)
set_option maxRecDepth 100000 in
theorem c_X8_weighValues {G : xx_G} {l : Launch} {A : xx_H} {b m n : Nat} {u6 u7 u8 u10 u11 : Value} {fc : Nat → Int32} {X : Nat → Nat → Int} {t : Nat → Int} {u w : Int} {W : Nat → Nat → Nat → Int} {le : Nat → Int} {mu : Nat → Nat} {p : Nat} {V : Nat → Int} {o : Int} (hb : A.2 b = xx_o 8 [.ref (b + 1), .ref (b + 2), .ref (b + 11), .ref (b + 18), .ref (b + 19), .ref (b + 226), u6, u7, u8, .ref (b + 230), u10, u11, .ref (b + 233), .ref (b + 266), .ref (b + 279), .ref (b + 281), .ref (b + 283), .ref (b + 288)]) (hc : A.2 (b + 1) = xx_i 2 fc) (hc2 : ∀ p, p < 2 → fc p = nI (yy_cn m n p))  (P : xx_pys A b m n W le mu) (hm : m ≤ 6) (hn : n ≤ 6) (hp : p < 2) (hX : ∀ q, q < 2 → ∀ k, k < 6 → (X q k).natAbs < 2 ^ 192) (K : xx_wk A b X t V o u w) : xx_X G l mX8_weighValues 5 0 0 0 (lv_args 0 [.ref b, .int (nI p)]) [] A (fun z B => z = .inl none ∧ B.1 = A.1 ∧ (∃ V2, xx_wk B b X t V2 (ye_o m n W X p (yy_cn m n p)) u w ∧ ∀ k, k < yy_cn m n p → V2 k = ye_v m n W X p k) ∧ ∀ q, (q < b + 267 ∨ b + 283 ≤ q) → B.2 q = A.2 q) := by
  obtain ⟨⟨hs, k1, k2⟩, k3, ⟨hv, k4, k5⟩, k6, ⟨pv0, k7⟩, k8, k9, ⟨dc, k10⟩⟩ := id K
  obtain ⟨g7, l7, bo, _⟩ := id k8
  refine xx_clv (lv2 := [(0, .ref b), (1, .int (nI p))]) rfl ?_
  refine xx_aload_n dX8_weighValues_0 rfl ?_
  refine xx_get xx_c8 dX8_weighValues_1 wf_X8_85 (j := 15) (by decide) hb rfl ?_
  refine xx_callV (N := mX0_clear) (vs := []) (b := (b + 281)) (rest := []) (d2 := 0) (c2 := 0) (s2 := 0) (c3 := 0) (s3 := 0) dX8_weighValues_4 wm_X8_204 wi_X0_clear wv_X0_clear (k := 0) rfl (by decide) bo nX0_clear ⟨pX0_clear, Nat.le_of_ble_eq_true rfl, by decide, Nat.le_of_ble_eq_true rfl, by decide, by decide⟩ (c_X0_clear k8) (fun v9 Eq1 hC => ?_) (fun E9 B9 hC => absurd hC.1 (by simp))
  obtain ⟨hv9, z1, v1, f1⟩ := hC
  cases hv9
  refine xx_cst (st2 := []) rfl ?_
  refine xx_iconst (v := 0) dX8_weighValues_7 (by decide) ?_
  refine xx_istore_n dX8_weighValues_8 (by decide) ?_
  refine xx_clv (lv2 := [(0, .ref b), (1, .int (nI p)), (2, .int 0)]) rfl ?_
  refine xx_clv (lv2 := [(0, .ref b), (1, .int (nI p)), (2, .int (nI 0))]) rfl ?_
  refine l_X8_wv (A := Eq1) (t := t) (u := u) (w := w) ((f1 _ (by omega)).trans hb) ((f1 _ (by omega)).trans hc) hc2 (P.to (fun q _ _ => f1 q (by omega))) hm hn hp hX (fun B V2 y1 K2 y3 y4 => ?_) (yy_cn m n p) 0 (by omega) Eq1 V rfl ⟨⟨hs, (f1 _ (by omega)).trans k1, k2⟩, fun p hp => (k3 p hp).to (fun q _ _ => f1 q (by omega)), ⟨hv, (f1 _ (by omega)).trans k4, k5⟩, fun k hk => (k6 k hk).to (f1 _ (by omega)) (f1 _ (by omega)), ⟨pv0, k7.to (f1 _ (by omega)) (f1 _ (by omega))⟩, v1, k9.to (fun q _ _ => f1 q (by omega)), ⟨dc, k10.to (fun q _ _ => f1 q (by omega))⟩⟩ (fun k hk => absurd hk (Nat.not_lt_zero k)) (fun q _ => rfl)
  exact xx_vret dX8_weighValues_97 rfl ⟨rfl, by omega, ⟨V2, K2, y3⟩, fun q hq => (y4 q hq).trans (f1 q (by omega))⟩
/-! ===== the best rows ===== -/
def ye_m (V : Nat → Int) : Nat → Int
  | 0 => V 0
  | i + 1 => if ye_m V i < V (i + 1) then V (i + 1) else ye_m V i
def ye_b (V : Nat → Int) (i : Nat) : Nat := yb_n (fun k => decide (V k = ye_m V i)) (i + 1)
theorem ye_m_le (V : Nat → Int) : ∀ (i k : Nat), k ≤ i → V k ≤ ye_m V i
  | 0, k, h => by rw [show k = 0 by omega]; exact Int.le_refl _
  | i + 1, k, h => by
    show V k ≤ if ye_m V i < V (i + 1) then V (i + 1) else ye_m V i
    by_cases e : k = i + 1
    · subst e; split <;> omega
    · have := ye_m_le V i k (by omega)
      split <;> omega
theorem yb_zero {f : Nat → Bool} : ∀ {n : Nat}, (∀ k, k < n → f k = false) → yb_n f n = 0
  | 0, _ => rfl
  | n + 1, h => by rw [yb_s0 (by rw [h n (by omega)]; decide)]; exact yb_zero (fun k hk => h k (by omega))
theorem ye_b_gt {V : Nat → Int} {i : Nat} (h : ye_m V i < V (i + 1)) : ye_m V (i + 1) = V (i + 1) ∧ ye_b V (i + 1) = 0 + 2 ^ (i + 1) := by
  have e : ye_m V (i + 1) = V (i + 1) := if_pos h
  refine ⟨e, ?_⟩
  unfold ye_b
  rw [e, yb_s1 (decide_eq_true rfl), yb_zero (fun k hk => decide_eq_false (fun z => ?_))]
  have := ye_m_le V i k (by omega)
  omega
theorem ye_b_eq {V : Nat → Int} {i : Nat} (h : ye_m V i = V (i + 1)) : ye_m V (i + 1) = ye_m V i ∧ ye_b V (i + 1) = ye_b V i + 2 ^ (i + 1) := by
  have e : ye_m V (i + 1) = ye_m V i := if_neg (by omega)
  refine ⟨e, ?_⟩
  unfold ye_b
  rw [e, yb_s1 (decide_eq_true h.symm)]
theorem ye_b_lt {V : Nat → Int} {i : Nat} (h : V (i + 1) < ye_m V i) : ye_m V (i + 1) = ye_m V i ∧ ye_b V (i + 1) = ye_b V i := by
  have e : ye_m V (i + 1) = ye_m V i := if_neg (by omega)
  refine ⟨e, ?_⟩
  unfold ye_b
  rw [e, yb_s0 (fun z => by have := of_decide_eq_true z; omega)]
theorem ye_m_cg {V U : Nat → Int} : ∀ {i : Nat}, (∀ k, k ≤ i → V k = U k) → ye_m V i = ye_m U i
  | 0, h => h 0 (Nat.le_refl _)
  | i + 1, h => by
    show (if ye_m V i < V (i + 1) then V (i + 1) else ye_m V i) = if ye_m U i < U (i + 1) then U (i + 1) else ye_m U i
    rw [ye_m_cg (fun k hk => h k (by omega)), h (i + 1) (Nat.le_refl _)]
theorem ye_b_cg {V U : Nat → Int} {i : Nat} (h : ∀ k, k ≤ i → V k = U k) : ye_b V i = ye_b U i := by
  unfold ye_b
  refine yb_cg (fun k hk => ?_)
  rw [h k (by omega), ye_m_cg h]
theorem yy_cmz_le (a c : Int) : (yy_cmz a c ≤ 0) ↔ ¬ c < a := by
  rcases Int.lt_trichotomy a c with h | h | h
  · rw [yy_cmz_neg h]; exact ⟨fun _ => by omega, fun _ => by decide⟩
  · rw [h]; exact ⟨fun _ => by omega, fun _ => by unfold yy_cmz; rw [if_neg (by omega), if_pos rfl]; decide⟩
  · rw [yy_cmz_pos h]; exact ⟨fun z => absurd z (by decide), fun z => absurd h z⟩
theorem yy_cmz_lt (a c : Int) : (yy_cmz a c < 0) ↔ a < c := by
  rcases Int.lt_trichotomy a c with h | h | h
  · rw [yy_cmz_neg h]; exact ⟨fun _ => h, fun _ => by decide⟩
  · rw [h]; exact ⟨fun z => absurd z (by unfold yy_cmz; rw [if_neg (by omega), if_pos rfl]; decide), fun z => by omega⟩
  · rw [yy_cmz_pos h]; exact ⟨fun z => absurd z (by decide), fun z => by omega⟩
set_option maxRecDepth 100000 in
theorem l_X8_bb {G : xx_G} {l : Launch} {A : xx_H} {b m n : Nat} {u6 u7 u8 u10 u11 : Value} {fc : Nat → Int32} {X : Nat → Nat → Int} {t V : Nat → Int} {o u w : Int} {p : Nat} {Q : Option Value ⊕ String → xx_H → Prop} (hb : A.2 b = xx_o 8 [.ref (b + 1), .ref (b + 2), .ref (b + 11), .ref (b + 18), .ref (b + 19), .ref (b + 226), u6, u7, u8, .ref (b + 230), u10, u11, .ref (b + 233), .ref (b + 266), .ref (b + 279), .ref (b + 281), .ref (b + 283), .ref (b + 288)]) (hc : A.2 (b + 1) = xx_i 2 fc) (hc2 : ∀ p, p < 2 → fc p = nI (yy_cn m n p)) (K : xx_wk A b X t V o u w) (hm : m ≤ 6) (hn : n ≤ 6) (hp : p < 2) (k : ∀ (B : xx_H) (c : Nat), (B = A) → (1 ≤ (yy_cn m n p)) → (c < (yy_cn m n p)) → (V c = ye_m V ((yy_cn m n p) - 1)) → xx_X G l mX8_bestBits 2 0 0 64 [(2, .int (nI (ye_b V (yy_cn m n p - 1))))] [] B Q) :
    ∀ (v i : Nat), i + v = yy_cn m n p → ∀ (B : xx_H) (c : Nat), (B = A) → (1 ≤ i) → (c < i) → (V c = ye_m V (i - 1)) → xx_X G l mX8_bestBits 2 0 0 7 [(0, .ref b), (1, .int (nI p)), (2, .int (nI (ye_b V (i - 1)))), (3, .int (nI c)), (4, .int (nI i))] [] B Q := by
  have c6 := yy_cn6 (p := p) hm hn
  obtain ⟨⟨hs, k1, k2⟩, k3, ⟨hv, k4, k5⟩, k6, _⟩ := id K
  intro v
  induction v with
  | zero =>
    intro i h9i B c y1 y0 y2 y3
    have h9e : yy_cn m n p = i := by omega
    subst h9e
    rw [y1]
    refine xx_clv (lv2 := [(0, .ref b), (1, .int (nI p)), (2, .int (nI (ye_b V ((yy_cn m n p) - 1)))), (3, .int (nI c)), (4, .int (nI (yy_cn m n p)))]) rfl ?_
    refine xx_iload dX8_bestBits_7 rfl ?_
    refine xx_aload_n dX8_bestBits_9 rfl ?_
    refine xx_get xx_c8 dX8_bestBits_10 wf_X8_7 (j := 0) (by decide) hb rfl ?_
    refine xx_iload_n dX8_bestBits_13 rfl ?_
    refine xx_iald dX8_bestBits_14 hc (vp_in_nI (by omega) (by decide)) ?_
    refine xx_eqi (y := nI (yy_cn m n p)) (by rw [nI_clamp (by omega)]; exact hc2 _ (by omega)) ?_
    refine xx_icmp_ge (tgt := 64) dX8_bestBits_15 (by decide) (fun j15 => ?_) (fun h => absurd (Int32.le_refl _) h)
    refine xx_less [2] ?_
    refine xx_clv (lv2 := [(2, .int (nI (ye_b V (yy_cn m n p - 1))))]) rfl ?_
    exact k A c rfl y0 y2 y3
  | succ v ih =>
    intro i h9i B c y1 y0 y2 y3
    rw [y1]
    obtain ⟨g7, l7, bv, _⟩ := id (k6 i (by omega))
    obtain ⟨j9, ej⟩ : ∃ j, i = j + 1 := ⟨i - 1, by omega⟩
    have y3b : V c = ye_m V j9 := by rw [y3, show i - 1 = j9 by omega]
    refine xx_iload dX8_bestBits_7 rfl ?_
    refine xx_aload_n dX8_bestBits_9 rfl ?_
    refine xx_get xx_c8 dX8_bestBits_10 wf_X8_7 (j := 0) (by decide) hb rfl ?_
    refine xx_iload_n dX8_bestBits_13 rfl ?_
    refine xx_iald dX8_bestBits_14 hc (vp_in_nI (by omega) (by decide)) ?_
    refine xx_eqi (y := nI (yy_cn m n p)) (by rw [nI_clamp (by omega)]; exact hc2 _ (by omega)) ?_
    refine xx_icmp_ge (tgt := 64) dX8_bestBits_15 (by decide) (fun h => absurd h (nI_ge (a := i) (b := yy_cn m n p) (by omega) (by omega))) (fun j15 => ?_)
    refine xx_aload_n dX8_bestBits_18 rfl ?_
    refine xx_get xx_c8 dX8_bestBits_19 wf_X8_74 (j := 13) (by decide) hb rfl ?_
    refine xx_iload dX8_bestBits_22 rfl ?_
    refine xx_aald (kd := 10) (b := b + 267 + 2 * i) dX8_bestBits_24 (by decide) rfl k4 (vp_in_nI (by omega) (by decide)) (by rw [nI_clamp (by omega)]; exact k5 _ (by omega)) ?_
    refine xx_aload_n dX8_bestBits_25 rfl ?_
    refine xx_get xx_c8 dX8_bestBits_26 wf_X8_74 (j := 13) (by decide) hb rfl ?_
    refine xx_iload_n dX8_bestBits_29 rfl ?_
    refine xx_aald (kd := 10) (b := b + 267 + 2 * c) dX8_bestBits_30 (by decide) rfl k4 (vp_in_nI (by omega) (by decide)) (by rw [nI_clamp (by omega)]; exact k5 _ (by omega)) ?_
    refine xx_callV (N := mX0_compareWith) (vs := [.ref (b + 267 + 2 * c)]) (b := (b + 267 + 2 * i)) (rest := []) (d2 := 1) (c2 := 0) (s2 := 0) (c3 := 0) (s3 := 0) dX8_bestBits_31 wm_X8_307 wi_X0_compareWith wv_X0_compareWith (k := 0) rfl (by decide) bv nX0_compareWith ⟨pX0_compareWith, Nat.le_of_ble_eq_true rfl, by decide, Nat.le_of_ble_eq_true rfl, by decide, by decide⟩ (c_X0_compareWith (k6 i (by omega)) (k6 c (by omega))) (fun v9 B9 hC => ?_) (fun E9 B9 hC => absurd hC.1 (by simp))
    obtain ⟨hv9, e9⟩ := hC
    cases hv9
    refine xx_cst (st2 := [.int (yy_cmz (V i) (V c))]) rfl ?_
    rw [e9]
    refine xx_istore dX8_bestBits_34 (by decide) ?_
    refine xx_clv (lv2 := [(0, .ref b), (1, .int (nI p)), (2, .int (nI (ye_b V (i - 1)))), (3, .int (nI c)), (4, .int (nI i)), (5, .int (yy_cmz (V i) (V c)))]) rfl ?_
    refine xx_iload dX8_bestBits_36 rfl ?_
    refine xx_if_le (tgt := 46) dX8_bestBits_38 (by decide) (fun j38 => ?_) (fun j38 => ?_)
    · refine xx_iload dX8_bestBits_46 rfl ?_
      refine xx_if_lt (tgt := 58) dX8_bestBits_48 (by decide) (fun j48 => ?_) (fun j48 => ?_)
      · have q9 : V (j9 + 1) < ye_m V j9 := by have h2 := (yy_cmz_lt _ _).mp j48; rw [← y3b, ← ej]; exact h2
        obtain ⟨m9, b9⟩ := ye_b_lt q9
        have eb : ye_b V (i - 1) = ye_b V (i + 1 - 1) := by rw [show i + 1 - 1 = j9 + 1 by omega, b9, show i - 1 = j9 by omega]
        rw [eb]
        refine xx_iinc (v := nI (i + 1)) dX8_bestBits_58 rfl (nI_1 i) (by decide) ?_
        refine xx_clv (lv2 := [(0, .ref b), (1, .int (nI p)), (2, .int (nI (ye_b V (i + 1 - 1)))), (3, .int (nI c)), (4, .int (nI (i + 1))), (5, .int (yy_cmz (V i) (V c)))]) rfl ?_
        refine xx_goto (tgt := 7) dX8_bestBits_61 (by decide) ?_
        refine xx_less [0, 1, 2, 3, 4] ?_
        refine xx_clv (lv2 := [(0, .ref b), (1, .int (nI p)), (2, .int (nI (ye_b V ((i + 1) - 1)))), (3, .int (nI c)), (4, .int (nI (i + 1)))]) rfl ?_
        refine ih (i + 1) (by omega) A c rfl (by omega) (by omega) (by rw [show i + 1 - 1 = j9 + 1 by omega, m9, y3b])
      · refine xx_iload_n dX8_bestBits_51 rfl ?_
        refine xx_iconst (v := 1) dX8_bestBits_52 (by decide) ?_
        refine xx_iload dX8_bestBits_53 rfl ?_
        refine xx_ishl dX8_bestBits_55 ?_
        refine xx_ior dX8_bestBits_56 ?_
        have q9 : ye_m V j9 = V (j9 + 1) := by have h1 := (yy_cmz_le _ _).mp j38; have h2 : ¬ V i < V c := fun z => j48 ((yy_cmz_lt _ _).mpr z); rw [← y3b, ← ej]; omega
        obtain ⟨m9, b9⟩ := ye_b_eq q9
        have lt9 : ye_b V (i - 1) < 2 ^ i := by have := yb_lt (fun k => decide (V k = ye_m V (i - 1))) (i - 1 + 1); rw [show i - 1 + 1 = i by omega] at this; unfold ye_b; rw [show i - 1 + 1 = i by omega]; exact this
        refine xx_eqi (y := nI (ye_b V (i + 1 - 1))) (by rw [yb_or (by omega) lt9, show i + 1 - 1 = j9 + 1 by omega, b9, show i - 1 = j9 by omega, ej]) ?_
        refine xx_istore_n dX8_bestBits_57 (by decide) ?_
        refine xx_clv (lv2 := [(0, .ref b), (1, .int (nI p)), (2, .int (nI (ye_b V (i + 1 - 1)))), (3, .int (nI c)), (4, .int (nI i)), (5, .int (yy_cmz (V i) (V c)))]) rfl ?_
        refine xx_iinc (v := nI (i + 1)) dX8_bestBits_58 rfl (nI_1 i) (by decide) ?_
        refine xx_clv (lv2 := [(0, .ref b), (1, .int (nI p)), (2, .int (nI (ye_b V (i + 1 - 1)))), (3, .int (nI c)), (4, .int (nI (i + 1))), (5, .int (yy_cmz (V i) (V c)))]) rfl ?_
        refine xx_goto (tgt := 7) dX8_bestBits_61 (by decide) ?_
        refine xx_less [0, 1, 2, 3, 4] ?_
        refine xx_clv (lv2 := [(0, .ref b), (1, .int (nI p)), (2, .int (nI (ye_b V ((i + 1) - 1)))), (3, .int (nI c)), (4, .int (nI (i + 1)))]) rfl ?_
        refine ih (i + 1) (by omega) A c rfl (by omega) (by omega) (by rw [show i + 1 - 1 = j9 + 1 by omega, m9, y3b])
    · refine xx_iconst (v := 0) dX8_bestBits_41 (by decide) ?_
      refine xx_istore_n dX8_bestBits_42 (by decide) ?_
      refine xx_clv (lv2 := [(0, .ref b), (1, .int (nI p)), (2, .int 0), (3, .int (nI c)), (4, .int (nI i)), (5, .int (yy_cmz (V i) (V c)))]) rfl ?_
      refine xx_iload dX8_bestBits_43 rfl ?_
      refine xx_istore_n dX8_bestBits_45 (by decide) ?_
      refine xx_clv (lv2 := [(0, .ref b), (1, .int (nI p)), (2, .int 0), (3, .int (nI i)), (4, .int (nI i)), (5, .int (yy_cmz (V i) (V c)))]) rfl ?_
      refine xx_iload dX8_bestBits_46 rfl ?_
      refine xx_if_lt (tgt := 58) dX8_bestBits_48 (by decide) (fun h => absurd h (fun z => j38 (Int32.le_of_lt z))) (fun j48 => ?_)
      refine xx_iload_n dX8_bestBits_51 rfl ?_
      refine xx_iconst (v := 1) dX8_bestBits_52 (by decide) ?_
      refine xx_iload dX8_bestBits_53 rfl ?_
      refine xx_ishl dX8_bestBits_55 ?_
      refine xx_ior dX8_bestBits_56 ?_
      have q9 : ye_m V j9 < V (j9 + 1) := by rw [← y3b, ← ej]; exact Classical.byContradiction (fun z => j38 ((yy_cmz_le _ _).mpr z))
      obtain ⟨m9, b9⟩ := ye_b_gt q9
      refine xx_eqi (y := nI (ye_b V (i + 1 - 1))) (by rw [show (0 : Int32) = nI 0 from rfl, yb_or (by omega) (Nat.two_pow_pos i), show i + 1 - 1 = j9 + 1 by omega, b9, ej]) ?_
      refine xx_istore_n dX8_bestBits_57 (by decide) ?_
      refine xx_clv (lv2 := [(0, .ref b), (1, .int (nI p)), (2, .int (nI (ye_b V (i + 1 - 1)))), (3, .int (nI i)), (4, .int (nI i)), (5, .int (yy_cmz (V i) (V c)))]) rfl ?_
      refine xx_iinc (v := nI (i + 1)) dX8_bestBits_58 rfl (nI_1 i) (by decide) ?_
      refine xx_clv (lv2 := [(0, .ref b), (1, .int (nI p)), (2, .int (nI (ye_b V (i + 1 - 1)))), (3, .int (nI i)), (4, .int (nI (i + 1))), (5, .int (yy_cmz (V i) (V c)))]) rfl ?_
      refine xx_goto (tgt := 7) dX8_bestBits_61 (by decide) ?_
      refine xx_less [0, 1, 2, 3, 4] ?_
      refine xx_clv (lv2 := [(0, .ref b), (1, .int (nI p)), (2, .int (nI (ye_b V ((i + 1) - 1)))), (3, .int (nI i)), (4, .int (nI (i + 1)))]) rfl ?_
      refine ih (i + 1) (by omega) A i rfl (by omega) (by omega) (by rw [show i + 1 - 1 = j9 + 1 by omega, m9, ej])
set_option maxRecDepth 100000 in
theorem c_X8_bestBits {G : xx_G} {l : Launch} {A : xx_H} {b m n : Nat} {u6 u7 u8 u10 u11 : Value} {fc : Nat → Int32} {X : Nat → Nat → Int} {t V : Nat → Int} {o u w : Int} {p : Nat} (hb : A.2 b = xx_o 8 [.ref (b + 1), .ref (b + 2), .ref (b + 11), .ref (b + 18), .ref (b + 19), .ref (b + 226), u6, u7, u8, .ref (b + 230), u10, u11, .ref (b + 233), .ref (b + 266), .ref (b + 279), .ref (b + 281), .ref (b + 283), .ref (b + 288)]) (hc : A.2 (b + 1) = xx_i 2 fc) (hc2 : ∀ p, p < 2 → fc p = nI (yy_cn m n p)) (K : xx_wk A b X t V o u w) (hm : m ≤ 6) (hn : n ≤ 6) (hp : p < 2) (h1 : 1 ≤ yy_cn m n p) : xx_X G l mX8_bestBits 2 0 0 0 (lv_args 0 [.ref b, .int (nI p)]) [] A (fun z B => z = .inl (some (.int (nI (ye_b V (yy_cn m n p - 1))))) ∧ B = A) := by
  refine xx_clv (lv2 := [(0, .ref b), (1, .int (nI p))]) rfl ?_
  refine xx_iconst (v := 1) dX8_bestBits_0 (by decide) ?_
  refine xx_istore_n dX8_bestBits_1 (by decide) ?_
  refine xx_clv (lv2 := [(0, .ref b), (1, .int (nI p)), (2, .int 1)]) rfl ?_
  refine xx_iconst (v := 0) dX8_bestBits_2 (by decide) ?_
  refine xx_istore_n dX8_bestBits_3 (by decide) ?_
  refine xx_clv (lv2 := [(0, .ref b), (1, .int (nI p)), (2, .int 1), (3, .int 0)]) rfl ?_
  refine xx_iconst (v := 1) dX8_bestBits_4 (by decide) ?_
  refine xx_istore dX8_bestBits_5 (by decide) ?_
  refine xx_clv (lv2 := [(0, .ref b), (1, .int (nI p)), (2, .int 1), (3, .int 0), (4, .int 1)]) rfl ?_
  refine xx_clv (lv2 := [(0, .ref b), (1, .int (nI p)), (2, .int (nI (ye_b V (1 - 1)))), (3, .int (nI 0)), (4, .int (nI 1))]) (by rw [show ye_b V (1 - 1) = 1 from by show 0 + (if decide (V 0 = V 0) = true then 2 ^ 0 else 0) = 1; rw [if_pos (decide_eq_true rfl)]]; rfl) ?_
  refine l_X8_bb hb hc hc2 K hm hn hp (fun B c y1 _ y2 y3 => ?_) (yy_cn m n p - 1) 1 (by omega) A 0 rfl (Nat.le_refl _) (by omega) rfl
  rw [y1]
  refine xx_iload_n dX8_bestBits_64 rfl ?_
  exact xx_iret dX8_bestBits_65 rfl ⟨rfl, rfl⟩
/-! ===== to hand ===== -/
def yf_n (x d : Int) : Int := yy_qt x ((Nat.gcd x.natAbs d.natAbs : Nat) : Int)
def yf_d (x d : Int) : Int := yy_qt d ((Nat.gcd x.natAbs d.natAbs : Nat) : Int)
theorem xx_wk.han {B C : xx_H} {b c : Nat} {X : Nat → Nat → Int} {t V : Nat → Int} {o u w u2 w2 v2 : Int} (h : xx_wk B b X t V o u w) (h0 : xx_fq C (b + 283) u2 w2) (h1 : xx_bg C (b + 279) v2) (h2 : xx_dw C (b + 288) c) (hq : ∀ q, (q < b + 279 ∨ b + 297 ≤ q ∨ q = b + 281 ∨ q = b + 282) → C.2 q = B.2 q) : xx_wk C b X t V o u2 w2 := by
  obtain ⟨⟨h5, a1, a2⟩, a3, ⟨h3, a4, a5⟩, a6, _, a8, _, _⟩ := h
  exact ⟨⟨h5, (hq _ (by omega)).trans a1, a2⟩, fun p hp => (a3 p hp).to (fun q a b => hq q (by omega)), ⟨h3, (hq _ (by omega)).trans a4, a5⟩, fun k hk => (a6 k hk).to (hq _ (by omega)) (hq _ (by omega)), ⟨v2, h1⟩, a8.to (hq _ (by omega)) (hq _ (by omega)), h0, ⟨c, h2⟩⟩
theorem yb_t1 {mu : Nat} {a : Int} (hmu : mu ≤ 27720) (ha : a.natAbs < 2 ^ 195) : ((mu : Int) * a).natAbs ≤ 2 ^ 210 := by
  rw [Int.natAbs_mul, Int.natAbs_natCast]
  exact Nat.le_trans (Nat.mul_le_mul hmu (Nat.le_of_lt ha)) (by decide +kernel)
theorem yb_t2 {v a : Int} (hv : v.natAbs ≤ 2 ^ 210) (ha : a.natAbs < 2 ^ 195) : v.natAbs * a.natAbs < yB ^ 14 := Nat.lt_of_le_of_lt (Nat.mul_le_mul hv (Nat.le_of_lt ha)) (by decide +kernel)
theorem yb_t0 {mu : Nat} {a : Int} (hmu : mu ≤ 27720) (ha : a.natAbs < 2 ^ 195) : ((mu : Int)).natAbs * a.natAbs < yB ^ 14 := by
  rw [← Int.natAbs_mul]
  exact Nat.lt_of_le_of_lt (yb_t1 hmu ha) (by decide +kernel)
set_option maxRecDepth 100000 in
theorem c_X8_holdOfBoth {G : xx_G} {l : Launch} {A : xx_H} {b m n : Nat} {u6 u7 u8 u10 u11 : Value} {X : Nat → Nat → Int} {t V : Nat → Int} {o u w : Int} {p : Nat} {W : Nat → Nat → Nat → Int} {le : Nat → Int} {mu : Nat → Nat} (hb : A.2 b = xx_o 8 [.ref (b + 1), .ref (b + 2), .ref (b + 11), .ref (b + 18), .ref (b + 19), .ref (b + 226), u6, u7, u8, .ref (b + 230), u10, u11, .ref (b + 233), .ref (b + 266), .ref (b + 279), .ref (b + 281), .ref (b + 283), .ref (b + 288)]) (P : xx_pys A b m n W le mu) (K : xx_wk A b X t V o u w) (hp : p < 2) (hmu : mu p ≤ 27720) (ht : ∀ q, q < 2 → 0 ≤ t q ∧ (t q).natAbs < 2 ^ 195) : xx_X G l mX8_holdOfBoth 6 0 0 0 (lv_args 0 [.ref b, .int (nI p), .ref (b + 281)]) [] A (fun z B => z = .inl none ∧ B.1 = A.1 ∧ xx_wk B b X t V o (yf_n o ((mu p : Int) * t 0 * t 1)) (yf_d o ((mu p : Int) * t 0 * t 1)) ∧ ∀ q, (q < b + 279 ∨ b + 297 ≤ q ∨ q = b + 281 ∨ q = b + 282) → B.2 q = A.2 q) := by
  obtain ⟨⟨hpa, pa1, pa2⟩, po⟩ := id P
  obtain ⟨⟨hs, k1, k2⟩, k3, ⟨hv, k4, k5⟩, k6, ⟨pv0, k7⟩, k8, k9, ⟨dc, k10⟩⟩ := id K
  obtain ⟨q1, q2, q3⟩ := id k9
  obtain ⟨g7, l7, bu, _⟩ := id q2
  obtain ⟨g8, l8, bw, _⟩ := id q3
  refine xx_clv (lv2 := [(0, .ref b), (1, .int (nI p)), (2, .ref (b + 281))]) rfl ?_
  refine xx_aload_n dX8_holdOfBoth_0 rfl ?_
  refine xx_get xx_c8 dX8_holdOfBoth_1 wf_X8_91 (j := 16) (by decide) hb rfl ?_
  refine xx_get xx_c2 dX8_holdOfBoth_4 wf_X8_174 (j := 0) (by decide) q1 rfl ?_
  refine xx_aload_n dX8_holdOfBoth_7 rfl ?_
  refine xx_callV (N := mX0_copy) (vs := [.ref (b + 281)]) (b := (b + 283 + 1)) (rest := []) (d2 := 1) (c2 := 0) (s2 := 0) (c3 := 0) (s3 := 0) dX8_holdOfBoth_8 wm_X8_180 wi_X0_copy wv_X0_copy (k := 0) rfl (by decide) bu nX0_copy ⟨pX0_copy, Nat.le_of_ble_eq_true rfl, by decide, Nat.le_of_ble_eq_true rfl, by decide, by decide⟩ (c_X0_copy q2 k8 (by omega) (by omega) (by omega)) (fun v9 Eq1 hC => ?_) (fun E9 B9 hC => absurd hC.1 (by simp))
  obtain ⟨hv9, z1, v1, f1⟩ := hC
  cases hv9
  refine xx_cst (st2 := []) rfl ?_
  have hb1 := ((f1 _ (by omega) (by omega)).trans hb)
  have hq1 := ((f1 _ (by omega) (by omega)).trans q1)
  refine xx_aload_n dX8_holdOfBoth_11 rfl ?_
  refine xx_get xx_c8 dX8_holdOfBoth_12 wf_X8_91 (j := 16) (by decide) hb1 rfl ?_
  refine xx_get xx_c2 dX8_holdOfBoth_15 wf_X8_184 (j := 1) (by decide) hq1 rfl ?_
  refine xx_aload_n dX8_holdOfBoth_18 rfl ?_
  refine xx_get xx_c8 dX8_holdOfBoth_19 wf_X8_16 (j := 1) (by decide) hb1 rfl ?_
  refine xx_iload_n dX8_holdOfBoth_22 rfl ?_
  refine xx_aald (kd := 14) (b := b + 3 + 4 * p) dX8_holdOfBoth_23 (by decide) rfl ((f1 _ (by omega) (by omega)).trans pa1) (vp_in_nI (by omega) (by decide)) (by rw [nI_clamp (by omega)]; exact pa2 _ hp) ?_
  have po2 := ((f1 _ (by omega) (by omega)).trans (po p hp).1)
  refine xx_get xx_c4 dX8_holdOfBoth_24 wf_X8_211 (j := 2) (by decide) po2 rfl ?_
  refine xx_i2l dX8_holdOfBoth_27 ?_
  refine xx_eql (y := lN (mu p)) (nI_l (by omega)) ?_
  refine xx_eql (y := lz (mu p : Int)) rfl ?_
  refine xx_callV (N := mX0_setTo) (vs := [.long (lz (mu p : Int))]) (b := (b + 283 + 3)) (rest := []) (d2 := 1) (c2 := 0) (s2 := 0) (c3 := 0) (s3 := 0) dX8_holdOfBoth_28 wm_X8_214 wi_X0_setTo wv_X0_setTo (k := 0) rfl (by decide) ((f1 _ (by omega) (by omega)).trans bw) nX0_setTo ⟨pX0_setTo, Nat.le_of_ble_eq_true rfl, by decide, Nat.le_of_ble_eq_true rfl, by decide, by decide⟩ (c_setTo (v := (mu p : Int)) (q3.to (f1 _ (by omega) (by omega)) (f1 _ (by omega) (by omega))) (by omega) (by omega)) (fun v9 Eq2 hC => ?_) (fun E9 B9 hC => absurd hC.1 (by simp))
  obtain ⟨hv9, z2, v2, f2⟩ := hC
  cases hv9
  refine xx_cst (st2 := []) rfl ?_
  have hb2 := (((f2 _ (by omega) (by omega)).trans (f1 _ (by omega) (by omega))).trans hb)
  have hq2 := (((f2 _ (by omega) (by omega)).trans (f1 _ (by omega) (by omega))).trans q1)
  refine xx_aload_n dX8_holdOfBoth_31 rfl ?_
  refine xx_get xx_c8 dX8_holdOfBoth_32 wf_X8_91 (j := 16) (by decide) hb2 rfl ?_
  refine xx_aload_n dX8_holdOfBoth_35 rfl ?_
  refine xx_get xx_c8 dX8_holdOfBoth_36 wf_X8_66 (j := 12) (by decide) hb2 rfl ?_
  refine xx_iconst (v := 0) dX8_holdOfBoth_39 (by decide) ?_
  refine xx_aald (kd := 17) (b := b + 234) dX8_holdOfBoth_40 (by decide) rfl (((f2 _ (by omega) (by omega)).trans (f1 _ (by omega) (by omega))).trans k1) (by unfold vp_in; decide) (k2 0 (by decide)) ?_
  obtain ⟨wt0, _, _, wv0⟩ := id (k3 0 (by decide))
  refine xx_get xx_c7 dX8_holdOfBoth_41 wf_X8_187 (j := 1) (by decide) (((f2 _ (by omega) (by omega)).trans (f1 _ (by omega) (by omega))).trans wt0) rfl ?_
  refine xx_aload_n dX8_holdOfBoth_44 rfl ?_
  refine xx_get xx_c8 dX8_holdOfBoth_45 wf_X8_81 (j := 14) (by decide) hb2 rfl ?_
  have fq3 : xx_fq Eq2 (b + 283) o (mu p : Int) := ⟨(((f2 _ (by omega) (by omega)).trans (f1 _ (by omega) (by omega))).trans q1), (v1.to (f2 _ (by omega) (by omega)) (f2 _ (by omega) (by omega))), v2⟩
  refine xx_callV (N := mX2_multiplyBelow) (vs := [.ref (b + 248), .ref (b + 279)]) (b := (b + 283)) (rest := []) (d2 := 3) (c2 := 0) (s2 := 0) (c3 := 0) (s3 := 0) dX8_holdOfBoth_48 wm_X8_218 wi_X2_multiplyBelow wv_X2_multiplyBelow (k := 2) rfl (by decide) fq3.1 nX2_multiplyBelow ⟨pX2_multiplyBelow, Nat.le_of_ble_eq_true rfl, by decide, Nat.le_of_ble_eq_true rfl, by decide, by decide⟩ (c_X2_multiplyBelow fq3 (wv0.to ((f2 _ (by omega) (by omega)).trans (f1 _ (by omega) (by omega))) ((f2 _ (by omega) (by omega)).trans (f1 _ (by omega) (by omega)))) (k7.to ((f2 _ (by omega) (by omega)).trans (f1 _ (by omega) (by omega))) ((f2 _ (by omega) (by omega)).trans (f1 _ (by omega) (by omega)))) (by omega) (by omega) (by omega) (yb_t0 hmu (ht 0 (by decide)).2)) (fun v9 Eq3 hC => ?_) (fun E9 B9 hC => absurd hC.1 (by simp))
  obtain ⟨hv9, z3, v3, w3, f3⟩ := hC
  cases hv9
  refine xx_cst (st2 := []) rfl ?_
  have hb3 := (((f3 _ (by omega) (by omega) (by omega) (by omega)).trans ((f2 _ (by omega) (by omega)).trans (f1 _ (by omega) (by omega)))).trans hb)
  have hq3 := (((f3 _ (by omega) (by omega) (by omega) (by omega)).trans ((f2 _ (by omega) (by omega)).trans (f1 _ (by omega) (by omega)))).trans q1)
  refine xx_aload_n dX8_holdOfBoth_51 rfl ?_
  refine xx_get xx_c8 dX8_holdOfBoth_52 wf_X8_91 (j := 16) (by decide) hb3 rfl ?_
  refine xx_aload_n dX8_holdOfBoth_55 rfl ?_
  refine xx_get xx_c8 dX8_holdOfBoth_56 wf_X8_66 (j := 12) (by decide) hb3 rfl ?_
  refine xx_iconst (v := 1) dX8_holdOfBoth_59 (by decide) ?_
  refine xx_aald (kd := 17) (b := b + 250) dX8_holdOfBoth_60 (by decide) rfl (((f3 _ (by omega) (by omega) (by omega) (by omega)).trans ((f2 _ (by omega) (by omega)).trans (f1 _ (by omega) (by omega)))).trans k1) (by unfold vp_in; decide) (k2 1 (by decide)) ?_
  obtain ⟨wt1, _, _, wv1⟩ := id (k3 1 (by decide))
  refine xx_get xx_c7 dX8_holdOfBoth_61 wf_X8_187 (j := 1) (by decide) (((f3 _ (by omega) (by omega) (by omega) (by omega)).trans ((f2 _ (by omega) (by omega)).trans (f1 _ (by omega) (by omega)))).trans wt1) rfl ?_
  refine xx_aload_n dX8_holdOfBoth_64 rfl ?_
  refine xx_get xx_c8 dX8_holdOfBoth_65 wf_X8_81 (j := 14) (by decide) hb3 rfl ?_
  have fq4 : xx_fq Eq3 (b + 283) o ((mu p : Int) * t 0) := v3
  refine xx_callV (N := mX2_multiplyBelow) (vs := [.ref (b + 264), .ref (b + 279)]) (b := (b + 283)) (rest := []) (d2 := 3) (c2 := 0) (s2 := 0) (c3 := 0) (s3 := 0) dX8_holdOfBoth_68 wm_X8_218 wi_X2_multiplyBelow wv_X2_multiplyBelow (k := 2) rfl (by decide) fq4.1 nX2_multiplyBelow ⟨pX2_multiplyBelow, Nat.le_of_ble_eq_true rfl, by decide, Nat.le_of_ble_eq_true rfl, by decide, by decide⟩ (c_X2_multiplyBelow fq4 (wv1.to ((f3 _ (by omega) (by omega) (by omega) (by omega)).trans ((f2 _ (by omega) (by omega)).trans (f1 _ (by omega) (by omega)))) ((f3 _ (by omega) (by omega) (by omega) (by omega)).trans ((f2 _ (by omega) (by omega)).trans (f1 _ (by omega) (by omega))))) w3 (by omega) (by omega) (by omega) (yb_t2 (yb_t1 hmu (ht 0 (by decide)).2) (ht 1 (by decide)).2)) (fun v9 Eq4 hC => ?_) (fun E9 B9 hC => absurd hC.1 (by simp))
  obtain ⟨hv9, z4, v4, w4, f4⟩ := hC
  cases hv9
  refine xx_cst (st2 := []) rfl ?_
  have hb4 := (((f4 _ (by omega) (by omega) (by omega) (by omega)).trans ((f3 _ (by omega) (by omega) (by omega) (by omega)).trans ((f2 _ (by omega) (by omega)).trans (f1 _ (by omega) (by omega))))).trans hb)
  have hq4 := (((f4 _ (by omega) (by omega) (by omega) (by omega)).trans ((f3 _ (by omega) (by omega) (by omega) (by omega)).trans ((f2 _ (by omega) (by omega)).trans (f1 _ (by omega) (by omega))))).trans q1)
  refine xx_aload_n dX8_holdOfBoth_71 rfl ?_
  refine xx_get xx_c8 dX8_holdOfBoth_72 wf_X8_91 (j := 16) (by decide) hb4 rfl ?_
  refine xx_aload_n dX8_holdOfBoth_75 rfl ?_
  refine xx_get xx_c8 dX8_holdOfBoth_76 wf_X8_98 (j := 17) (by decide) hb4 rfl ?_
  refine xx_callV (N := mX2_reduce) (vs := [.ref (b + 288)]) (b := (b + 283)) (rest := []) (d2 := 5) (c2 := 0) (s2 := 0) (c3 := 0) (s3 := 0) dX8_holdOfBoth_79 wm_X8_190 wi_X2_reduce wv_X2_reduce (k := 2) rfl (by decide) v4.1 nX2_reduce ⟨pX2_reduce, Nat.le_of_ble_eq_true rfl, by decide, Nat.le_of_ble_eq_true rfl, by decide, by decide⟩ (c_X2_reduce v4 (k10.to (fun q9 a9 b9 => (f4 q9 (by omega) (by omega) (by omega) (by omega)).trans ((f3 q9 (by omega) (by omega) (by omega) (by omega)).trans ((f2 q9 (by omega) (by omega)).trans (f1 q9 (by omega) (by omega)))))) (by omega) (Int.mul_nonneg (Int.mul_nonneg (by omega) (ht 0 (by decide)).1) (ht 1 (by decide)).1)) (fun v9 Eq5 hC => ?_) (fun E9 B9 hC => absurd hC.1 (by simp))
  obtain ⟨hv9, pp, z5, v5, w5, f5⟩ := hC
  cases hv9
  refine xx_cst (st2 := []) rfl ?_
  exact xx_vret dX8_holdOfBoth_82 rfl ⟨rfl, by omega, K.han w5 (w4.to (f5 _ (by omega) (by omega)) (f5 _ (by omega) (by omega))) v5 (fun q9 a9 => (f5 q9 (by omega) (by omega)).trans ((f4 q9 (by omega) (by omega) (by omega) (by omega)).trans ((f3 q9 (by omega) (by omega) (by omega) (by omega)).trans ((f2 q9 (by omega) (by omega)).trans (f1 q9 (by omega) (by omega)))))), fun q9 a9 => (f5 q9 (by omega) (by omega)).trans ((f4 q9 (by omega) (by omega) (by omega) (by omega)).trans ((f3 q9 (by omega) (by omega) (by omega) (by omega)).trans ((f2 q9 (by omega) (by omega)).trans (f1 q9 (by omega) (by omega)))))⟩
