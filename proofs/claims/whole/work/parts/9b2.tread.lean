/-! ===== Table.read ===== -/
theorem yw_x_one {m p sd r k i : Nat} {bs : Nat → Nat} {T : Nat → Nat → Int} (hi : i < r) (ho : yw_o m p (bs i) = true) (hk : bs i = yq_fl m (1 - p) + k) (hj : ∀ u v, u < r → v < r → bs u = bs v → u = v) : yw_x m p bs T sd r k = T i sd := by
  unfold yw_x
  rw [yd_s_one hi (fun j hj9 ne => if_neg (fun h => ne (hj j i hj9 hi (h.2.trans hk.symm))))]
  exact if_pos ⟨ho, hk⟩
theorem yw_x_zero {m p sd r k : Nat} {bs : Nat → Nat} {T : Nat → Nat → Int} (h : ∀ j, j < r → ¬ (yw_o m p (bs j) = true ∧ bs j = yq_fl m (1 - p) + k)) : yw_x m p bs T sd r k = 0 := yd_s_zero (fun j hj => if_neg (h j hj))
theorem yw_o_of {m n p k : Nat} (hp : p < 2) (hk : k < yy_cn m n p) : yw_o m p (yq_fl m (1 - p) + k) = true := by
  unfold yw_o
  unfold yy_cn at hk
  by_cases z : p = 0
  · rw [if_pos z] at hk ⊢
    rw [z]
    exact decide_eq_true (by show (if 1 - 0 = 0 then m else 0) + k < m; rw [if_neg (by decide)]; omega)
  · have e : p = 1 := by omega
    subst e
    rw [if_neg (by decide)]
    exact decide_eq_true (by show m ≤ (if 1 - 1 = 0 then m else 0) + k; rw [if_pos (by decide)]; omega)
theorem yw_x_out {m n p sd r k : Nat} {bs : Nat → Nat} {T : Nat → Nat → Int} (hp : p < 2) (hl : ∀ j, j < r → bs j < m + n) (hk : ¬ k < yy_cn m n p) : yw_x m p bs T sd r k = 0 := by
  refine yw_x_zero (fun j hj h => ?_)
  have hb := hl j hj
  obtain ⟨h1, h2⟩ := h
  unfold yw_o at h1
  unfold yy_cn at hk
  by_cases z : p = 0
  · rw [if_pos z] at hk h1
    have := of_decide_eq_true h1
    rw [z] at h2
    rw [show yq_fl m (1 - 0) = 0 from rfl] at h2
    omega
  · have e : p = 1 := by omega
    subst e
    rw [if_neg (by decide)] at hk
    rw [show yq_fl m (1 - 1) = m from rfl] at h2
    omega
set_option maxRecDepth 100000 in
theorem l_X5_read {G : xx_G} {l : Launch} {A : xx_H} {t s m n p : Nat} {a : Nat → Nat → Int} {bs : Nat → Nat} {tt9 : Int} {Q : Option Value ⊕ String → xx_H → Prop} (H : xx_tq A t m n p a bs) (hp : p < 2) (hm : m ≤ 6) (hn : n ≤ 6) (hj : ∀ u v, u < yy_rw m n p → v < yy_rw m n p → bs u = bs v → u = v) (dj : t + 103 ≤ s ∨ s + 16 ≤ t) (k : ∀ (B : xx_H) (Y : Nat → Int), (B.1 = A.1) → (xx_wt B s Y tt9) → (∀ k, k < 6 → Y k = if k < (yy_cn m n p) then yw_x m p bs (yh_T (yy_rw m n p) a bs) (m + n) (yy_rw m n p) k else 0) → (∀ q, (q < s ∨ s + 16 ≤ q) → B.2 q = A.2 q) → xx_X G l mX5_read 2 0 0 67 [(0, .ref t)] [] B Q) :
    ∀ (v i : Nat), i + v = yy_cn m n p → ∀ (B : xx_H) (Y : Nat → Int), (B.1 = A.1) → (xx_wt B s Y tt9) → (∀ k, k < 6 → Y k = if k < i then yw_x m p bs (yh_T (yy_rw m n p) a bs) (m + n) (yy_rw m n p) k else 0) → (∀ q, (q < s ∨ s + 16 ≤ q) → B.2 q = A.2 q) → xx_X G l mX5_read 2 0 0 3 [(0, .ref t), (1, .int (nI (yq_fl m (1 - p)))), (2, .int (nI (yy_cn m n p))), (3, .ref s), (4, .int (nI i))] [] B Q := by
  have c6 := yy_cn6 (p := p) hm hn
  have fl6 : yq_fl m (1 - p) ≤ 6 := by unfold yq_fl; split <;> omega
  obtain ⟨rl, cl, P, V, tb, rb, ⟨v1, v2, v3⟩, vb, u1, u2⟩ := H
  obtain ⟨ob, r6, cc6, ⟨rf, rl1, rl2⟩, ⟨cf, cl1, cl2⟩, rll, cll, fll, ⟨hc, hc1, hc2⟩, rng, inj, big, _, _, _⟩ := id tb
  intro v
  induction v with
  | zero =>
    intro i h9i B Y y1 W y3 y4
    have h9e : yy_cn m n p = i := by omega
    subst h9e
    refine xx_clv (lv2 := [(0, .ref t), (1, .int (nI (yq_fl m (1 - p)))), (2, .int (nI (yy_cn m n p))), (3, .ref s), (4, .int (nI (yy_cn m n p)))]) rfl ?_
    refine xx_iload dX5_read_3 rfl ?_
    refine xx_iload_n dX5_read_5 rfl ?_
    refine xx_icmp_ge (tgt := 67) dX5_read_6 (by decide) (fun j6 => ?_) (fun h => absurd (Int32.le_refl _) h)
    refine xx_less [0] ?_
    refine xx_clv (lv2 := [(0, .ref t)]) rfl ?_
    exact k B Y y1 W y3 y4
  | succ v ih =>
    intro i h9i B Y y1 W y3 y4
    obtain ⟨w1, ⟨h9, w2, w3⟩, w4, w5⟩ := id W
    obtain ⟨f9, l9, bo, _⟩ := id (w4 i (by omega))
    have ob2 := (y4 t (by omega)).trans ob
    refine xx_iload dX5_read_3 rfl ?_
    refine xx_iload_n dX5_read_5 rfl ?_
    refine xx_icmp_ge (tgt := 67) dX5_read_6 (by decide) (fun h => absurd h (nI_ge (a := i) (b := yy_cn m n p) (by omega) (by omega))) (fun j6 => ?_)
    refine xx_iload dX5_read_9 rfl ?_
    refine xx_bipush (v := 6) dX5_read_11 (by decide) ?_
    refine xx_icmp_ge (tgt := 67) dX5_read_13 (by decide) (fun h => absurd h (nI_ge (a := i) (b := 6) (by omega) (by omega))) (fun j13 => ?_)
    refine xx_aload_n dX5_read_16 rfl ?_
    refine xx_get xx_c5 dX5_read_17 wf_X5_21 (j := 3) (by decide) ob2 rfl ?_
    refine xx_aload_n dX5_read_20 rfl ?_
    refine xx_get xx_c5 dX5_read_21 wf_X5_9 (j := 0) (by decide) ob2 rfl ?_
    refine xx_iload_n dX5_read_24 rfl ?_
    refine xx_iload dX5_read_25 rfl ?_
    refine xx_iadd dX5_read_27 ?_
    refine xx_eqi (y := nI (yq_fl m (1 - p) + i)) (nI_add (yq_fl m (1 - p)) i) ?_
    refine xx_callS (N := mX5_find) (vs := [.ref (t + 1), .int (nI (yy_rw m n p)), .int (nI (yq_fl m (1 - p) + i))]) (rest := []) (d2 := 0) (c2 := 0) (s2 := 0) (c3 := 0) (s3 := 0) dX5_read_28 wm_X5_72 ws_X5_find wz_X5 (by decide) nX5_find ⟨pX5_find, Nat.le_of_ble_eq_true rfl, by decide, Nat.le_of_ble_eq_true rfl, by decide, by decide⟩ (c_X5_find (lb := rl) ((y4 (t + 1) (by omega)).trans rl1) r6 (by omega) rl2 (fun j hj9 => by have := rll j hj9; omega)) (fun v9 B9 hC => ?_) (fun E9 B9 hC => by obtain ⟨_, ⟨_, _, _, _, h⟩ | ⟨_, h⟩⟩ := hC <;> cases h)
    obtain ⟨e9, ⟨r, hr, er, _, hv9⟩ | ⟨er, hv9⟩⟩ := hC
    · cases hv9
      rw [e9]
      refine xx_cst (st2 := [.int (nI r)]) rfl ?_
      refine xx_istore dX5_read_31 (by decide) ?_
      refine xx_clv (lv2 := [(0, .ref t), (1, .int (nI (yq_fl m (1 - p)))), (2, .int (nI (yy_cn m n p))), (3, .ref s), (4, .int (nI i)), (5, .int (nI r))]) rfl ?_
      refine xx_iload dX5_read_33 rfl ?_
      refine xx_if_lt (tgt := 61) dX5_read_35 (by decide) (fun h => absurd h (nI_pos (by omega))) (fun j35 => ?_)
      refine xx_aload_n dX5_read_38 rfl ?_
      refine xx_get xx_c7 dX5_read_39 wf_X5_84 (j := 0) (by decide) w1 rfl ?_
      refine xx_iload dX5_read_42 rfl ?_
      refine xx_aald (kd := 10) (b := s + 2 + 2 * i) dX5_read_44 (by decide) rfl w2 (vp_in_nI (by omega) (by decide)) (by rw [nI_clamp (by omega)]; exact w3 _ (by omega)) ?_
      refine xx_aload_n dX5_read_45 rfl ?_
      refine xx_get xx_c5 dX5_read_46 wf_X5_32 (j := 5) (by decide) ob2 rfl ?_
      refine xx_iload dX5_read_49 rfl ?_
      refine xx_bipush (v := 7) dX5_read_51 (by decide) ?_
      refine xx_imul dX5_read_53 ?_
      refine xx_eqi (y := nI (r * 7)) (pk_mul r 7) ?_
      refine xx_bipush (v := 6) dX5_read_54 (by decide) ?_
      refine xx_iadd dX5_read_56 ?_
      refine xx_eqi (y := nI (r * 7 + 6)) (nI_add (r * 7) 6) ?_
      obtain ⟨ra, rc, rd⟩ := rng (r * 7 + 6) (by omega)
      refine xx_aald (kd := 10) (b := P (r * 7 + 6)) dX5_read_57 (by decide) rfl ((y4 (t + 3) (by omega)).trans hc1) (vp_in_nI (by omega) (by decide)) (by rw [nI_clamp (by omega)]; exact hc2 _ (by omega)) ?_
      refine xx_callV (N := mX0_copy) (vs := [.ref (P (r * 7 + 6))]) (b := (s + 2 + 2 * i)) (rest := []) (d2 := 1) (c2 := 0) (s2 := 0) (c3 := 0) (s3 := 0) dX5_read_58 wm_X5_89 wi_X0_copy wv_X0_copy (k := 0) rfl (by decide) bo nX0_copy ⟨pX0_copy, Nat.le_of_ble_eq_true rfl, by decide, Nat.le_of_ble_eq_true rfl, by decide, by decide⟩ (c_X0_copy (w4 i (by omega)) ((big (r * 7 + 6) (by omega)).to (y4 _ (by omega)) (y4 _ (by omega))) (by omega) (by omega) (by omega)) (fun v9 D hC => ?_) (fun E9 B9 hC => absurd hC.1 (by simp))
      obtain ⟨hv8, k1, k2, k3⟩ := hC
      cases hv8
      refine xx_cst (st2 := []) rfl ?_
      refine xx_iinc (v := nI (i + 1)) dX5_read_61 rfl (nI_1 i) (by decide) ?_
      refine xx_clv (lv2 := [(0, .ref t), (1, .int (nI (yq_fl m (1 - p)))), (2, .int (nI (yy_cn m n p))), (3, .ref s), (4, .int (nI (i + 1))), (5, .int (nI r))]) rfl ?_
      refine xx_goto (tgt := 3) dX5_read_64 (by decide) ?_
      refine xx_less [0, 1, 2, 3, 4] ?_
      refine xx_clv (lv2 := [(0, .ref t), (1, .int (nI (yq_fl m (1 - p)))), (2, .int (nI (yy_cn m n p))), (3, .ref s), (4, .int (nI (i + 1)))]) rfl ?_
      refine ih (i + 1) (by omega) D _ (by omega) (W.put (by omega) k2 k3) (fun k hk => ?_) (fun q hq => (k3 q (by omega) (by omega)).trans (y4 q hq))
      have eb : bs r = yq_fl m (1 - p) + i := (rb r hr).symm.trans er
      by_cases e : k = i
      · rw [e, yy_un_s, if_pos (by omega), v2 r hr, yw_x_one hr (by rw [eb]; exact yw_o_of (n := n) hp (by omega)) eb hj]
      · rw [yy_un_n e, y3 k hk]
        by_cases z : k < i
        · rw [if_pos z, if_pos (by omega)]
        · rw [if_neg z, if_neg (by omega)]
    · cases hv9
      rw [e9]
      refine xx_cst (st2 := [.int (-1)]) rfl ?_
      refine xx_istore dX5_read_31 (by decide) ?_
      refine xx_clv (lv2 := [(0, .ref t), (1, .int (nI (yq_fl m (1 - p)))), (2, .int (nI (yy_cn m n p))), (3, .ref s), (4, .int (nI i)), (5, .int (-1))]) rfl ?_
      refine xx_iload dX5_read_33 rfl ?_
      refine xx_if_lt (tgt := 61) dX5_read_35 (by decide) (fun j35 => ?_) (fun h => absurd (by decide) h)
      refine xx_iinc (v := nI (i + 1)) dX5_read_61 rfl (nI_1 i) (by decide) ?_
      refine xx_clv (lv2 := [(0, .ref t), (1, .int (nI (yq_fl m (1 - p)))), (2, .int (nI (yy_cn m n p))), (3, .ref s), (4, .int (nI (i + 1))), (5, .int (-1))]) rfl ?_
      refine xx_goto (tgt := 3) dX5_read_64 (by decide) ?_
      refine xx_less [0, 1, 2, 3, 4] ?_
      refine xx_clv (lv2 := [(0, .ref t), (1, .int (nI (yq_fl m (1 - p)))), (2, .int (nI (yy_cn m n p))), (3, .ref s), (4, .int (nI (i + 1)))]) rfl ?_
      refine ih (i + 1) (by omega) B Y (by omega) W (fun k hk => ?_) y4
      rw [y3 k hk]
      by_cases z : k < i
      · rw [if_pos z, if_pos (by omega)]
      · rw [if_neg z]
        by_cases e : k = i
        · rw [if_pos (by omega), e, yw_x_zero (fun j hj9 h => er j hj9 ((rb j hj9).trans h.2))]
        · rw [if_neg (by omega)]
set_option maxRecDepth 100000 in
theorem c_X5_read {G : xx_G} {l : Launch} {A : xx_H} {t s m n p : Nat} {a : Nat → Nat → Int} {bs : Nat → Nat} {tt9 : Int} {X : Nat → Int} (H : xx_tq A t m n p a bs) (hp : p < 2) (hm : m ≤ 6) (hn : n ≤ 6) (hj : ∀ u v, u < yy_rw m n p → v < yy_rw m n p → bs u = bs v → u = v) (dj : t + 103 ≤ s ∨ s + 16 ≤ t) (W : xx_wt A s X tt9) (hX : ∀ k, k < 6 → X k = 0) (hl : ∀ j, j < yy_rw m n p → bs j < m + n) : xx_X G l mX5_read 2 0 0 0 (lv_args 0 [.ref t, .int (nI (yq_fl m (1 - p))), .int (nI (yy_cn m n p)), .ref s]) [] A (fun z B => z = .inl none ∧ B.1 = A.1 ∧ xx_wt B s (fun k => yw_x m p bs (yh_T (yy_rw m n p) a bs) (m + n) (yy_rw m n p) k) tt9 ∧ ∀ q, (q < s ∨ s + 16 ≤ q) → B.2 q = A.2 q) := by
  refine xx_clv (lv2 := [(0, .ref t), (1, .int (nI (yq_fl m (1 - p)))), (2, .int (nI (yy_cn m n p))), (3, .ref s)]) rfl ?_
  refine xx_iconst (v := 0) dX5_read_0 (by decide) ?_
  refine xx_istore dX5_read_1 (by decide) ?_
  refine xx_clv (lv2 := [(0, .ref t), (1, .int (nI (yq_fl m (1 - p)))), (2, .int (nI (yy_cn m n p))), (3, .ref s), (4, .int 0)]) rfl ?_
  refine xx_clv (lv2 := [(0, .ref t), (1, .int (nI (yq_fl m (1 - p)))), (2, .int (nI (yy_cn m n p))), (3, .ref s), (4, .int (nI 0))]) rfl ?_
  refine l_X5_read (tt9 := tt9) H hp hm hn hj dj (fun B Y y1 W2 y3 y4 => ?_) (yy_cn m n p) 0 (by omega) A X rfl W (fun k hk => (hX k hk).trans (if_neg (Nat.not_lt_zero k)).symm) (fun q _ => rfl)
  refine xx_vret dX5_read_67 rfl ⟨rfl, y1, W2.cg (fun k hk => ?_), y4⟩
  rw [y3 k hk]
  by_cases z : k < yy_cn m n p
  · rw [if_pos z]
  · rw [if_neg z, yw_x_out hp hl z]
/-! ===== Payoffs.value ===== -/
theorem yy_v192 {w x : Int} (hw : w.natAbs ≤ 277172280) (hx : x.natAbs < 2 ^ 192) : (w * x).natAbs ≤ 2 ^ 221 := by
  rw [Int.natAbs_mul]
  exact Nat.le_trans (Nat.mul_le_mul hw (Nat.le_of_lt hx)) (by decide +kernel)
theorem yy_v224 {r : Nat} {f : Nat → Int} (hr : r ≤ 6) (h : ∀ k, k < r → (f k).natAbs ≤ 2 ^ 221) : (yd_s r f).natAbs < 2 ^ 224 := Nat.lt_of_le_of_lt (yd_s_abs h) (Nat.lt_of_le_of_lt (Nat.mul_le_mul_right _ hr) (by decide +kernel))
set_option maxRecDepth 100000 in
theorem l_X4_value {G : xx_G} {l : Launch} {A : xx_H} {p ow ot mu r s sm sp : Nat} {le : Int} {w : Nat → Nat → Int} {X : Nat → Int} {t : Int} {Q : Option Value ⊕ String → xx_H → Prop} (hp : xx_po A p ow ot mu le w) (hr : r < ow) (W : xx_wt A s X t) (hX : ∀ k, k < 6 → (X k).natAbs < 2 ^ 192) (d1 : sp + 2 ≤ s ∨ s + 16 ≤ sp) (d2 : sm + 2 ≤ s ∨ s + 16 ≤ sm) (d3 : sp + 2 ≤ p ∨ p + 4 ≤ sp) (d4 : sm + 2 ≤ p ∨ p + 4 ≤ sm) (d5 : sm + 2 ≤ sp ∨ sp + 2 ≤ sm) (k : ∀ (B : xx_H) (u : Int), (B.1 = A.1) → (xx_bg B sm (yd_s ot (fun k => w r k * X k))) → (xx_bg B sp u) → (∀ q, q ≠ sm → q ≠ sm + 1 → q ≠ sp → q ≠ sp + 1 → B.2 q = A.2 q) → xx_X G l mX4_value 4 0 0 48 [(0, .ref p)] [] B Q) :
    ∀ (v i : Nat), i + v = ot → ∀ (B : xx_H) (u : Int), (B.1 = A.1) → (xx_bg B sm (yd_s i (fun k => w r k * X k))) → (xx_bg B sp u) → (∀ q, q ≠ sm → q ≠ sm + 1 → q ≠ sp → q ≠ sp + 1 → B.2 q = A.2 q) → xx_X G l mX4_value 4 0 0 3 [(0, .ref p), (1, .int (nI r)), (2, .ref s), (3, .ref sm), (4, .ref sp), (5, .int (nI i))] [] B Q := by
  obtain ⟨ob, o6, t6, ⟨f, f1, f2⟩, wb, lb⟩ := id hp
  obtain ⟨w1, ⟨h9, w2, w3⟩, w4, w5⟩ := id W
  intro v
  induction v with
  | zero =>
    intro i h9i B u y1 H y3 y4
    have h9e : ot = i := by omega
    subst h9e
    have ob2 := (y4 p (by omega) (by omega) (by omega) (by omega)).trans ob
    refine xx_clv (lv2 := [(0, .ref p), (1, .int (nI r)), (2, .ref s), (3, .ref sm), (4, .ref sp), (5, .int (nI ot))]) rfl ?_
    refine xx_iload dX4_value_3 rfl ?_
    refine xx_aload_n dX4_value_5 rfl ?_
    refine xx_get xx_c4 dX4_value_6 wf_X4_15 (j := 1) (by decide) ob2 rfl ?_
    refine xx_icmp_ge (tgt := 48) dX4_value_9 (by decide) (fun j9 => ?_) (fun h => absurd (Int32.le_refl _) h)
    refine xx_less [0] ?_
    refine xx_clv (lv2 := [(0, .ref p)]) rfl ?_
    exact k B u y1 H y3 y4
  | succ v ih =>
    intro i h9i B u y1 H y3 y4
    have ob2 := (y4 p (by omega) (by omega) (by omega) (by omega)).trans ob
    have w1b := (y4 s (by omega) (by omega) (by omega) (by omega)).trans w1
    obtain ⟨f9, l9, bsp, _⟩ := id y3
    have wb9 := wb r hr i (by omega)
    have e7 : (iz (w r i)).toInt = w r i := iz_toInt (by omega) (by omega)
    have p7 : (w r i * X i).natAbs ≤ 2 ^ 221 := yy_v192 wb9 (hX i (by omega))
    have s7 : (yd_s i (fun k => w r k * X k)).natAbs < 2 ^ 224 := yy_v224 (by omega) (fun k hk => yy_v192 (wb r hr k (by omega)) (hX k (by omega)))
    refine xx_iload dX4_value_3 rfl ?_
    refine xx_aload_n dX4_value_5 rfl ?_
    refine xx_get xx_c4 dX4_value_6 wf_X4_15 (j := 1) (by decide) ob2 rfl ?_
    refine xx_icmp_ge (tgt := 48) dX4_value_9 (by decide) (fun h => absurd h (nI_ge (a := i) (b := ot) (by omega) (by omega))) (fun j9 => ?_)
    refine xx_aload dX4_value_12 rfl ?_
    refine xx_aload_n dX4_value_14 rfl ?_
    refine xx_get xx_c7 dX4_value_15 wf_X4_56 (j := 0) (by decide) w1b rfl ?_
    refine xx_iload dX4_value_18 rfl ?_
    refine xx_aald (kd := 10) (b := s + 2 + 2 * i) dX4_value_20 (by decide) rfl ((y4 (s + 1) (by omega) (by omega) (by omega) (by omega)).trans w2) (vp_in_nI (by omega) (by decide)) (by rw [nI_clamp (by omega)]; exact w3 _ (by omega)) ?_
    refine xx_aload_n dX4_value_21 rfl ?_
    refine xx_get xx_c4 dX4_value_22 wf_X4_31 (j := 6) (by decide) ob2 rfl ?_
    refine xx_iload_n dX4_value_25 rfl ?_
    refine xx_bipush (v := 6) dX4_value_26 (by decide) ?_
    refine xx_imul dX4_value_28 ?_
    refine xx_eqi (y := nI (r * 6)) (pk_mul r 6) ?_
    refine xx_iload dX4_value_29 rfl ?_
    refine xx_iadd dX4_value_31 ?_
    refine xx_eqi (y := nI (r * 6 + i)) (nI_add (r * 6) i) ?_
    refine xx_iald dX4_value_32 ((y4 (p + 3) (by omega) (by omega) (by omega) (by omega)).trans f1) (vp_in_nI (by omega) (by decide)) ?_
    refine xx_eqi (y := iz (w r i)) (by rw [nI_clamp (by omega)]; exact f2 r hr i (by omega)) ?_
    refine xx_callV (N := mX0_setProductBy) (vs := [.ref (s + 2 + 2 * i), .int (iz (w r i))]) (b := sp) (rest := []) (d2 := 2) (c2 := 0) (s2 := 0) (c3 := 0) (s3 := 0) dX4_value_33 wm_X4_62 wi_X0_setProductBy wv_X0_setProductBy (k := 0) rfl (by decide) bsp nX0_setProductBy ⟨pX0_setProductBy, Nat.le_of_ble_eq_true rfl, by decide, Nat.le_of_ble_eq_true rfl, by decide, by decide⟩ (c_X0_setProductBy y3 ((w4 i (by omega)).to (y4 _ (by omega) (by omega) (by omega) (by omega)) (y4 _ (by omega) (by omega) (by omega) (by omega))) (by omega) (by omega) (by omega) (by rw [e7]; exact Nat.lt_of_le_of_lt wb9 (by decide +kernel)) (Nat.lt_trans (hX i (by omega)) (by decide +kernel))) (fun v9 D hC => ?_) (fun E9 B9 hC => absurd hC.1 (by simp))
    obtain ⟨hv8, k1, k2, k3⟩ := hC
    cases hv8
    refine xx_cst (st2 := []) rfl ?_
    refine xx_aload_n dX4_value_36 rfl ?_
    refine xx_aload dX4_value_37 rfl ?_
    rw [e7, Int.mul_comm] at k2
    have H2 : xx_bg D sm _ := H.to (k3 _ (by omega) (by omega)) (k3 _ (by omega) (by omega))
    obtain ⟨f7, l7, bsm, _⟩ := id H2
    refine xx_callV (N := mX0_add) (vs := [.ref sp]) (b := sm) (rest := []) (d2 := 3) (c2 := 0) (s2 := 0) (c3 := 0) (s3 := 0) dX4_value_39 wm_X4_68 wi_X0_add wv_X0_add (k := 0) rfl (by decide) bsm nX0_add ⟨pX0_add, Nat.le_of_ble_eq_true rfl, by decide, Nat.le_of_ble_eq_true rfl, by decide, by decide⟩ (c_X0_add H2 k2 (by omega) (by omega) (by omega) (Nat.lt_trans (Nat.add_lt_add s7 (Nat.lt_of_le_of_lt p7 (Nat.pow_lt_pow_right (show 1 < 2 by decide) (show 221 < 224 by decide)))) (by decide +kernel))) (fun v9 D2 hC => ?_) (fun E9 B9 hC => absurd hC.1 (by simp))
    obtain ⟨hv7, n1, n2, n3⟩ := hC
    cases hv7
    refine xx_cst (st2 := []) rfl ?_
    refine xx_iinc (v := nI (i + 1)) dX4_value_42 rfl (nI_1 i) (by decide) ?_
    refine xx_clv (lv2 := [(0, .ref p), (1, .int (nI r)), (2, .ref s), (3, .ref sm), (4, .ref sp), (5, .int (nI (i + 1)))]) rfl ?_
    refine xx_goto (tgt := 3) dX4_value_45 (by decide) ?_
    refine xx_less [0, 1, 2, 3, 4, 5] ?_
    refine xx_clv (lv2 := [(0, .ref p), (1, .int (nI r)), (2, .ref s), (3, .ref sm), (4, .ref sp), (5, .int (nI (i + 1)))]) rfl ?_
    refine ih (i + 1) (by omega) D2 _ (by omega) n2 (k2.to (n3 _ (by omega) (by omega)) (n3 _ (by omega) (by omega))) (fun q a1 a2 a3 a4 => (n3 q a1 a2).trans ((k3 q a3 a4).trans (y4 q a1 a2 a3 a4)))
set_option maxRecDepth 100000 in
theorem c_X4_value {G : xx_G} {l : Launch} {A : xx_H} {p ow ot mu r s sm sp : Nat} {le : Int} {w : Nat → Nat → Int} {X : Nat → Int} {t : Int} {u : Int} (hp : xx_po A p ow ot mu le w) (hr : r < ow) (W : xx_wt A s X t) (hX : ∀ k, k < 6 → (X k).natAbs < 2 ^ 192) (d1 : sp + 2 ≤ s ∨ s + 16 ≤ sp) (d2 : sm + 2 ≤ s ∨ s + 16 ≤ sm) (d3 : sp + 2 ≤ p ∨ p + 4 ≤ sp) (d4 : sm + 2 ≤ p ∨ p + 4 ≤ sm) (d5 : sm + 2 ≤ sp ∨ sp + 2 ≤ sm) (hsm : xx_bg A sm 0) (hsp : xx_bg A sp u) : xx_X G l mX4_value 4 0 0 0 (lv_args 0 [.ref p, .int (nI r), .ref s, .ref sm, .ref sp]) [] A (fun z B => z = .inl none ∧ B.1 = A.1 ∧ xx_bg B sm (yd_s ot (fun k => w r k * X k)) ∧ (∃ v, xx_bg B sp v) ∧ ∀ q, q ≠ sm → q ≠ sm + 1 → q ≠ sp → q ≠ sp + 1 → B.2 q = A.2 q) := by
  refine xx_clv (lv2 := [(0, .ref p), (1, .int (nI r)), (2, .ref s), (3, .ref sm), (4, .ref sp)]) rfl ?_
  refine xx_iconst (v := 0) dX4_value_0 (by decide) ?_
  refine xx_istore dX4_value_1 (by decide) ?_
  refine xx_clv (lv2 := [(0, .ref p), (1, .int (nI r)), (2, .ref s), (3, .ref sm), (4, .ref sp), (5, .int 0)]) rfl ?_
  refine xx_clv (lv2 := [(0, .ref p), (1, .int (nI r)), (2, .ref s), (3, .ref sm), (4, .ref sp), (5, .int (nI 0))]) rfl ?_
  refine l_X4_value hp hr W hX d1 d2 d3 d4 d5 (fun B v y1 H y3 y4 => ?_) ot 0 (by omega) A u rfl hsm hsp (fun q _ _ _ _ => rfl)
  exact xx_vret dX4_value_48 rfl ⟨rfl, y1, H, ⟨v, y3⟩, y4⟩
