/-! ===== the reference's divide ===== -/
theorem yy_setwin16 {la lb S uv wv : Nat} {R : Nat → Nat} (hS : 0 < S) (hle : lb ≤ la) (h1 : 1 ≤ lb) (hul : uv < 65536 ^ la) (hvg : 65536 ^ (lb - 1) ≤ wv) (o5 : yy_val 65536 R (la + 1) = uv * S) : uv * S = yy_val 65536 R (la - lb + 1) + 65536 ^ (la - lb + 1) * yy_val 65536 (yy_sh R (la - lb + 1)) lb ∧ yy_val 65536 (yy_sh R (la - lb + 1)) lb < wv * S := by
  obtain ⟨p, rfl⟩ : ∃ p, la = p + lb := ⟨la - lb, by omega⟩
  rw [Nat.add_sub_cancel]
  have hsplit := yy_split (β := 65536) R (p + 1) lb
  rw [show p + 1 + lb = p + lb + 1 by omega, o5] at hsplit
  refine ⟨hsplit, ?_⟩
  apply Nat.lt_of_mul_lt_mul_left (a := 65536 ^ (p + 1))
  have h9 : 65536 ^ (p + lb) * S ≤ 65536 ^ (p + 1) * (wv * S) := by
    rw [← Nat.mul_assoc]
    apply Nat.mul_le_mul_right
    rw [show p + lb = p + 1 + (lb - 1) by omega, Nat.pow_add]
    exact Nat.mul_le_mul_left _ hvg
  have h8 := Nat.mul_lt_mul_of_pos_right hul hS
  omega
/-- the divisor, shifted -/
theorem yy_set16 {nb sh : Nat} {Y Yb : Nat → Nat} (hnb : 1 ≤ nb) (hsh : sh ≤ 15) (hY : ∀ i, i < nb → Y i < 65536) (h1 : 32768 ≤ Y (nb - 1) * 2 ^ sh) (h2 : Y (nb - 1) * 2 ^ sh < 65536) (hb : ∀ j, j < nb → Yb j = (Y j * 2 ^ sh + yy_lo Y (2 ^ (16 - sh)) j) % 65536) : 65536 ≤ 2 * Yb (nb - 1) ∧ yy_val 65536 Yb nb = yy_val 65536 Y nb * 2 ^ sh := by
  have e16 : 2 ^ sh * 2 ^ (16 - sh) = 65536 := by rw [← Nat.pow_add, show sh + (16 - sh) = 16 by omega]
  have hS := Nat.two_pow_pos sh
  have hF := Nat.two_pow_pos (16 - sh)
  generalize 2 ^ sh = S at *
  generalize 2 ^ (16 - sh) = F at *
  have hlt : Y (nb - 1) < F := by
    apply Nat.lt_of_mul_lt_mul_right (a := S)
    rw [Nat.mul_comm F S, e16]; exact h2
  have hlo := yy_lo_lt (X := Y) (S := S) (F := F) (j := nb - 1) hS (fun i hi => by rw [e16]; exact hY i (by omega))
  constructor
  · have d1 := (yy_shd (S := S) (F := F) (x := Y (nb - 1)) (lo := yy_lo Y F (nb - 1)) hF hlo).1
    rw [e16, Nat.mod_eq_of_lt hlt] at d1
    rw [hb (nb - 1) (by omega), d1]
    omega
  · have h := yy_shv (S := S) (F := F) (X := Y) (R := Yb) hS hF nb (fun j hj => by rw [e16]; exact hb j hj) (fun j hj => by rw [e16]; exact hY j hj)
    have e0 : yy_lo Y F nb = 0 := by unfold yy_lo; rw [if_neg (by omega)]; exact Nat.div_eq_of_lt hlt
    rw [e0, Nat.zero_mul, Nat.add_zero, e16, Nat.mul_comm] at h
    exact h
/-- the number, shifted -/
theorem yy_set16n {na sh : Nat} {X R : Nat → Nat} (hsh : sh ≤ 15) (hX : ∀ i, i < na → X i < 65536) (hR : ∀ j, j < na + 1 → R j = (yy_pad X na j * 2 ^ sh + yy_lo X (2 ^ (16 - sh)) j) % 65536) : yy_val 65536 R (na + 1) = yy_val 65536 X na * 2 ^ sh := by
  have e16 : 2 ^ sh * 2 ^ (16 - sh) = 65536 := by rw [← Nat.pow_add, show sh + (16 - sh) = 16 by omega]
  have hS := Nat.two_pow_pos sh
  have hF := Nat.two_pow_pos (16 - sh)
  generalize 2 ^ sh = S at *
  generalize 2 ^ (16 - sh) = F at *
  have hp : ∀ i, yy_pad X na i < 65536 := yy_padb (by decide) hX
  have h := yy_shv (S := S) (F := F) (X := yy_pad X na) (R := R) hS hF (na + 1) (fun j hj => by
    rw [e16, hR j hj]
    congr 2
    unfold yy_lo
    by_cases e : j = 0
    · rw [if_pos e, if_pos e]
    · rw [if_neg e, if_neg e, yy_pad_s (by omega)]) (fun j hj => by rw [e16]; exact hp j)
  have e0 : yy_lo (yy_pad X na) F (na + 1) = 0 := by
    unfold yy_lo
    rw [if_neg (by omega), Nat.add_sub_cancel, yy_pad_z (by omega), Nat.zero_div]
  rw [e0, Nat.zero_mul, Nat.add_zero, e16, Nat.mul_comm, yy_pad_val (Nat.le_succ na)] at h
  exact h
theorem yy_fin16 {sh r n : Nat} {W : Nat → Nat} (hsh : sh ≤ 15) (hn : 0 < n) (hp : ∀ i, i ≤ n → yy_pad W n i < 65536) (hv : yy_val 65536 W n = r * 2 ^ sh) : yy_val 65536 (fun j => (yy_pad W n (j + 1) * 2 ^ (16 - sh) + yy_pad W n j / 2 ^ sh) % 65536) n = r := by
  have e16 : 2 ^ sh * 2 ^ (16 - sh) = 65536 := by rw [← Nat.pow_add, show sh + (16 - sh) = 16 by omega]
  have hv2 : yy_val (2 ^ sh * 2 ^ (16 - sh)) (yy_pad W n) n = r * 2 ^ sh := by rw [e16, yy_pad_val (Nat.le_refl n)]; exact hv
  have h9 := yy_uz (S := 2 ^ sh) (E := 2 ^ (16 - sh)) (R := r) (n := n) (X := yy_pad W n) (U := fun j => (yy_pad W n (j + 1) * 2 ^ (16 - sh) + yy_pad W n j / 2 ^ sh) % 65536) (Nat.two_pow_pos _) (Nat.two_pow_pos _) hn (fun j hj => by rw [e16]; exact hp j hj) (if_neg (Nat.lt_irrefl n)) hv2 (fun j hj => by rw [e16])
  rw [e16] at h9
  exact h9
theorem yy_qr {u w S Wd Z V : Nat} (hS : 0 < S) (hw : 0 < w) (hV : w * S = V) (hl : Wd < V) (h : Wd + Z * V = u * S) : u / w = Z ∧ Wd = (u % w) * S := by
  subst hV
  constructor
  · rw [← Nat.mul_div_mul_right u w hS, ← h, Nat.add_mul_div_right _ _ (Nat.mul_pos hw hS), Nat.div_eq_of_lt hl, Nat.zero_add]
  · rw [← Nat.mul_mod_mul_right, ← h, Nat.add_mul_mod_self_right, Nat.mod_eq_of_lt hl]
theorem yy_sgp {n : Nat} (h : (n : Int) ≠ 0) : (1 : Int32) = iz (n : Int).sign := by
  rw [Int.sign_eq_one_of_pos (by omega)]; decide
theorem yy_absg2 (u : Int) (h : iz u.sign < 0) : (1 : Int32) = iz ((u.natAbs : Int)).sign := by
  rcases yy_sgn u with ⟨a, b⟩ | ⟨a, b⟩ | ⟨a, b⟩
  · exact yy_sgp (by omega)
  · rw [b] at h; exact absurd h (by decide)
  · rw [b] at h; exact absurd h (by decide)
theorem yy_absg3 (u : Int) (h : 0 ≤ iz u.sign) : iz u.sign = iz ((u.natAbs : Int)).sign := by
  rcases yy_sgn u with ⟨a, b⟩ | ⟨a, b⟩ | ⟨a, b⟩
  · rw [b] at h; exact absurd h (by decide)
  · subst a; rfl
  · rw [show (u.natAbs : Int) = u by omega]
set_option maxRecDepth 100000 in
theorem c_X9_dend {G : xx_G} {l : Launch} {A : xx_H} {b : Nat} {th m n hr st hl en tu : Value} {c d na nb sh : Nat} {u w : Int} {fq g h : Nat → Int32} {Z U : Nat → Nat} {N : Nat → Int} (hb : A.2 b = xx_o 9 (xx_mf b th m n hr st hl en tu)) (hf : A.2 (b + 1) = xx_i 69600 fq) (hg : A.2 (b + 2) = xx_i 1740 g) (hh : A.2 (b + 3) = xx_i 1740 h) (hc : c < 1740) (hd : d < 1740) (hcd : c ≠ d) (hnb : 1 ≤ nb) (hle : nb ≤ na) (hna : na ≤ 40) (hN : ∀ r, r < 1740 → r ≠ c → r ≠ d → xx_nr fq g h r (N r)) (hZ : ∀ i, i < na - nb + 1 → Z i < 65536 ∧ fq (40 * c + i) = nI (Z i)) (hU : ∀ i, i < nb → U i < 65536 ∧ fq (40 * d + i) = nI (U i)) (vZ : u.natAbs / w.natAbs = yy_val 65536 Z (na - nb + 1)) (vU : u.natAbs % w.natAbs = yy_val 65536 U nb) : xx_X G l mX9_divide 1 0 0 741 [(0, .ref b), (3, .int (nI c)), (4, .int (nI d)), (5, .int (nI na)), (6, .int (nI nb)), (7, .int (iz (u.sign * w.sign))), (8, .int (nI sh))] [] A (fun q B => q = .inl none ∧ B.1 = A.1 ∧ xx_rg B b (yy_un (yy_un N c (yy_qt u w)) d ((u.natAbs % w.natAbs : Nat) : Int)) ∧ ∀ q, q ≠ b + 2 → q ≠ b + 3 → B.2 q = A.2 q) := by
  refine xx_aload_n dX9_divide_741 rfl ?_
  refine xx_get xx_c9 dX9_divide_742 wf_X9_17 (j := 3) (by decide) hb rfl ?_
  refine xx_iload_n dX9_divide_745 rfl ?_
  refine xx_iload dX9_divide_746 rfl ?_
  refine xx_iast dX9_divide_748 hh (vp_in_nI (by omega) (by decide)) (xx_gu fun B z1 h1 o1 => ?_)
  rw [nI_clamp (by omega)] at h1
  have hb2 := (o1 b (by omega)).trans hb
  refine xx_aload_n dX9_divide_749 rfl ?_
  refine xx_iload_n dX9_divide_750 rfl ?_
  refine xx_iload dX9_divide_751 rfl ?_
  refine xx_iload dX9_divide_753 rfl ?_
  refine xx_isub dX9_divide_755 ?_
  refine xx_eqi (y := nI (na - nb)) (pk_sub (a := na) (b := nb) (by omega)) ?_
  refine xx_iconst (v := 1) dX9_divide_756 (by decide) ?_
  refine xx_iadd dX9_divide_757 ?_
  refine xx_eqi (y := nI (na - nb + 1)) (nI_add (na - nb) 1) ?_
  have ct := c_X9_trim0 (G := G) (l := l) (v := yy_qt u w) hb2 ((o1 _ (by omega)).trans hf) ((o1 _ (by omega)).trans hg) h1 hc (show na - nb + 1 ≤ 40 by omega) hZ ((yy_qt_abs u w).trans vZ) (fun q => pk_us.trans (congrArg iz (yy_qt_sign u w q)))
  refine xx_callV (N := mX9_trim) (vs := [.int (nI c), .int (nI (na - nb + 1))]) (b := b) (rest := []) (d2 := 0) (c2 := 0) (s2 := 0) (c3 := 0) (s3 := 0) dX9_divide_758 wm_X9_94 wi_X9_trim wv_X9_trim (k := 9) rfl (by decide) hb2 nX9_trim ⟨pX9_trim, Nat.le_of_ble_eq_true rfl, by decide, Nat.le_of_ble_eq_true rfl, by decide, by decide⟩ (ct) (fun v9 C hC => ?_) (fun E9 B9 hC => absurd hC.1 (by simp))
  obtain ⟨hv9, k1, ⟨g2, h2, k2, k3, k4, k5, k6⟩, k7⟩ := hC
  cases hv9
  refine xx_cst (st2 := []) rfl ?_
  have hb3 := (k7 b (by omega) (by omega)).trans hb2
  refine xx_aload_n dX9_divide_761 rfl ?_
  refine xx_get xx_c9 dX9_divide_762 wf_X9_17 (j := 3) (by decide) hb3 rfl ?_
  refine xx_iload dX9_divide_765 rfl ?_
  refine xx_iconst (v := 1) dX9_divide_767 (by decide) ?_
  refine xx_iast dX9_divide_768 k3 (vp_in_nI (by omega) (by decide)) (xx_gu fun D z2 h3 o2 => ?_)
  rw [nI_clamp (by omega)] at h3
  have hb4 := (o2 b (by omega)).trans hb3
  refine xx_aload_n dX9_divide_769 rfl ?_
  refine xx_iload dX9_divide_770 rfl ?_
  refine xx_iload dX9_divide_772 rfl ?_
  have ct2 := c_X9_trim0 (G := G) (l := l) (v := ((u.natAbs % w.natAbs : Nat) : Int)) hb4 ((o2 _ (by omega)).trans ((k7 _ (by omega) (by omega)).trans ((o1 _ (by omega)).trans hf))) ((o2 _ (by omega)).trans k2) h3 hd (show nb ≤ 40 by omega) hU (by rw [Int.natAbs_natCast]; exact vU) (fun q => pk_us.trans (yy_sgp q))
  refine xx_callV (N := mX9_trim) (vs := [.int (nI d), .int (nI nb)]) (b := b) (rest := []) (d2 := 0) (c2 := 0) (s2 := 0) (c3 := 0) (s3 := 0) dX9_divide_774 wm_X9_94 wi_X9_trim wv_X9_trim (k := 9) rfl (by decide) hb4 nX9_trim ⟨pX9_trim, Nat.le_of_ble_eq_true rfl, by decide, Nat.le_of_ble_eq_true rfl, by decide, by decide⟩ (ct2) (fun v9 E hC => ?_) (fun E9 B9 hC => absurd hC.1 (by simp))
  obtain ⟨hv8, m1, ⟨g4, h4, m2, m3, m4, m5, m6⟩, m7⟩ := hC
  cases hv8
  refine xx_cst (st2 := []) rfl ?_
  refine xx_vret dX9_divide_777 rfl ⟨rfl, by omega, ⟨fq, g4, h4, (m7 _ (by omega) (by omega)).trans ((o2 _ (by omega)).trans ((k7 _ (by omega) (by omega)).trans ((o1 _ (by omega)).trans hf))), m2, m3, fun r hr => ?_⟩, fun q a1 a2 => (m7 q a1 a2).trans ((o2 q a2).trans ((k7 q a1 a2).trans (o1 q a2)))⟩
  by_cases e : r = d
  · subst e; rw [yy_un_s]; exact m4
  · rw [yy_un_n e]
    by_cases e2 : r = c
    · subst e2; rw [yy_un_s]; exact k4.to (fun _ _ => rfl) (m5 _ e) ((m6 _ e).trans (pk_un e))
    · rw [yy_un_n e2]; exact (hN r hr e2 e).to (fun _ _ => rfl) ((m5 r e).trans (k5 r e2)) ((m6 r e).trans ((pk_un e).trans ((k6 r e2).trans (pk_un e2))))
set_option maxRecDepth 100000 in
theorem c_X9_divide {G : xx_G} {l : Launch} {A : xx_H} {b : Nat} {th m n hr st hl en tu : Value} {x y c d : Nat} {N : Nat → Int} (hb : A.2 b = xx_o 9 (xx_mf b th m n hr st hl en tu)) (hN : xx_rg A b N) (hR : ∃ f, A.2 (b + 17) = xx_i 42 f) (hB : ∃ f, A.2 (b + 18) = xx_i 42 f) (hx : x < 1740) (hy : y < 1740) (hc : c < 1740) (hd : d < 1740) (n1 : x ≠ c) (n2 : y ≠ c) (n3 : x ≠ d) (n4 : y ≠ d) (n5 : c ≠ d) (h0 : N y ≠ 0) : xx_X G l mX9_divide 1 0 0 0 (lv_args 0 [.ref b, .int (nI x), .int (nI y), .int (nI c), .int (nI d)]) [] A (fun q B => q = .inl none ∧ B.1 = A.1 ∧ xx_rg B b (yy_un (yy_un N c (yy_qt (N x) (N y))) d (((N x).natAbs % (N y).natAbs : Nat) : Int)) ∧ (∃ f, B.2 (b + 17) = xx_i 42 f) ∧ (∃ f, B.2 (b + 18) = xx_i 42 f) ∧ ∀ q, q ≠ b + 1 → q ≠ b + 2 → q ≠ b + 3 → q ≠ b + 17 → q ≠ b + 18 → B.2 q = A.2 q) := by
  have hN0 := hN
  obtain ⟨f, g, h, hf, hg, hh, hN⟩ := hN
  obtain ⟨fr, hr⟩ := hR
  obtain ⟨fb, hy18⟩ := hB
  obtain ⟨x1, na, x2, x3, X, x4, x5, x6⟩ := hN x hx
  obtain ⟨y1, nb, y2, y3, Y, y4, y5, y6⟩ := hN y hy
  refine xx_clv (lv2 := [(0, .ref b), (1, .int (nI x)), (2, .int (nI y)), (3, .int (nI c)), (4, .int (nI d))]) rfl ?_
  refine xx_aload_n dX9_divide_0 rfl ?_
  refine xx_get xx_c9 dX9_divide_1 wf_X9_14 (j := 2) (by decide) hb rfl ?_
  refine xx_iload_n dX9_divide_4 rfl ?_
  refine xx_iald dX9_divide_5 hg (vp_in_nI (by omega) (by decide)) ?_
  refine xx_eqi (y := nI na) (by rw [nI_clamp (by omega)]; exact x2) ?_
  refine xx_istore dX9_divide_6 (by decide) ?_
  refine xx_clv (lv2 := [(0, .ref b), (1, .int (nI x)), (2, .int (nI y)), (3, .int (nI c)), (4, .int (nI d)), (5, .int (nI na))]) rfl ?_
  refine xx_aload_n dX9_divide_8 rfl ?_
  refine xx_get xx_c9 dX9_divide_9 wf_X9_14 (j := 2) (by decide) hb rfl ?_
  refine xx_iload_n dX9_divide_12 rfl ?_
  refine xx_iald dX9_divide_13 hg (vp_in_nI (by omega) (by decide)) ?_
  refine xx_eqi (y := nI nb) (by rw [nI_clamp (by omega)]; exact y2) ?_
  refine xx_istore dX9_divide_14 (by decide) ?_
  refine xx_clv (lv2 := [(0, .ref b), (1, .int (nI x)), (2, .int (nI y)), (3, .int (nI c)), (4, .int (nI d)), (5, .int (nI na)), (6, .int (nI nb))]) rfl ?_
  refine xx_aload_n dX9_divide_16 rfl ?_
  refine xx_get xx_c9 dX9_divide_17 wf_X9_17 (j := 3) (by decide) hb rfl ?_
  refine xx_iload_n dX9_divide_20 rfl ?_
  refine xx_iald dX9_divide_21 hh (vp_in_nI (by omega) (by decide)) ?_
  refine xx_eqi (y := iz (N x).sign) (by rw [nI_clamp (by omega)]; exact x1) ?_
  refine xx_aload_n dX9_divide_22 rfl ?_
  refine xx_get xx_c9 dX9_divide_23 wf_X9_17 (j := 3) (by decide) hb rfl ?_
  refine xx_iload_n dX9_divide_26 rfl ?_
  refine xx_iald dX9_divide_27 hh (vp_in_nI (by omega) (by decide)) ?_
  refine xx_eqi (y := iz (N y).sign) (by rw [nI_clamp (by omega)]; exact y1) ?_
  refine xx_imul dX9_divide_28 ?_
  refine xx_eqi (y := iz ((N x).sign * (N y).sign)) (iz_mul _ _) ?_
  refine xx_istore dX9_divide_29 (by decide) ?_
  refine xx_clv (lv2 := [(0, .ref b), (1, .int (nI x)), (2, .int (nI y)), (3, .int (nI c)), (4, .int (nI d)), (5, .int (nI na)), (6, .int (nI nb)), (7, .int (iz ((N x).sign * (N y).sign)))]) rfl ?_
  refine xx_aload_n dX9_divide_31 rfl ?_
  refine xx_iload_n dX9_divide_32 rfl ?_
  refine xx_iload_n dX9_divide_33 rfl ?_
  refine xx_callV (N := mX9_compareSizes) (vs := [.int (nI x), .int (nI y)]) (b := b) (rest := []) (d2 := 0) (c2 := 0) (s2 := 0) (c3 := 0) (s3 := 0) dX9_divide_34 wm_X9_89 wi_X9_compareSizes wv_X9_compareSizes (k := 9) rfl (by decide) hb nX9_compareSizes ⟨pX9_compareSizes, Nat.le_of_ble_eq_true rfl, by decide, Nat.le_of_ble_eq_true rfl, by decide, by decide⟩ (c_X9_compareSizes hb hN0 hx hy) (fun v9 B9 hC => ?_) (fun E9 B9 hC => absurd hC.1 (by simp))
  obtain ⟨hv9, e9⟩ := hC
  cases hv9
  refine xx_cst (st2 := [.int (yy_cmp (N x).natAbs (N y).natAbs)]) rfl ?_
  rw [e9]
  refine xx_if_ge (tgt := 82) dX9_divide_37 (by decide) (fun j37 => ?_) (fun j37 => ?_)
  · refine xx_iconst (v := 0) dX9_divide_82 (by decide) ?_
    refine xx_istore dX9_divide_83 (by decide) ?_
    refine xx_clv (lv2 := [(0, .ref b), (1, .int (nI x)), (2, .int (nI y)), (3, .int (nI c)), (4, .int (nI d)), (5, .int (nI na)), (6, .int (nI nb)), (7, .int (iz ((N x).sign * (N y).sign))), (8, .int 0)]) rfl ?_
    have ge : (N y).natAbs ≤ (N x).natAbs := Nat.le_of_not_lt (fun q => absurd (yy_cmp_lt.mpr q) (Int32.not_lt.mpr j37))
    have hw0 : 0 < (N y).natAbs := by omega
    have hnb : 1 ≤ nb := by
      apply Nat.pos_of_ne_zero; intro q; subst q
      have : (N y).natAbs = 0 := y6
      omega
    have hle : nb ≤ na := by
      apply Nat.le_of_not_lt; intro q
      have := yy_l16 (D := X) (E := Y) (fun i hi => (x4 i hi).1) y5 q
      omega
    obtain ⟨pt, qt⟩ := y4 (nb - 1) (by omega)
    have pt0 := y5 (by omega)
    have hul : (N x).natAbs < 65536 ^ na := by rw [x6]; exact yy_val_lt (fun i hi => (x4 i hi).1)
    have hvg : 65536 ^ (nb - 1) ≤ (N y).natAbs := by
      have := yy_val_top (β := 65536) (D := Y) (n := nb - 1) pt0
      rw [show nb - 1 + 1 = nb by omega, ← y6] at this
      exact this
    refine xx_clv (lv2 := [(0, .ref b), (1, .int (nI x)), (2, .int (nI y)), (3, .int (nI c)), (4, .int (nI d)), (5, .int (nI na)), (6, .int (nI nb)), (7, .int (iz ((N x).sign * (N y).sign))), (8, .int (nI 0))]) rfl ?_
    refine l_X9_h1 (top := Y (nb - 1)) hb hf hy hnb y3 (by omega) qt (fun sh hsh s1 s2 => ?_) 16 0 rfl (by omega)
    refine xx_iconst (v := 0) dX9_divide_113 (by decide) ?_
    refine xx_istore dX9_divide_114 (by decide) ?_
    refine xx_clv (lv2 := [(0, .ref b), (1, .int (nI x)), (2, .int (nI y)), (3, .int (nI c)), (4, .int (nI d)), (5, .int (nI na)), (6, .int (nI nb)), (7, .int (iz ((N x).sign * (N y).sign))), (8, .int (nI sh)), (9, .int 0)]) rfl ?_
    refine xx_clv (lv2 := [(0, .ref b), (1, .int (nI x)), (2, .int (nI y)), (3, .int (nI c)), (4, .int (nI d)), (5, .int (nI na)), (6, .int (nI nb)), (7, .int (iz ((N x).sign * (N y).sign))), (8, .int (nI sh)), (9, .int (nI 0))]) rfl ?_
    refine l_X9_h2 (X := X) hb hf hx x3 hsh x4 (fun B f1 b1 b2 b3 b4 => ?_) (na + 1) 0 (by omega) A fr rfl hr (fun j hj => absurd hj (Nat.not_lt_zero j)) (fun q _ => rfl)
    have hb2 := (b4 b (by omega)).trans hb
    have hf2 := (b4 (b + 1) (by omega)).trans hf
    refine xx_iconst (v := 0) dX9_divide_203 (by decide) ?_
    refine xx_istore dX9_divide_204 (by decide) ?_
    refine xx_clv (lv2 := [(0, .ref b), (1, .int (nI x)), (2, .int (nI y)), (3, .int (nI c)), (4, .int (nI d)), (5, .int (nI na)), (6, .int (nI nb)), (7, .int (iz ((N x).sign * (N y).sign))), (8, .int (nI sh)), (9, .int 0)]) rfl ?_
    refine xx_clv (lv2 := [(0, .ref b), (1, .int (nI x)), (2, .int (nI y)), (3, .int (nI c)), (4, .int (nI d)), (5, .int (nI na)), (6, .int (nI nb)), (7, .int (iz ((N x).sign * (N y).sign))), (8, .int (nI sh)), (9, .int (nI 0))]) rfl ?_
    refine l_X9_h3 (X := Y) hb2 hf2 hy y3 hsh y4 (fun C f2 c1 c2 c3 c4 => ?_) nb 0 (by omega) B fb rfl ((b4 _ (by omega)).trans hy18) (fun j hj => absurd hj (Nat.not_lt_zero j)) (fun q _ => rfl)
    have hb3 := (c4 b (by omega)).trans hb2
    have hf3 := (c4 (b + 1) (by omega)).trans hf2
    have hr3 := (c4 (b + 17) (by omega)).trans b2
    obtain ⟨Rr, hRr⟩ : ∃ Rr : Nat → Nat, Rr = fun j => (yy_pad X na j * 2 ^ sh + yy_lo X (2 ^ (16 - sh)) j) % 65536 := ⟨_, rfl⟩
    obtain ⟨Yb, hYb⟩ : ∃ Yb : Nat → Nat, Yb = fun j => (Y j * 2 ^ sh + yy_lo Y (2 ^ (16 - sh)) j) % 65536 := ⟨_, rfl⟩
    have d1 : ∀ i, i < na + 1 → Rr i < 65536 ∧ f1 i = nI (Rr i) := fun i hi => by rw [hRr]; exact ⟨Nat.mod_lt _ (by decide), b3 i hi⟩
    have d2 : ∀ i, i < nb → Yb i < 65536 ∧ f2 i = nI (Yb i) := fun i hi => by rw [hYb]; exact ⟨Nat.mod_lt _ (by decide), c3 i hi⟩
    obtain ⟨hnm, hVV⟩ := yy_set16 (Yb := Yb) hnb hsh (fun i hi => (y4 i hi).1) s1 s2 (fun j hj => by rw [hYb])
    have hNN := yy_set16n (R := Rr) hsh (fun i hi => (x4 i hi).1) (fun j hj => by rw [hRr])
    rw [← x6] at hNN
    rw [← y6] at hVV
    have hS := Nat.two_pow_pos sh
    obtain ⟨hsp, hwin⟩ := yy_setwin16 hS hle hnb hul hvg hNN
    rw [← hVV] at hwin
    refine xx_iload dX9_divide_278 rfl ?_
    refine xx_iload dX9_divide_280 rfl ?_
    refine xx_isub dX9_divide_282 ?_
    refine xx_eqi (y := nI (na - nb)) (pk_sub (a := na) (b := nb) (by omega)) ?_
    refine xx_istore dX9_divide_283 (by decide) ?_
    refine xx_clv (lv2 := [(0, .ref b), (1, .int (nI x)), (2, .int (nI y)), (3, .int (nI c)), (4, .int (nI d)), (5, .int (nI na)), (6, .int (nI nb)), (7, .int (iz ((N x).sign * (N y).sign))), (8, .int (nI sh)), (9, .int (nI (na - nb)))]) rfl ?_
    refine xx_less [0, 3, 4, 5, 6, 7, 8, 9] ?_
    refine xx_clv (lv2 := [(0, .ref b), (3, .int (nI c)), (4, .int (nI d)), (5, .int (nI na)), (6, .int (nI nb)), (7, .int (iz ((N x).sign * (N y).sign))), (8, .int (nI sh)), (9, .int (nI (na - nb + 1) + (-1)))]) (by rw [pk_m1]; rfl) ?_
    refine l_X9_dm (f := f) (X := Rr) (Y := Yb) (pl := na - nb + 1) (NN := (N x).natAbs * 2 ^ sh) hb3 c2 hc hnb (by omega) (by omega) (fun i hi => (d1 i (by omega)).1) d2 hnm (fun D fp f3 Wd Z e1 ea e2 e4 e5 e6 e7 e8 eo e9 e0 => ?_) (na - nb + 1) (Nat.le_refl _) C f f1 (yy_sh Rr (na - nb + 1)) (fun _ => 0) rfl hf3 hr3 (fun w hw => (d1 w (by omega)).2) (fun w hw => d1 (na - nb + 1 + w) (by omega)) (fun h => absurd h (by omega)) hwin (fun w h5 h6 => absurd h6 (by omega)) (fun _ _ => rfl) (by rw [Nat.sub_self, hsp, yy_v0, Nat.mul_zero, Nat.zero_mul, Nat.add_zero]) (fun q _ _ => rfl)
    rw [yy_sh0, Nat.sub_zero, Nat.pow_zero, Nat.one_mul, Nat.one_mul, yy_v0, Nat.zero_add] at e9
    obtain ⟨vq, vr⟩ := yy_qr hS hw0 hVV.symm e7 e9
    have hb4 := (e0 b (by omega) (by omega)).trans hb3
    have hpd : ∀ i, i ≤ nb → yy_pad Wd nb i < 65536 ∧ f3 i = nI (yy_pad Wd nb i) := by
      intro i hi
      by_cases e : i < nb
      · rw [yy_pad_s e]; have := e5 i e; rw [Nat.zero_add] at this; exact this
      · have : i = nb := by omega
        subst this
        rw [yy_pad_z e]
        have := e6 (by omega)
        rw [Nat.zero_add] at this
        exact ⟨by decide, this⟩
    have vU := yy_fin16 hsh (show 0 < nb by omega) (fun i hi => (hpd i hi).1) vr
    refine xx_iconst (v := 0) dX9_divide_683 (by decide) ?_
    refine xx_istore dX9_divide_684 (by decide) ?_
    refine xx_clv (lv2 := [(0, .ref b), (3, .int (nI c)), (4, .int (nI d)), (5, .int (nI na)), (6, .int (nI nb)), (7, .int (iz ((N x).sign * (N y).sign))), (8, .int (nI sh)), (9, .int 0)]) rfl ?_
    refine xx_clv (lv2 := [(0, .ref b), (3, .int (nI c)), (4, .int (nI d)), (5, .int (nI na)), (6, .int (nI nb)), (7, .int (iz ((N x).sign * (N y).sign))), (8, .int (nI sh)), (9, .int (nI 0))]) rfl ?_
    refine l_X9_us (fp := fp) (X := yy_pad Wd nb) hb4 e2 hd y3 hsh hpd (fun E fq p1 p2 p3 p4 p5 => ?_) nb 0 (by omega) D fp rfl ea (fun w hw => absurd hw (Nat.not_lt_zero w)) (fun _ _ => rfl) (fun q _ => rfl)
    have hb5 := (p5 b (by omega)).trans hb4
    have hg5 := (p5 (b + 2) (by omega)).trans ((e0 (b + 2) (by omega) (by omega)).trans ((c4 (b + 2) (by omega)).trans ((b4 (b + 2) (by omega)).trans hg)))
    have hh5 := (p5 (b + 3) (by omega)).trans ((e0 (b + 3) (by omega) (by omega)).trans ((c4 (b + 3) (by omega)).trans ((b4 (b + 3) (by omega)).trans hh)))
    refine xx_mono (fun q H h9 => ?_) (c_X9_dend (u := N x) (w := N y) (N := N) (U := fun j => (yy_pad Wd nb (j + 1) * 2 ^ (16 - sh) + yy_pad Wd nb j / 2 ^ sh) % 65536) (Z := Z) hb5 p2 hg5 hh5 hc hd n5 hnb hle x3 (fun r hr q1 q2 => (hN r hr).to (fun i hi => (p4 _ (by omega)).trans (eo _ (by omega))) rfl rfl) (fun i hi => ⟨(e8 i (Nat.zero_le _) hi).1, (p4 _ (by omega)).trans (e8 i (Nat.zero_le _) hi).2⟩) (fun i hi => ⟨Nat.mod_lt _ (by decide), p3 i hi⟩) vq vU.symm)
    obtain ⟨r1, r2, r3, r4⟩ := h9
    refine ⟨r1, by omega, r3, ⟨f3, (r4 _ (by omega) (by omega)).trans ((p5 _ (by omega)).trans e2)⟩, ⟨f2, (r4 _ (by omega) (by omega)).trans ((p5 _ (by omega)).trans ((e0 _ (by omega) (by omega)).trans c2))⟩, fun q a1 a2 a3 a4 a5 => ?_⟩
    rw [r4 q a2 a3, p5 q a1, e0 q a1 a4, c4 q a5, b4 q a4]
  · refine xx_aload_n dX9_divide_40 rfl ?_
    refine xx_iload_n dX9_divide_41 rfl ?_
    refine xx_iload dX9_divide_42 rfl ?_
    have lt := yy_cmp_lt.mp (Int32.not_le.mp j37)
    refine xx_callV (N := mX9_copy) (vs := [.int (nI x), .int (nI d)]) (b := b) (rest := []) (d2 := 0) (c2 := 0) (s2 := 0) (c3 := 0) (s3 := 0) dX9_divide_44 wm_X9_98 wi_X9_copy wv_X9_copy (k := 9) rfl (by decide) hb nX9_copy ⟨pX9_copy, Nat.le_of_ble_eq_true rfl, by decide, Nat.le_of_ble_eq_true rfl, by decide, by decide⟩ (c_X9_copy hb hN0 hx hd n3) (fun v9 B hC => ?_) (fun E9 B9 hC => absurd hC.1 (by simp))
    obtain ⟨hv8, k1, k2, k3⟩ := hC
    cases hv8
    refine xx_cst (st2 := []) rfl ?_
    obtain ⟨f2, g2, h2, m1, m2, m3, m4⟩ := k2
    have hb2 := (k3 b (by omega) (by omega) (by omega)).trans hb
    have md := m4 d hd
    rw [yy_un_s] at md
    refine xx_aload_n dX9_divide_47 rfl ?_
    refine xx_get xx_c9 dX9_divide_48 wf_X9_17 (j := 3) (by decide) hb2 rfl ?_
    refine xx_iload dX9_divide_51 rfl ?_
    refine xx_aload_n dX9_divide_53 rfl ?_
    refine xx_get xx_c9 dX9_divide_54 wf_X9_17 (j := 3) (by decide) hb2 rfl ?_
    refine xx_iload dX9_divide_57 rfl ?_
    refine xx_iald dX9_divide_59 m3 (vp_in_nI (by omega) (by decide)) ?_
    refine xx_eqi (y := iz (N x).sign) (by rw [nI_clamp (by omega)]; exact md.1) ?_
    refine xx_if_ge (tgt := 67) dX9_divide_60 (by decide) (fun j60 => ?_) (fun j60 => ?_)
    · refine xx_aload_n dX9_divide_67 rfl ?_
      refine xx_get xx_c9 dX9_divide_68 wf_X9_17 (j := 3) (by decide) hb2 rfl ?_
      refine xx_iload dX9_divide_71 rfl ?_
      refine xx_iald dX9_divide_73 m3 (vp_in_nI (by omega) (by decide)) ?_
      refine xx_eqi (y := iz (N x).sign) (by rw [nI_clamp (by omega)]; exact md.1) ?_
      refine xx_iast dX9_divide_74 m3 (vp_in_nI (by omega) (by decide)) (xx_gu fun C z1 h3 o1 => ?_)
      rw [nI_clamp (by omega)] at h3
      have hb3 := (o1 b (by omega)).trans hb2
      have hs9 : iz (N x).sign = iz (((N x).natAbs : Int)).sign := yy_absg3 _ j60
      have hg3 : xx_rg C b (yy_un N d ((N x).natAbs : Int)) := by
        refine ⟨f2, g2, _, (o1 _ (by omega)).trans m1, (o1 _ (by omega)).trans m2, h3, fun r hr => ?_⟩
        by_cases e : r = d
        · subst e; rw [yy_un_s]; obtain ⟨_, len, a2, a3, a4⟩ := md; exact ⟨pk_us.trans hs9, len, a2, a3, by rw [Int.natAbs_natCast]; exact a4⟩
        · have := m4 r hr; rw [yy_un_n e] at this ⊢; exact this.to (fun _ _ => rfl) rfl (pk_un e)
      refine xx_aload_n dX9_divide_75 rfl ?_
      refine xx_iload_n dX9_divide_76 rfl ?_
      refine xx_lconst (v := 0) dX9_divide_77 (by decide) ?_
      refine xx_eql (y := lz 0) (by decide) ?_
      refine xx_callV (N := mX9_set) (vs := [.int (nI c), .long (lz 0)]) (b := b) (rest := []) (d2 := 0) (c2 := 0) (s2 := 0) (c3 := 0) (s3 := 0) dX9_divide_78 wm_X9_80 wi_X9_set wv_X9_set (k := 9) rfl (by decide) hb3 nX9_set ⟨pX9_set, Nat.le_of_ble_eq_true rfl, by decide, Nat.le_of_ble_eq_true rfl, by decide, by decide⟩ (c_X9_set (v := 0) hb3 hg3 hc (by decide) (by decide)) (fun v9 D hC => ?_) (fun E9 B9 hC => absurd hC.1 (by simp))
      obtain ⟨hv7, p1, p2, p3⟩ := hC
      cases hv7
      refine xx_cst (st2 := []) rfl ?_
      obtain ⟨e1, e2⟩ := yy_q0 (N x) (N y) (Or.inr lt)
      refine xx_vret dX9_divide_81 rfl ⟨rfl, by omega, ?_, ⟨fr, (p3 _ (by omega) (by omega) (by omega)).trans ((o1 _ (by omega)).trans ((k3 _ (by omega) (by omega) (by omega)).trans hr))⟩, ⟨fb, (p3 _ (by omega) (by omega) (by omega)).trans ((o1 _ (by omega)).trans ((k3 _ (by omega) (by omega) (by omega)).trans hy18))⟩, fun q a1 a2 a3 a4 a5 => (p3 q a1 a2 a3).trans ((o1 q a3).trans (k3 q a1 a2 a3))⟩
      rw [e1, Nat.mod_eq_of_lt lt]
      refine p2.ext (fun r hr => ?_)
      by_cases e : r = c
      · subst e; rw [yy_un_s, yy_un_n n5, yy_un_s]
      · rw [yy_un_n e]
        by_cases e2 : r = d
        · subst e2; rw [yy_un_s, yy_un_s]
        · rw [yy_un_n e2, yy_un_n e2, yy_un_n e]
    · refine xx_iconst (v := 1) dX9_divide_63 (by decide) ?_
      refine xx_goto (tgt := 74) dX9_divide_64 (by decide) ?_
      refine xx_iast dX9_divide_74 m3 (vp_in_nI (by omega) (by decide)) (xx_gu fun C z1 h3 o1 => ?_)
      rw [nI_clamp (by omega)] at h3
      have hb3 := (o1 b (by omega)).trans hb2
      have hs9 : (1 : Int32) = iz (((N x).natAbs : Int)).sign := yy_absg2 _ (Int32.not_le.mp j60)
      have hg3 : xx_rg C b (yy_un N d ((N x).natAbs : Int)) := by
        refine ⟨f2, g2, _, (o1 _ (by omega)).trans m1, (o1 _ (by omega)).trans m2, h3, fun r hr => ?_⟩
        by_cases e : r = d
        · subst e; rw [yy_un_s]; obtain ⟨_, len, a2, a3, a4⟩ := md; exact ⟨pk_us.trans hs9, len, a2, a3, by rw [Int.natAbs_natCast]; exact a4⟩
        · have := m4 r hr; rw [yy_un_n e] at this ⊢; exact this.to (fun _ _ => rfl) rfl (pk_un e)
      refine xx_aload_n dX9_divide_75 rfl ?_
      refine xx_iload_n dX9_divide_76 rfl ?_
      refine xx_lconst (v := 0) dX9_divide_77 (by decide) ?_
      refine xx_eql (y := lz 0) (by decide) ?_
      refine xx_callV (N := mX9_set) (vs := [.int (nI c), .long (lz 0)]) (b := b) (rest := []) (d2 := 0) (c2 := 0) (s2 := 0) (c3 := 0) (s3 := 0) dX9_divide_78 wm_X9_80 wi_X9_set wv_X9_set (k := 9) rfl (by decide) hb3 nX9_set ⟨pX9_set, Nat.le_of_ble_eq_true rfl, by decide, Nat.le_of_ble_eq_true rfl, by decide, by decide⟩ (c_X9_set (v := 0) hb3 hg3 hc (by decide) (by decide)) (fun v9 D hC => ?_) (fun E9 B9 hC => absurd hC.1 (by simp))
      obtain ⟨hv7, p1, p2, p3⟩ := hC
      cases hv7
      refine xx_cst (st2 := []) rfl ?_
      obtain ⟨e1, e2⟩ := yy_q0 (N x) (N y) (Or.inr lt)
      refine xx_vret dX9_divide_81 rfl ⟨rfl, by omega, ?_, ⟨fr, (p3 _ (by omega) (by omega) (by omega)).trans ((o1 _ (by omega)).trans ((k3 _ (by omega) (by omega) (by omega)).trans hr))⟩, ⟨fb, (p3 _ (by omega) (by omega) (by omega)).trans ((o1 _ (by omega)).trans ((k3 _ (by omega) (by omega) (by omega)).trans hy18))⟩, fun q a1 a2 a3 a4 a5 => (p3 q a1 a2 a3).trans ((o1 q a3).trans (k3 q a1 a2 a3))⟩
      rw [e1, Nat.mod_eq_of_lt lt]
      refine p2.ext (fun r hr => ?_)
      by_cases e : r = c
      · subst e; rw [yy_un_s, yy_un_n n5, yy_un_s]
      · rw [yy_un_n e]
        by_cases e2 : r = d
        · subst e2; rw [yy_un_s, yy_un_s]
        · rw [yy_un_n e2, yy_un_n e2, yy_un_n e]
