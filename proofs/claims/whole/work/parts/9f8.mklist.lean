/-! ===== makeList ===== -/
theorem xx_mno.mo {B : xx_H} {p py : Nat} {H9 K9 : (Nat → Int32) → Prop} (h : xx_mno B p py H9) (e : ∀ g, H9 g → K9 g) : xx_mno B p py K9 := by
  obtain ⟨h1, h2, ⟨g, h3, h4⟩, h5⟩ := h
  exact ⟨h1, h2, ⟨g, h3, e g h4⟩, h5⟩
theorem yk_HH {a : Nat → Nat → Int} {o t : Nat} {g : Nat → Int32} (h : yk_H a o t g) : yk_H0 g := h 0 (Nat.two_pow_pos o) 0 (Nat.two_pow_pos t) rfl
theorem xx_mns.mo {B : xx_H} {z b o t o2 t2 : Nat} {a c : Nat → Nat → Int} (h : xx_mns B z b (yk_H a o t) (yk_H c o2 t2)) : xx_mns B z b yk_H0 yk_H0 := ⟨h.1, h.2.1.mo (fun _ => yk_HH), h.2.2.mo (fun _ => yk_HH)⟩
def yn_0 : yn_S := (0, (fun _ => 0), (fun _ => 0))
theorem xx_ent.mo {B : xx_H} {b : Nat} {st : yn_S} (h : xx_ent B b st) : xx_ent B b yn_0 := by
  obtain ⟨a1, ⟨f, a2, _⟩, ⟨g, a3, _⟩⟩ := h
  exact ⟨a1, ⟨f, a2, fun e he => absurd he (Nat.not_lt_zero e)⟩, ⟨g, a3, fun e he => absurd he (Nat.not_lt_zero e)⟩⟩
theorem yn_0_ok {m n : Nat} {E : Nat → Nat → Bool} : yn_ok m n E yn_0 := ⟨by decide, fun e he => absurd he (Nat.not_lt_zero e)⟩
theorem yn_min {m n : Nat} (hm : m ≤ 6) (hn : n ≤ 6) : (if nI n < nI m then nI n else nI m) = nI (if n < m then n else m) := by
  by_cases z : n < m
  · rw [if_pos z, if_pos ((nI_ltI (by omega) (by omega)).mpr z)]
  · rw [if_neg z, if_neg (fun q => z ((nI_ltI (by omega) (by omega)).mp q))]
theorem xx_mth8min : xx_mth RX8 280 Lib.Math.min.name Lib.Math.min.code 2 := ⟨wm_X8_280, wq_s_min, wq_z, wq_c_min⟩
set_option maxRecDepth 100000 in
theorem l_X8_m1 {G : xx_G} {l : Launch} {A : xx_H} {b z m n : Nat} {u6 u7 u11 : Value} {fc : Nat → Int32} {W : Nat → Nat → Nat → Int} {le : Nat → Int} {mu : Nat → Nat} {E : Nat → Nat → Bool} {k9 L9 : Nat} {st : yn_S} {Q : Option Value ⊕ String → xx_H → Prop} (hc : A.2 (b + 1) = xx_i 2 fc) (hc2 : ∀ p, p < 2 → fc p = nI (yy_cn m n p)) (hg : yg_ok m n W le) (P : xx_pys A b m n W le mu) (hz : b + 297 ≤ z) (hE : ∀ S, S < 2 ^ m → ∀ U, U < 2 ^ n → yb_c U = yb_c S → (E S U = true ↔ yk_h (yn_a W le 0) m S U ∧ yk_h (yn_a W le 1) n U S)) (k0 : 0 < k9) (k6 : k9 ≤ 6) (hok : yn_ok m n E st) (kC : ∀ (B : xx_H), (B.1 = A.1) → (1 ≤ (2 ^ m)) → (B.2 b = xx_o 8 [.ref (b + 1), .ref (b + 2), .ref (b + 11), .ref (b + 18), .ref (b + 19), .ref (b + 226), u6, u7, .ref z, .ref (b + 230), .int (nI ((yn_size E n k9 st (2 ^ m)).1)), u11, .ref (b + 233), .ref (b + 266), .ref (b + 279), .ref (b + 281), .ref (b + 283), .ref (b + 288)]) → (xx_mns B z b (yk_H (yn_a W le 0) m n) (yk_H (yn_a W le 1) n m)) → (xx_ent B b (yn_size E n k9 st (2 ^ m))) → (∀ q, q ≠ b → q ≠ b + 231 → q ≠ b + 232 → q ≠ z + 4 → q ≠ z + 5 → q ≠ z + 10 → q ≠ z + 11 → B.2 q = A.2 q) → xx_X G l mX8_makeList 5 0 0 127 [(0, .ref b), (1, .int (nI L9)), (2, .int (nI k9))] [] B Q) :
    ∀ (v i : Nat), i + v = 2 ^ m → ∀ (B : xx_H), (B.1 = A.1) → (1 ≤ i) → (B.2 b = xx_o 8 [.ref (b + 1), .ref (b + 2), .ref (b + 11), .ref (b + 18), .ref (b + 19), .ref (b + 226), u6, u7, .ref z, .ref (b + 230), .int (nI ((yn_size E n k9 st i).1)), u11, .ref (b + 233), .ref (b + 266), .ref (b + 279), .ref (b + 281), .ref (b + 283), .ref (b + 288)]) → (xx_mns B z b (yk_H (yn_a W le 0) m n) (yk_H (yn_a W le 1) n m)) → (xx_ent B b (yn_size E n k9 st i)) → (∀ q, q ≠ b → q ≠ b + 231 → q ≠ b + 232 → q ≠ z + 4 → q ≠ z + 5 → q ≠ z + 10 → q ≠ z + 11 → B.2 q = A.2 q) → xx_X G l mX8_makeList 5 0 0 95 [(0, .ref b), (1, .int (nI L9)), (2, .int (nI k9)), (3, .int (nI i))] [] B Q := by
  have hm1 := hg.1
  have hm := hg.2.1
  have hn1 := hg.2.2.1
  have hn := hg.2.2.2.1
  have mw := yk_pw hm
  have nw := yk_pw hn
  have m1 : 1 ≤ 2 ^ m := Nat.two_pow_pos m
  intro v
  induction v with
  | zero =>
    intro i h9i B y1 y0 yb yM yE y4
    have h9e : 2 ^ m = i := by omega
    subst h9e
    refine xx_clv (lv2 := [(0, .ref b), (1, .int (nI L9)), (2, .int (nI k9)), (3, .int (nI (2 ^ m)))]) rfl ?_
    refine xx_iload_n dX8_makeList_95 rfl ?_
    refine xx_iconst (v := 1) dX8_makeList_96 (by decide) ?_
    refine xx_aload_n dX8_makeList_97 rfl ?_
    refine xx_get xx_c8 dX8_makeList_98 wf_X8_7 (j := 0) (by decide) yb rfl ?_
    refine xx_iconst (v := 0) dX8_makeList_101 (by decide) ?_
    refine xx_iald dX8_makeList_102 ((y4 (b + 1) (by omega) (by omega) (by omega) (by omega) (by omega) (by omega) (by omega)).trans hc) (by unfold vp_in; decide) ?_
    refine xx_eqi (y := nI m) (hc2 0 (by decide)) ?_
    refine xx_ishl dX8_makeList_103 ?_
    refine xx_eqi (y := nI (2 ^ m)) (yb_1s6 m (by omega)) ?_
    refine xx_icmp_ge (tgt := 127) dX8_makeList_104 (by decide) (fun j104 => ?_) (fun h => absurd (Int32.le_refl _) h)
    refine xx_less [0, 1, 2] ?_
    refine xx_clv (lv2 := [(0, .ref b), (1, .int (nI L9)), (2, .int (nI k9))]) rfl ?_
    exact kC B y1 y0 yb yM yE y4
  | succ v ih =>
    intro i h9i B y1 y0 yb yM yE y4
    refine xx_iload_n dX8_makeList_95 rfl ?_
    refine xx_iconst (v := 1) dX8_makeList_96 (by decide) ?_
    refine xx_aload_n dX8_makeList_97 rfl ?_
    refine xx_get xx_c8 dX8_makeList_98 wf_X8_7 (j := 0) (by decide) yb rfl ?_
    refine xx_iconst (v := 0) dX8_makeList_101 (by decide) ?_
    refine xx_iald dX8_makeList_102 ((y4 (b + 1) (by omega) (by omega) (by omega) (by omega) (by omega) (by omega) (by omega)).trans hc) (by unfold vp_in; decide) ?_
    refine xx_eqi (y := nI m) (hc2 0 (by decide)) ?_
    refine xx_ishl dX8_makeList_103 ?_
    refine xx_eqi (y := nI (2 ^ m)) (yb_1s6 m (by omega)) ?_
    refine xx_icmp_ge (tgt := 127) dX8_makeList_104 (by decide) (fun h => absurd h (nI_ge (a := i) (b := 2 ^ m) (by omega) (by omega))) (fun j104 => ?_)
    refine xx_iload_n dX8_makeList_107 rfl ?_
    refine xx_callS (N := mJ6_bitCount) (vs := [.int (nI i)]) (rest := []) (d2 := 0) (c2 := 0) (s2 := 0) (c3 := 0) (s3 := 0) dX8_makeList_108 wm_X8_244 ws_J6_bitCount wz_J6 (by decide) nJ6_bitCount ⟨pJ6_bitCount, Nat.le_of_ble_eq_true rfl, by decide, Nat.le_of_ble_eq_true rfl, by decide, by decide⟩ (c_J6_bitCount (a := i) (by omega)) (fun v9 B9 hC => ?_) (fun E9 B9 hC => absurd hC.1 (by simp))
    obtain ⟨hv9, e9⟩ := hC
    cases hv9
    refine xx_cst (st2 := [.int (nI (yb_c i))]) rfl ?_
    rw [e9]
    have ci := yb_c6 i (by omega)
    refine xx_iload_n dX8_makeList_111 rfl ?_
    refine xx_icmp_ne (tgt := 121) dX8_makeList_112 (by decide) (fun j112 => ?_) (fun j112 => ?_)
    · have j112 : ¬ yb_c i = k9 := fun hq9 => j112 ((nI_eq (a := yb_c i) (b := k9) (by omega) (by omega)).mpr hq9)
      have st9 : yn_size E n k9 st (i + 1) = yn_size E n k9 st i := if_neg (by omega)
      rw [← st9] at yb yE
      refine xx_iinc (v := nI (i + 1)) dX8_makeList_121 rfl (nI_1 i) (by decide) ?_
      refine xx_clv (lv2 := [(0, .ref b), (1, .int (nI L9)), (2, .int (nI k9)), (3, .int (nI (i + 1)))]) rfl ?_
      refine xx_goto (tgt := 95) dX8_makeList_124 (by decide) ?_
      refine xx_less [0, 1, 2, 3] ?_
      refine xx_clv (lv2 := [(0, .ref b), (1, .int (nI L9)), (2, .int (nI k9)), (3, .int (nI (i + 1)))]) rfl ?_
      refine ih (i + 1) (by omega) B y1 (by omega) yb yM yE y4
    · have j112 : yb_c i = k9 := (nI_eq (a := yb_c i) (b := k9) (by omega) (by omega)).mp j112
      refine xx_aload_n dX8_makeList_115 rfl ?_
      refine xx_iload_n dX8_makeList_116 rfl ?_
      refine xx_iload_n dX8_makeList_117 rfl ?_
      have ok9 := yn_size_ok hok k0 i (by omega)
      have hc9 := (y4 (b + 1) (by omega) (by omega) (by omega) (by omega) (by omega) (by omega) (by omega)).trans hc
      refine xx_callV (N := mX8_listAllWith) (vs := [.int (nI i), .int (nI k9)]) (b := b) (rest := []) (d2 := 4) (c2 := 0) (s2 := 0) (c3 := 0) (s3 := 0) dX8_makeList_118 wm_X8_285 wi_X8_listAllWith wv_X8_listAllWith (k := 8) rfl (by decide) yb nX8_listAllWith ⟨pX8_listAllWith, Nat.le_of_ble_eq_true rfl, by decide, Nat.le_of_ble_eq_true rfl, by decide, by decide⟩ (c_X8_listAllWith (S := i) (k9 := k9) yb hc9 hc2 hg (P.to (fun q9 a9 b9 => y4 q9 (by omega) (by omega) (by omega) (by omega) (by omega) (by omega) (by omega))) hz hE yM yE (by omega) (by omega) k0 ok9) (fun v9 Eq1 hC => ?_) (fun E9 B9 hC => absurd hC.1 (by simp))
      obtain ⟨hv9, w1, wb, wM, wE, w4⟩ := hC
      cases hv9
      refine xx_cst (st2 := []) rfl ?_
      have st9 : yn_size E n k9 st (i + 1) = yn_row E k9 i (yn_size E n k9 st i) (2 ^ n) := if_pos (by omega)
      rw [← st9] at wb wE
      refine xx_iinc (v := nI (i + 1)) dX8_makeList_121 rfl (nI_1 i) (by decide) ?_
      refine xx_clv (lv2 := [(0, .ref b), (1, .int (nI L9)), (2, .int (nI k9)), (3, .int (nI (i + 1)))]) rfl ?_
      refine xx_goto (tgt := 95) dX8_makeList_124 (by decide) ?_
      refine xx_less [0, 1, 2, 3] ?_
      refine xx_clv (lv2 := [(0, .ref b), (1, .int (nI L9)), (2, .int (nI k9)), (3, .int (nI (i + 1)))]) rfl ?_
      refine ih (i + 1) (by omega) Eq1 (by omega) (by omega) wb wM wE (fun q a0 a1 a2 a3 a4 a5 a6 => (w4 q a0 a1 a2 a3 a4 a5 a6).trans (y4 q a0 a1 a2 a3 a4 a5 a6))
set_option maxRecDepth 100000 in
theorem l_X8_m2 {G : xx_G} {l : Launch} {A : xx_H} {b z m n : Nat} {u6 u7 u11 : Value} {fc : Nat → Int32} {W : Nat → Nat → Nat → Int} {le : Nat → Int} {mu : Nat → Nat} {E : Nat → Nat → Bool} {L9 : Nat} {Q : Option Value ⊕ String → xx_H → Prop} (hc : A.2 (b + 1) = xx_i 2 fc) (hc2 : ∀ p, p < 2 → fc p = nI (yy_cn m n p)) (hg : yg_ok m n W le) (P : xx_pys A b m n W le mu) (hz : b + 297 ≤ z) (hE : ∀ S, S < 2 ^ m → ∀ U, U < 2 ^ n → yb_c U = yb_c S → (E S U = true ↔ yk_h (yn_a W le 0) m S U ∧ yk_h (yn_a W le 1) n U S)) (l6 : L9 ≤ 6) (kC : ∀ (B : xx_H), (B.1 = A.1) → (1 ≤ (L9 + 1)) → (B.2 b = xx_o 8 [.ref (b + 1), .ref (b + 2), .ref (b + 11), .ref (b + 18), .ref (b + 19), .ref (b + 226), u6, u7, .ref z, .ref (b + 230), .int (nI ((yn_all E m n yn_0 ((L9 + 1) - 1)).1)), u11, .ref (b + 233), .ref (b + 266), .ref (b + 279), .ref (b + 281), .ref (b + 283), .ref (b + 288)]) → (xx_mns B z b (yk_H (yn_a W le 0) m n) (yk_H (yn_a W le 1) n m)) → (xx_ent B b (yn_all E m n yn_0 ((L9 + 1) - 1))) → (∀ q, q ≠ b → q ≠ b + 231 → q ≠ b + 232 → q ≠ z + 4 → q ≠ z + 5 → q ≠ z + 10 → q ≠ z + 11 → B.2 q = A.2 q) → xx_X G l mX8_makeList 5 0 0 133 [(0, .ref b)] [] B Q) :
    ∀ (v i : Nat), i + v = L9 + 1 → ∀ (B : xx_H), (B.1 = A.1) → (1 ≤ i) → (B.2 b = xx_o 8 [.ref (b + 1), .ref (b + 2), .ref (b + 11), .ref (b + 18), .ref (b + 19), .ref (b + 226), u6, u7, .ref z, .ref (b + 230), .int (nI ((yn_all E m n yn_0 (i - 1)).1)), u11, .ref (b + 233), .ref (b + 266), .ref (b + 279), .ref (b + 281), .ref (b + 283), .ref (b + 288)]) → (xx_mns B z b (yk_H (yn_a W le 0) m n) (yk_H (yn_a W le 1) n m)) → (xx_ent B b (yn_all E m n yn_0 (i - 1))) → (∀ q, q ≠ b → q ≠ b + 231 → q ≠ b + 232 → q ≠ z + 4 → q ≠ z + 5 → q ≠ z + 10 → q ≠ z + 11 → B.2 q = A.2 q) → xx_X G l mX8_makeList 5 0 0 88 [(0, .ref b), (1, .int (nI L9)), (2, .int (nI i))] [] B Q := by
  have hm1 := hg.1
  have hm := hg.2.1
  have hn1 := hg.2.2.1
  have hn := hg.2.2.2.1
  have mw := yk_pw hm
  have nw := yk_pw hn
  have m1 : 1 ≤ 2 ^ m := Nat.two_pow_pos m
  intro v
  induction v with
  | zero =>
    intro i h9i B y1 y0 yb yM yE y4
    have h9e : L9 + 1 = i := by omega
    subst h9e
    refine xx_clv (lv2 := [(0, .ref b), (1, .int (nI L9)), (2, .int (nI (L9 + 1)))]) rfl ?_
    refine xx_iload_n dX8_makeList_88 rfl ?_
    refine xx_iload_n dX8_makeList_89 rfl ?_
    refine xx_icmp_gt (tgt := 133) dX8_makeList_90 (by decide) (fun j90 => ?_) (fun h => absurd ((nI_ltI (by omega) (by omega)).mpr (Nat.lt_succ_self L9)) h)
    refine xx_less [0] ?_
    refine xx_clv (lv2 := [(0, .ref b)]) rfl ?_
    exact kC B y1 y0 yb yM yE y4
  | succ v ih =>
    intro i h9i B y1 y0 yb yM yE y4
    refine xx_iload_n dX8_makeList_88 rfl ?_
    refine xx_iload_n dX8_makeList_89 rfl ?_
    refine xx_icmp_gt (tgt := 133) dX8_makeList_90 (by decide) (fun h => absurd ((nI_ltI (a := L9) (b := i) (by omega) (by omega)).mp h) (by omega)) (fun j90 => ?_)
    refine xx_iconst (v := 1) dX8_makeList_93 (by decide) ?_
    refine xx_istore_n dX8_makeList_94 (by decide) ?_
    refine xx_clv (lv2 := [(0, .ref b), (1, .int (nI L9)), (2, .int (nI i)), (3, .int 1)]) rfl ?_
    have y42 : ∀ q, b ≤ q → q < b + 231 → q ≠ b → B.2 q = A.2 q := fun q9 a9 b9 c9 => y4 q9 (by omega) (by omega) (by omega) (by omega) (by omega) (by omega) (by omega)
    have sz1 : yn_size E n i (yn_all E m n yn_0 (i - 1)) 1 = yn_all E m n yn_0 (i - 1) := if_neg (by rw [show yb_c 0 = 0 from rfl]; omega)
    have al1 : yn_size E n i (yn_all E m n yn_0 (i - 1)) (2 ^ m) = yn_all E m n yn_0 (i + 1 - 1) := by
      obtain ⟨k, hk⟩ : ∃ k, i = k + 1 := ⟨i - 1, by omega⟩
      rw [hk]; rfl
    refine xx_clv (lv2 := [(0, .ref b), (1, .int (nI L9)), (2, .int (nI i)), (3, .int (nI 1))]) rfl ?_
    refine l_X8_m1 (A := B) (k9 := i) (L9 := L9) (st := yn_all E m n yn_0 (i - 1)) ((y42 (b + 1) (by omega) (by omega) (by omega)).trans hc) hc2 hg (P.to (fun q9 a9 b9 => y42 q9 (by omega) (by omega) (by omega))) hz hE (by omega) (by omega) (yn_all_ok yn_0_ok _) (fun C w1 w0 wb wM wE w4 => ?_) (2 ^ m - 1) 1 (by omega) B rfl (Nat.le_refl _) (by rw [sz1]; exact yb) yM (by rw [sz1]; exact yE) (fun q _ _ _ _ _ _ _ => rfl)
    rw [al1] at wb wE
    refine xx_iinc (v := nI (i + 1)) dX8_makeList_127 rfl (nI_1 i) (by decide) ?_
    refine xx_clv (lv2 := [(0, .ref b), (1, .int (nI L9)), (2, .int (nI (i + 1)))]) rfl ?_
    refine xx_goto (tgt := 88) dX8_makeList_130 (by decide) ?_
    refine xx_less [0, 1, 2] ?_
    refine xx_clv (lv2 := [(0, .ref b), (1, .int (nI L9)), (2, .int (nI (i + 1)))]) rfl ?_
    refine ih (i + 1) (by omega) C (by omega) (by omega) wb wM wE (fun q a0 a1 a2 a3 a4 a5 a6 => (w4 q a0 a1 a2 a3 a4 a5 a6).trans (y4 q a0 a1 a2 a3 a4 a5 a6))
set_option maxRecDepth 100000 in
theorem c_X8_mk2 {G : xx_G} {l : Launch} {A : xx_H} {b z m n : Nat} {u6 u7 u11 : Value} {fc : Nat → Int32} {W : Nat → Nat → Nat → Int} {le : Nat → Int} {mu : Nat → Nat} {E : Nat → Nat → Bool} {u10 : Value} (hb : A.2 b = xx_o 8 [.ref (b + 1), .ref (b + 2), .ref (b + 11), .ref (b + 18), .ref (b + 19), .ref (b + 226), u6, u7, .ref z, .ref (b + 230), u10, u11, .ref (b + 233), .ref (b + 266), .ref (b + 279), .ref (b + 281), .ref (b + 283), .ref (b + 288)]) (hc : A.2 (b + 1) = xx_i 2 fc) (hc2 : ∀ p, p < 2 → fc p = nI (yy_cn m n p)) (hg : yg_ok m n W le) (P : xx_pys A b m n W le mu) (hz : b + 297 ≤ z) (hE : ∀ S, S < 2 ^ m → ∀ U, U < 2 ^ n → yb_c U = yb_c S → (E S U = true ↔ yk_h (yn_a W le 0) m S U ∧ yk_h (yn_a W le 1) n U S)) (M9 : xx_mns A z b yk_H0 yk_H0) (En : xx_ent A b yn_0) : xx_X G l mX8_makeList 5 0 0 47 [(0, .ref b)] [] A (fun q9 B => q9 = .inl none ∧ B.1 = A.1 ∧ B.2 b = xx_o 8 [.ref (b + 1), .ref (b + 2), .ref (b + 11), .ref (b + 18), .ref (b + 19), .ref (b + 226), u6, u7, .ref z, .ref (b + 230), .int (nI ((yn_all E m n yn_0 (if n < m then n else m)).1)), .int 1, .ref (b + 233), .ref (b + 266), .ref (b + 279), .ref (b + 281), .ref (b + 283), .ref (b + 288)] ∧ xx_mns B z b (yk_H (yn_a W le 0) m n) (yk_H (yn_a W le 1) n m) ∧ xx_ent B b (yn_all E m n yn_0 (if n < m then n else m)) ∧ ∀ q, q ≠ b → q ≠ b + 231 → q ≠ b + 232 → (q < z ∨ z + 13 ≤ q) → B.2 q = A.2 q) := by
  have hm1 := hg.1
  have hm := hg.2.1
  have hn1 := hg.2.2.1
  have hn := hg.2.2.2.1
  have mw := yk_pw hm
  have nw := yk_pw hn
  have m1 : 1 ≤ 2 ^ m := Nat.two_pow_pos m
  obtain ⟨⟨hpa, pa1, pa2⟩, po⟩ := id P
  have po0 : xx_po A (b + 3) m n (mu 0) (le 0) (yo_w W 0) := po 0 (by decide)
  have po1 : xx_po A (b + 7) n m (mu 1) (le 1) (yo_w W 1) := po 1 (by decide)
  obtain ⟨⟨hm9, mA, mB, mC⟩, H0, H1⟩ := id M9
  refine xx_aload_n dX8_makeList_47 rfl ?_
  refine xx_get xx_c8 dX8_makeList_48 wf_X8_49 (j := 8) (by decide) hb rfl ?_
  refine xx_iconst (v := 0) dX8_makeList_51 (by decide) ?_
  refine xx_aald (kd := 13) (b := z + 1) dX8_makeList_52 (by decide) rfl mA (by unfold vp_in; decide) (mB) ?_
  refine xx_callV (N := mX3_fill) (vs := []) (b := (z + 1)) (rest := []) (d2 := 3) (c2 := 0) (s2 := 0) (c3 := 0) (s3 := 0) dX8_makeList_53 wm_X8_277 wi_X3_fill wv_X3_fill (k := 3) rfl (by decide) H0.1 nX3_fill ⟨pX3_fill, Nat.le_of_ble_eq_true rfl, by decide, Nat.le_of_ble_eq_true rfl, by decide, by decide⟩ (c_X3_fill H0 po0 (by omega)) (fun v9 Eq1 hC => ?_) (fun E9 B9 hC => absurd hC.1 (by simp))
  obtain ⟨hv9, z1, N0, f1⟩ := hC
  cases hv9
  refine xx_cst (st2 := []) rfl ?_
  have hb1 := (f1 b (by omega)).trans hb
  have K1 := H1.to (fun q9 a9 b9 => f1 q9 (by omega))
  refine xx_aload_n dX8_makeList_56 rfl ?_
  refine xx_get xx_c8 dX8_makeList_57 wf_X8_49 (j := 8) (by decide) hb1 rfl ?_
  refine xx_iconst (v := 1) dX8_makeList_60 (by decide) ?_
  refine xx_aald (kd := 13) (b := z + 7) dX8_makeList_61 (by decide) rfl ((f1 _ (by omega)).trans mA) (by unfold vp_in; decide) (mC) ?_
  refine xx_callV (N := mX3_fill) (vs := []) (b := (z + 7)) (rest := []) (d2 := 3) (c2 := 0) (s2 := 0) (c3 := 0) (s3 := 0) dX8_makeList_62 wm_X8_277 wi_X3_fill wv_X3_fill (k := 3) rfl (by decide) K1.1 nX3_fill ⟨pX3_fill, Nat.le_of_ble_eq_true rfl, by decide, Nat.le_of_ble_eq_true rfl, by decide, by decide⟩ (c_X3_fill K1 (po1.to (f1 _ (by omega)) (f1 _ (by omega))) (by omega)) (fun v9 Eq2 hC => ?_) (fun E9 B9 hC => absurd hC.1 (by simp))
  obtain ⟨hv9, z2, N1, f2⟩ := hC
  cases hv9
  refine xx_cst (st2 := []) rfl ?_
  have hb2 := (f2 b (by omega)).trans hb1
  have K0 := N0.to (fun q9 a9 b9 => f2 q9 (by omega))
  have g2 : ∀ q, (q < z ∨ z + 13 ≤ q) → Eq2.2 q = A.2 q := fun q9 a9 => (f2 q9 (by omega)).trans (f1 q9 (by omega))
  refine xx_aload_n dX8_makeList_65 rfl ?_
  refine xx_iconst (v := 0) dX8_makeList_66 (by decide) ?_
  refine xx_put xx_c8 dX8_makeList_67 wf_X8_56 (j := 10) (by decide) rfl rfl rfl hb2 (Nat.le_of_ble_eq_true rfl) (xx_gu fun Eq3 z3 h3 o3 => ?_)
  have h3 : Eq3.2 b = xx_o 8 [.ref (b + 1), .ref (b + 2), .ref (b + 11), .ref (b + 18), .ref (b + 19), .ref (b + 226), u6, u7, .ref z, .ref (b + 230), .int (nI ((yn_all E m n yn_0 (1 - 1)).1)), u11, .ref (b + 233), .ref (b + 266), .ref (b + 279), .ref (b + 281), .ref (b + 283), .ref (b + 288)] := h3
  have g3 : ∀ q, q ≠ b → (q < z ∨ z + 13 ≤ q) → Eq3.2 q = A.2 q := fun q9 c9 a9 => (o3 q9 c9).trans (g2 q9 a9)
  have hc3 := (g3 (b + 1) (by omega) (by omega)).trans hc
  refine xx_aload_n dX8_makeList_70 rfl ?_
  refine xx_get xx_c8 dX8_makeList_71 wf_X8_7 (j := 0) (by decide) h3 rfl ?_
  refine xx_iconst (v := 0) dX8_makeList_74 (by decide) ?_
  refine xx_iald dX8_makeList_75 hc3 (by unfold vp_in; decide) ?_
  refine xx_eqi (y := nI m) (hc2 0 (by decide)) ?_
  refine xx_aload_n dX8_makeList_76 rfl ?_
  refine xx_get xx_c8 dX8_makeList_77 wf_X8_7 (j := 0) (by decide) h3 rfl ?_
  refine xx_iconst (v := 1) dX8_makeList_80 (by decide) ?_
  refine xx_iald dX8_makeList_81 hc3 (by unfold vp_in; decide) ?_
  refine xx_eqi (y := nI n) (hc2 1 (by decide)) ?_
  refine xx_mmin dX8_makeList_82 xx_mth8min (by decide) (Nat.le_of_ble_eq_true rfl) ?_
  refine xx_eqi (y := nI (if n < m then n else m)) (yn_min hm hn) ?_
  refine xx_istore_n dX8_makeList_85 (by decide) ?_
  refine xx_clv (lv2 := [(0, .ref b), (1, .int (nI (if n < m then n else m)))]) rfl ?_
  refine xx_iconst (v := 1) dX8_makeList_86 (by decide) ?_
  refine xx_istore_n dX8_makeList_87 (by decide) ?_
  refine xx_clv (lv2 := [(0, .ref b), (1, .int (nI (if n < m then n else m))), (2, .int 1)]) rfl ?_
  have l6 : (if n < m then n else m) ≤ 6 := by split <;> omega
  refine xx_clv (lv2 := [(0, .ref b), (1, .int (nI (if n < m then n else m))), (2, .int (nI 1))]) rfl ?_
  refine l_X8_m2 (A := Eq3) (L9 := if n < m then n else m) hc3 hc2 hg (P.to (fun q9 a9 b9 => g3 q9 (by omega) (by omega))) hz hE l6 (fun C w1 w0 wb wM wE w4 => ?_) (if n < m then n else m) 1 (by omega) Eq3 rfl (Nat.le_refl _) h3 ⟨⟨hm9, (o3 z (by omega)).trans ((f2 z (by omega)).trans ((f1 z (by omega)).trans mA)), mB, mC⟩, K0.to (fun q9 a9 b9 => o3 q9 (by omega)), N1.to (fun q9 a9 b9 => o3 q9 (by omega))⟩ (En.to (fun q9 a9 b9 => g3 q9 (by omega) (by omega))) (fun q _ _ _ _ _ _ _ => rfl)
  refine xx_aload_n dX8_makeList_133 rfl ?_
  refine xx_iconst (v := 1) dX8_makeList_134 (by decide) ?_
  refine xx_put xx_c8 dX8_makeList_135 wf_X8_59 (j := 11) (by decide) rfl rfl rfl wb (Nat.le_of_ble_eq_true rfl) (xx_gu fun Eq4 z4 h4 o4 => ?_)
  exact xx_vret dX8_makeList_138 rfl ⟨rfl, by omega, h4, wM.to (fun q9 a9 b9 => o4 q9 (by omega)), wE.to (fun q9 a9 b9 => o4 q9 (by omega)), fun q9 a0 a1 a2 a3 => (o4 q9 a0).trans ((w4 q9 a0 a1 a2 (by omega) (by omega) (by omega) (by omega)).trans (g3 q9 a0 a3))⟩
set_option maxRecDepth 100000 in
theorem c_X8_makeList {G : xx_G} {l : Launch} {A : xx_H} {b z m n : Nat} {u6 u7 u11 : Value} {fc : Nat → Int32} {W : Nat → Nat → Nat → Int} {le : Nat → Int} {mu : Nat → Nat} {E : Nat → Nat → Bool} {u10 : Value} (hb : A.2 b = xx_o 8 [.ref (b + 1), .ref (b + 2), .ref (b + 11), .ref (b + 18), .ref (b + 19), .ref (b + 226), u6, u7, .ref z, .ref (b + 230), u10, u11, .ref (b + 233), .ref (b + 266), .ref (b + 279), .ref (b + 281), .ref (b + 283), .ref (b + 288)]) (hc : A.2 (b + 1) = xx_i 2 fc) (hc2 : ∀ p, p < 2 → fc p = nI (yy_cn m n p)) (hg : yg_ok m n W le) (P : xx_pys A b m n W le mu) (hz : b + 297 ≤ z) (hE : ∀ S, S < 2 ^ m → ∀ U, U < 2 ^ n → yb_c U = yb_c S → (E S U = true ↔ yk_h (yn_a W le 0) m S U ∧ yk_h (yn_a W le 1) n U S)) (M9 : xx_mns A z b yk_H0 yk_H0) (En : xx_ent A b yn_0) : xx_X G l mX8_makeList 5 13 11326 0 (lv_args 0 [.ref b]) [] A (fun q9 B => q9 = .inl none ∧ B.1 = A.1 ∧ B.2 b = xx_o 8 [.ref (b + 1), .ref (b + 2), .ref (b + 11), .ref (b + 18), .ref (b + 19), .ref (b + 226), u6, u7, .ref z, .ref (b + 230), .int (nI ((yn_all E m n yn_0 (if n < m then n else m)).1)), .int 1, .ref (b + 233), .ref (b + 266), .ref (b + 279), .ref (b + 281), .ref (b + 283), .ref (b + 288)] ∧ xx_mns B z b (yk_H (yn_a W le 0) m n) (yk_H (yn_a W le 1) n m) ∧ xx_ent B b (yn_all E m n yn_0 (if n < m then n else m)) ∧ ∀ q, q ≠ b → q ≠ b + 231 → q ≠ b + 232 → (q < z ∨ z + 13 ≤ q) → B.2 q = A.2 q) := by
  refine xx_clv (lv2 := [(0, .ref b)]) rfl ?_
  refine xx_aload_n dX8_makeList_0 rfl ?_
  refine xx_get xx_c8 dX8_makeList_1 wf_X8_49 (j := 8) (by decide) hb rfl ?_
  refine xx_ifnonnull (tgt := 47) dX8_makeList_4 (by decide) ?_
  refine xx_room (d2 := 5) (c2 := 0) (s2 := 0) (by decide) (by decide) (by decide) ?_
  exact c_X8_mk2 hb hc hc2 hg P hz hE M9 En
set_option maxRecDepth 100000 in
theorem c_X8_makeListN {G : xx_G} {l : Launch} {A : xx_H} {b m n : Nat} {u6 u7 u11 : Value} {fc : Nat → Int32} {W : Nat → Nat → Nat → Int} {le : Nat → Int} {mu : Nat → Nat} {E : Nat → Nat → Bool} {u10 : Value} (hb : A.2 b = xx_o 8 [.ref (b + 1), .ref (b + 2), .ref (b + 11), .ref (b + 18), .ref (b + 19), .ref (b + 226), u6, u7, .null, .ref (b + 230), u10, u11, .ref (b + 233), .ref (b + 266), .ref (b + 279), .ref (b + 281), .ref (b + 283), .ref (b + 288)]) (hc : A.2 (b + 1) = xx_i 2 fc) (hc2 : ∀ p, p < 2 → fc p = nI (yy_cn m n p)) (hg : yg_ok m n W le) (P : xx_pys A b m n W le mu) (hz : b + 297 ≤ A.1) (hE : ∀ S, S < 2 ^ m → ∀ U, U < 2 ^ n → yb_c U = yb_c S → (E S U = true ↔ yk_h (yn_a W le 0) m S U ∧ yk_h (yn_a W le 1) n U S)) (En : xx_ent A b yn_0) : xx_X G l mX8_makeList 5 13 11326 0 (lv_args 0 [.ref b]) [] A (fun q9 B => q9 = .inl none ∧ B.1 = A.1 + 13 ∧ B.2 b = xx_o 8 [.ref (b + 1), .ref (b + 2), .ref (b + 11), .ref (b + 18), .ref (b + 19), .ref (b + 226), u6, u7, .ref A.1, .ref (b + 230), .int (nI ((yn_all E m n yn_0 (if n < m then n else m)).1)), .int 1, .ref (b + 233), .ref (b + 266), .ref (b + 279), .ref (b + 281), .ref (b + 283), .ref (b + 288)] ∧ xx_mns B A.1 b (yk_H (yn_a W le 0) m n) (yk_H (yn_a W le 1) n m) ∧ xx_ent B b (yn_all E m n yn_0 (if n < m then n else m)) ∧ ∀ q, q ≠ b → q ≠ b + 231 → q ≠ b + 232 → q < A.1 → B.2 q = A.2 q) := by
  obtain ⟨⟨hpa, pa1, pa2⟩, po⟩ := id P
  refine xx_clv (lv2 := [(0, .ref b)]) rfl ?_
  refine xx_aload_n dX8_makeList_0 rfl ?_
  refine xx_get xx_c8 dX8_makeList_1 wf_X8_49 (j := 8) (by decide) hb rfl ?_
  refine xx_ifnonnullN dX8_makeList_4 ?_
  refine xx_aload_n dX8_makeList_7 rfl ?_
  refine xx_iconst (v := 2) dX8_makeList_8 (by decide) ?_
  refine xx_anew (kd := 13) (C := RX3) (N := 2) dX8_makeList_9 (by decide) rfl (by decide) wc_X8_239 (by decide) (by decide) (by decide) (xx_gp fun Eq1 z1 h1 o1 => ?_)
  have h1 : Eq1.2 A.1 = xx_r 13 2 (fun _ => none) := h1
  have zz1 : Eq1.1 = A.1 + 1 := by omega
  refine xx_dup dX8_makeList_12 rfl ?_
  refine xx_iconst (v := 0) dX8_makeList_13 (by decide) ?_
  refine xx_new xx_c3 (fs := [.null, .null, .null, .null, .null]) dX8_makeList_14 wc_X8_239 wn_X3 wz_X3 df_X3 (xx_gp fun Eq2 z2 h2 o2 => ?_)
  rw [zz1] at h2 ⊢
  have zz2 : Eq2.1 = A.1 + 2 := by omega
  have hb2 := (o2 b (by omega)).trans ((o1 b (by omega)).trans hb)
  refine xx_dup dX8_makeList_17 rfl ?_
  refine xx_aload_n dX8_makeList_18 rfl ?_
  refine xx_get xx_c8 dX8_makeList_19 wf_X8_16 (j := 1) (by decide) hb2 rfl ?_
  refine xx_iconst (v := 0) dX8_makeList_22 (by decide) ?_
  refine xx_aald (kd := 14) (b := b + 3) dX8_makeList_23 (by decide) rfl ((o2 _ (by omega)).trans ((o1 _ (by omega)).trans pa1)) (by unfold vp_in; decide) (pa2 0 (by decide)) ?_
  refine xx_callI (N := mX3_init) (vs := [.ref (b + 3)]) (b := A.1 + 1) (rest := [.ref (A.1 + 1), .int 0, .ref A.1, .ref A.1, .ref b]) (d2 := 1) (c2 := 5) (s2 := 5657) (c3 := 6) (s3 := 5662) dX8_makeList_24 rfl rfl rfl wm_X8_274 wi_X3_init (by decide) nX3_init ⟨pX3_init, Nat.le_of_ble_eq_true rfl, by decide, Nat.le_of_ble_eq_true rfl, by decide, by decide⟩ (c_X3_init (py := b + 3) h2 zz2) (fun v9 Eq3 hC => ?_) (fun E9 B9 hC => absurd hC.1 (by simp))
  obtain ⟨hv9, z3, mn3, o3⟩ := hC
  cases hv9
  refine xx_cst (st2 := [.ref (A.1 + 1), .int 0, .ref A.1, .ref A.1, .ref b]) rfl ?_
  have zz3 : Eq3.1 = A.1 + 7 := by omega
  have hb3 := (o3 b (by omega)).trans hb2
  have ar3 := (o3 A.1 (by omega)).trans ((o2 A.1 (by omega)).trans h1)
  refine xx_aast xx_c3 dX8_makeList_27 (by decide) rfl ar3 mn3.1 (by unfold vp_in; decide) (xx_gu fun Eq4 z4 h4 o4 => ?_)
  have zz4 : Eq4.1 = A.1 + 7 := by omega
  have hb4 := (o4 b (by omega)).trans hb3
  have mn4 := mn3.to (fun q9 a9 b9 => o4 q9 (by omega))
  refine xx_dup dX8_makeList_28 rfl ?_
  refine xx_iconst (v := 1) dX8_makeList_29 (by decide) ?_
  refine xx_new xx_c3 (fs := [.null, .null, .null, .null, .null]) dX8_makeList_30 wc_X8_239 wn_X3 wz_X3 df_X3 (xx_gp fun Eq5 z5 h5 o5 => ?_)
  rw [zz4] at h5 ⊢
  have zz5 : Eq5.1 = A.1 + 8 := by omega
  have hb5 := (o5 b (by omega)).trans hb4
  refine xx_dup dX8_makeList_33 rfl ?_
  refine xx_aload_n dX8_makeList_34 rfl ?_
  refine xx_get xx_c8 dX8_makeList_35 wf_X8_16 (j := 1) (by decide) hb5 rfl ?_
  refine xx_iconst (v := 1) dX8_makeList_38 (by decide) ?_
  refine xx_aald (kd := 14) (b := b + 7) dX8_makeList_39 (by decide) rfl ((o5 _ (by omega)).trans ((o4 _ (by omega)).trans ((o3 _ (by omega)).trans ((o2 _ (by omega)).trans ((o1 _ (by omega)).trans pa1))))) (by unfold vp_in; decide) (pa2 1 (by decide)) ?_
  refine xx_callI (N := mX3_init) (vs := [.ref (b + 7)]) (b := A.1 + 7) (rest := [.ref (A.1 + 7), .int 1, .ref A.1, .ref A.1, .ref b]) (d2 := 1) (c2 := 5) (s2 := 5657) (c3 := 0) (s3 := 0) dX8_makeList_40 rfl rfl rfl wm_X8_274 wi_X3_init (by decide) nX3_init ⟨pX3_init, Nat.le_of_ble_eq_true rfl, by decide, Nat.le_of_ble_eq_true rfl, by decide, by decide⟩ (c_X3_init (py := b + 7) h5 zz5) (fun v9 Eq6 hC => ?_) (fun E9 B9 hC => absurd hC.1 (by simp))
  obtain ⟨hv9, z6, mn6, o6⟩ := hC
  cases hv9
  refine xx_cst (st2 := [.ref (A.1 + 7), .int 1, .ref A.1, .ref A.1, .ref b]) rfl ?_
  have zz6 : Eq6.1 = A.1 + 13 := by omega
  have hb6 := (o6 b (by omega)).trans hb5
  have ar6 := (o6 A.1 (by omega)).trans ((o5 A.1 (by omega)).trans h4)
  refine xx_aast xx_c3 dX8_makeList_43 (by decide) rfl ar6 mn6.1 (by unfold vp_in; decide) (xx_gu fun Eq7 z7 h7 o7 => ?_)
  have hb7 := (o7 b (by omega)).trans hb6
  have mn7 := mn6.to (fun q9 a9 b9 => o7 q9 (by omega))
  refine xx_put xx_c8 dX8_makeList_44 wf_X8_49 (j := 8) (by decide) rfl rfl rfl hb7 (Nat.le_of_ble_eq_true rfl) (xx_gu fun Eq8 z8 h8 o8 => ?_)
  have h8 : Eq8.2 b = xx_o 8 [.ref (b + 1), .ref (b + 2), .ref (b + 11), .ref (b + 18), .ref (b + 19), .ref (b + 226), u6, u7, .ref A.1, .ref (b + 230), u10, u11, .ref (b + 233), .ref (b + 266), .ref (b + 279), .ref (b + 281), .ref (b + 283), .ref (b + 288)] := h8
  have g8 : ∀ q, q ≠ b → q < A.1 → Eq8.2 q = A.2 q := fun q c9 a9 => (o8 q c9).trans ((o7 q (by omega)).trans ((o6 q (by omega)).trans ((o5 q (by omega)).trans ((o4 q (by omega)).trans ((o3 q (by omega)).trans ((o2 q (by omega)).trans (o1 q (by omega))))))))
  have mk := c_X8_mk2 (G := G) (l := l) (E := E) (z := A.1) h8 ((g8 (b + 1) (by omega) (by omega)).trans hc) hc2 hg (P.to (fun q9 a9 b9 => g8 q9 (by omega) (by omega))) (by omega) hE ⟨⟨_, (o8 A.1 (by omega)).trans h7, rfl, rfl⟩, mn4.to (fun q9 a9 b9 => (o8 q9 (by omega)).trans ((o7 q9 (by omega)).trans ((o6 q9 (by omega)).trans (o5 q9 (by omega))))), mn7.to (fun q9 a9 b9 => o8 q9 (by omega))⟩ (En.to (fun q9 a9 b9 => g8 q9 (by omega) (by omega)))
  refine xx_mono (fun q9 B h => ⟨h.1, by have := h.2.1; omega, h.2.2.1, h.2.2.2.1, h.2.2.2.2.1, fun q a0 a1 a2 a3 => (h.2.2.2.2.2 q a0 a1 a2 (Or.inl a3)).trans (g8 q a0 a3)⟩) mk
