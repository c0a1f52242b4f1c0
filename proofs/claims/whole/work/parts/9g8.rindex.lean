/-! ===== the reference's determinant, index ===== -/
def yi_m (W : Nat → Nat → Nat → Int) (le : Nat → Int) (p S U k : Nat) : Nat → Nat → Int := fun c r => if c < k ∧ r < k then 1 + W p (yk_e S r) (yk_e U c) - le p else 0
def yi_dt (W : Nat → Nat → Nat → Int) (le : Nat → Int) (p S U : Nat) : Int := if p = 0 then yk_m (yn_a W le 0) S U else yk_m (yn_a W le 1) U S
theorem yi_dm {W : Nat → Nat → Nat → Int} {le : Nat → Int} {p S U : Nat} (hp : p < 2) (hc : yb_c U = yb_c S) : yj_D (yb_c S) (yi_m W le p S U (yb_c S)) = yi_dt W le p S U := by
  unfold yi_dt yj_D
  rcases (show p = 0 ∨ p = 1 by omega) with z | z
  · subst z
    rw [if_pos rfl, yk_mv]
    refine yd_ext_c (fun c h r h2 => ?_)
    unfold yi_m
    rw [if_pos ⟨h, h2⟩]
    rfl
  · subst z
    rw [if_neg (by decide), yk_mv, hc, yd_tr]
    unfold yd_c
    refine yd_ext (yb_c S) _ _ (fun r h c h2 => ?_)
    unfold yi_m
    rw [if_pos ⟨h, h2⟩]
    rfl
theorem yn_inn {x : Int32} {ec : Nat} (hec : ec ≤ 100) : (∀ e, e < ec → x = nI e → xx_inn x 0 (nI ec - 1) = 1) ∧ ((∀ e, e < ec → x ≠ nI e) → xx_inn x 0 (nI ec - 1) = 0) := by
  constructor
  · intro e he ee
    have e1 : nI ec - 1 = nI (ec - 1) := pk_sub (a := ec) (b := 1) (by omega)
    unfold xx_inn
    rw [e1, ee, if_neg (nI_pos (by omega)), if_neg (fun q => by have := (nI_ltI (a := ec - 1) (b := e) (by omega) (by omega)).mp q; omega)]
  · intro h
    unfold xx_inn
    by_cases z : x < 0
    · rw [if_pos z]
    · rw [if_neg z]
      obtain ⟨e, he, ee⟩ := nI_of z
      rw [if_pos]
      have he2 : ¬ e < ec := fun q => h e q ee
      by_cases z0 : ec = 0
      · subst z0
        rw [ee]
        have q1 := nI_pos (n := e) he
        rw [Int32.lt_iff_toInt_lt] at q1 ⊢
        have e1 : (nI 0 - 1 : Int32).toInt = -1 := by decide
        have e0 : (0 : Int32).toInt = 0 := by decide
        omega
      · have e1 : nI ec - 1 = nI (ec - 1) := pk_sub (a := ec) (b := 1) (by omega)
        rw [e1, ee]
        exact (nI_ltI (by omega) he).mpr (by omega)
set_option maxRecDepth 100000 in
theorem l_X9_d1 {G : xx_G} {l : Launch} {A : xx_H} {b : Nat} {th hr st hl en tu : Value} {m n : Nat} {p9 S U k9 : Nat} {N : Nat → Int} {W : Nat → Nat → Nat → Int} {le : Nat → Int} {mu : Nat → Nat} {gu gs : Nat → Int32} {r : Nat} {Q : Option Value ⊕ String → xx_H → Prop} (hb : A.2 b = xx_o 9 (xx_mf b th (.int (nI m)) (.int (nI n)) hr st hl en tu)) (hm : m ≤ 6) (hn : n ≤ 6) (hp : p9 < 2) (h6 : k9 ≤ 6) (hr9 : r < k9) (hch : A.2 (b + 19) = xx_i 6 gs) (hgs : ∀ j, j < k9 → gs j = nI (yk_e S j)) (hot : A.2 (b + 20) = xx_i 6 gu) (hgu : ∀ j, j < k9 → gu j = nI (yk_e U j)) (hP : xx_rp A b m n W le mu) (eS : ∀ r, r < k9 → yk_e S r < m) (eU : ∀ c, c < k9 → yk_e U c < n) (kC : ∀ (B : xx_H) (N2 : Nat → Int), (B.1 = A.1) → (xx_rw B b N2) → (∀ c, c < k9 → N2 (240 + 8 * r + c) = 1 + W p9 (yk_e S r) (yk_e U c) - le p9) → (∀ q, (q < 240 + 8 * r ∨ 240 + 8 * r + k9 ≤ q) → N2 q = N q) → (∀ q, q ≠ b + 1 → q ≠ b + 2 → q ≠ b + 3 → q ≠ b + 17 → q ≠ b + 18 → B.2 q = A.2 q) → xx_X G l mX9_determinant 5 0 0 77 [(0, .ref b), (1, .int (nI p9)), (4, .int (nI k9)), (6, .int (nI r))] [] B Q) :
    ∀ (v i : Nat), i + v = k9 → ∀ (B : xx_H) (N2 : Nat → Int), (B.1 = A.1) → (xx_rw B b N2) → (∀ c, c < i → N2 (240 + 8 * r + c) = 1 + W p9 (yk_e S r) (yk_e U c) - le p9) → (∀ q, (q < 240 + 8 * r ∨ 240 + 8 * r + i ≤ q) → N2 q = N q) → (∀ q, q ≠ b + 1 → q ≠ b + 2 → q ≠ b + 3 → q ≠ b + 17 → q ≠ b + 18 → B.2 q = A.2 q) → xx_X G l mX9_determinant 5 0 0 33 [(0, .ref b), (1, .int (nI p9)), (4, .int (nI k9)), (6, .int (nI r)), (7, .int (nI i))] [] B Q := by
  intro v
  induction v with
  | zero =>
    intro i h9i B N2 y1 y2 y3 y4 y5
    have h9e : k9 = i := by omega
    subst h9e
    refine xx_clv (lv2 := [(0, .ref b), (1, .int (nI p9)), (4, .int (nI k9)), (6, .int (nI r)), (7, .int (nI k9))]) rfl ?_
    refine xx_iload dX9_determinant_33 rfl ?_
    refine xx_iload dX9_determinant_35 rfl ?_
    refine xx_icmp_ge (tgt := 77) dX9_determinant_37 (by decide) (fun j37 => ?_) (fun h => absurd (Int32.le_refl _) h)
    refine xx_less [0, 1, 4, 6] ?_
    refine xx_clv (lv2 := [(0, .ref b), (1, .int (nI p9)), (4, .int (nI k9)), (6, .int (nI r))]) rfl ?_
    exact kC B N2 y1 y2 y3 y4 y5
  | succ v ih =>
    intro i h9i B N2 y1 y2 y3 y4 y5
    have hb2 := (y5 b (by omega) (by omega) (by omega) (by omega) (by omega)).trans hb
    have hch2 := (y5 (b + 19) (by omega) (by omega) (by omega) (by omega) (by omega)).trans hch
    have hot2 := (y5 (b + 20) (by omega) (by omega) (by omega) (by omega) (by omega)).trans hot
    have hP2 := hP.to (y5 _ (by omega) (by omega) (by omega) (by omega) (by omega)) (y5 _ (by omega) (by omega) (by omega) (by omega) (by omega)) (y5 _ (by omega) (by omega) (by omega) (by omega) (by omega))
    have es := eS r hr9
    have eu := eU i (by omega)
    have q1 := hP.2.2.2.2 p9 hp
    have q2 := hP.2.2.2.1 p9 hp _ es _ eu
    refine xx_iload dX9_determinant_33 rfl ?_
    refine xx_iload dX9_determinant_35 rfl ?_
    refine xx_icmp_ge (tgt := 77) dX9_determinant_37 (by decide) (fun h => absurd h (nI_ge (a := i) (b := k9) (by omega) (by omega))) (fun j37 => ?_)
    refine xx_aload_n dX9_determinant_40 rfl ?_
    refine xx_aload_n dX9_determinant_41 rfl ?_
    refine xx_iload dX9_determinant_42 rfl ?_
    refine xx_iload dX9_determinant_44 rfl ?_
    refine xx_callV (N := mX9_at) (vs := [.int (nI r), .int (nI i)]) (b := b) (rest := [.ref b]) (d2 := 0) (c2 := 0) (s2 := 0) (c3 := 0) (s3 := 0) dX9_determinant_46 wm_X9_199 wi_X9_at wv_X9_at (k := 9) rfl (by decide) hb2 nX9_at ⟨pX9_at, Nat.le_of_ble_eq_true rfl, by decide, Nat.le_of_ble_eq_true rfl, by decide, by decide⟩ (c_X9_at (r := r) (c := i)) (fun v9 B9 hC => ?_) (fun E9 B9 hC => absurd hC.1 (by simp))
    obtain ⟨hv9, e9⟩ := hC
    cases hv9
    refine xx_cst (st2 := [.int (nI (240 + 8 * r + i)), .ref b]) rfl ?_
    rw [e9]
    refine xx_aload_n dX9_determinant_49 rfl ?_
    refine xx_iload_n dX9_determinant_50 rfl ?_
    refine xx_aload_n dX9_determinant_51 rfl ?_
    refine xx_get xx_c9 dX9_determinant_52 wf_X9_71 (j := 25) (by decide) hb2 rfl ?_
    refine xx_iload dX9_determinant_55 rfl ?_
    refine xx_iald dX9_determinant_57 hch2 (vp_in_nI (by omega) (by decide)) ?_
    refine xx_eqi (y := nI (yk_e S r)) (by rw [nI_clamp (by omega)]; exact hgs r hr9) ?_
    refine xx_aload_n dX9_determinant_58 rfl ?_
    refine xx_get xx_c9 dX9_determinant_59 wf_X9_74 (j := 26) (by decide) hb2 rfl ?_
    refine xx_iload dX9_determinant_62 rfl ?_
    refine xx_iald dX9_determinant_64 hot2 (vp_in_nI (by omega) (by decide)) ?_
    refine xx_eqi (y := nI (yk_e U i)) (by rw [nI_clamp (by omega)]; exact hgu i (by omega)) ?_
    refine xx_callV (N := mX9_entry) (vs := [.int (nI p9), .int (nI (yk_e S r)), .int (nI (yk_e U i))]) (b := b) (rest := [.int (nI (240 + 8 * r + i)), .ref b]) (d2 := 0) (c2 := 0) (s2 := 0) (c3 := 0) (s3 := 0) dX9_determinant_65 wm_X9_155 wi_X9_entry wv_X9_entry (k := 9) rfl (by decide) hb2 nX9_entry ⟨pX9_entry, Nat.le_of_ble_eq_true rfl, by decide, Nat.le_of_ble_eq_true rfl, by decide, by decide⟩ (c_X9_entry (p := p9) (i := yk_e S r) (j := yk_e U i) hb2 hP2 hp es eu hm hn) (fun v9 B9 hC => ?_) (fun E9 B9 hC => absurd hC.1 (by simp))
    obtain ⟨hv9, e9⟩ := hC
    cases hv9
    refine xx_cst (st2 := [.long (lz (1 + W p9 (yk_e S r) (yk_e U i) - le p9)), .int (nI (240 + 8 * r + i)), .ref b]) rfl ?_
    rw [e9]
    refine xx_callV (N := mX9_set) (vs := [.int (nI (240 + 8 * r + i)), .long (lz (1 + W p9 (yk_e S r) (yk_e U i) - le p9))]) (b := b) (rest := []) (d2 := 0) (c2 := 0) (s2 := 0) (c3 := 0) (s3 := 0) dX9_determinant_68 wm_X9_80 wi_X9_set wv_X9_set (k := 9) rfl (by decide) hb2 nX9_set ⟨pX9_set, Nat.le_of_ble_eq_true rfl, by decide, Nat.le_of_ble_eq_true rfl, by decide, by decide⟩ (w_X9_set hb2 y2 (a := 240 + 8 * r + i) (v := 1 + W p9 (yk_e S r) (yk_e U i) - le p9) (by omega) (by omega) (by omega)) (fun v9 Eq1 hC => ?_) (fun E9 B9 hC => absurd hC.1 (by simp))
    obtain ⟨hv9, zq1, ⟨Nq1, hNq1, vq1, fq1⟩, oq1⟩ := hC
    cases hv9
    refine xx_cst (st2 := []) rfl ?_
    have hbq1 := (oq1 b (by omega) (by omega) (by omega) (by omega) (by omega)).trans hb2
    refine xx_iinc (v := nI (i + 1)) dX9_determinant_71 rfl (nI_1 i) (by decide) ?_
    refine xx_clv (lv2 := [(0, .ref b), (1, .int (nI p9)), (4, .int (nI k9)), (6, .int (nI r)), (7, .int (nI (i + 1)))]) rfl ?_
    refine xx_goto (tgt := 33) dX9_determinant_74 (by decide) ?_
    refine xx_less [0, 1, 4, 6, 7] ?_
    refine xx_clv (lv2 := [(0, .ref b), (1, .int (nI p9)), (4, .int (nI k9)), (6, .int (nI r)), (7, .int (nI (i + 1)))]) rfl ?_
    refine ih (i + 1) (by omega) Eq1 Nq1 (by omega) hNq1 (fun c hc => ?_) (fun q hq => (fq1 q (by omega)).trans (y4 q (by omega))) (fun q a1 a2 a3 a4 a5 => (oq1 q a1 a2 a3 a4 a5).trans (y5 q a1 a2 a3 a4 a5))
    by_cases z : c = i
    · rw [z]; exact vq1
    · rw [fq1 _ (by omega)]; exact y3 c (by omega)
set_option maxRecDepth 100000 in
theorem l_X9_d2 {G : xx_G} {l : Launch} {A : xx_H} {b : Nat} {th hr st hl en tu : Value} {m n : Nat} {p9 S U k9 : Nat} {N : Nat → Int} {W : Nat → Nat → Nat → Int} {le : Nat → Int} {mu : Nat → Nat} {gu gs : Nat → Int32} {Q : Option Value ⊕ String → xx_H → Prop} (hb : A.2 b = xx_o 9 (xx_mf b th (.int (nI m)) (.int (nI n)) hr st hl en tu)) (hm : m ≤ 6) (hn : n ≤ 6) (hp : p9 < 2) (h6 : k9 ≤ 6) (hch : A.2 (b + 19) = xx_i 6 gs) (hgs : ∀ j, j < k9 → gs j = nI (yk_e S j)) (hot : A.2 (b + 20) = xx_i 6 gu) (hgu : ∀ j, j < k9 → gu j = nI (yk_e U j)) (hP : xx_rp A b m n W le mu) (eS : ∀ r, r < k9 → yk_e S r < m) (eU : ∀ c, c < k9 → yk_e U c < n) (kC : ∀ (B : xx_H) (N2 : Nat → Int), (B.1 = A.1) → (xx_rw B b N2) → (∀ r, r < k9 → ∀ c, c < k9 → N2 (240 + 8 * r + c) = yi_m W le p9 S U k9 c r) → (∀ q, (q < 240 ∨ 240 + 8 * k9 ≤ q) → N2 q = N q) → (∀ q, q ≠ b + 1 → q ≠ b + 2 → q ≠ b + 3 → q ≠ b + 17 → q ≠ b + 18 → B.2 q = A.2 q) → xx_X G l mX9_determinant 5 0 0 83 [(0, .ref b), (4, .int (nI k9))] [] B Q) :
    ∀ (v i : Nat), i + v = k9 → ∀ (B : xx_H) (N2 : Nat → Int), (B.1 = A.1) → (xx_rw B b N2) → (∀ r, r < i → ∀ c, c < k9 → N2 (240 + 8 * r + c) = yi_m W le p9 S U k9 c r) → (∀ q, (q < 240 ∨ 240 + 8 * i ≤ q) → N2 q = N q) → (∀ q, q ≠ b + 1 → q ≠ b + 2 → q ≠ b + 3 → q ≠ b + 17 → q ≠ b + 18 → B.2 q = A.2 q) → xx_X G l mX9_determinant 5 0 0 23 [(0, .ref b), (1, .int (nI p9)), (4, .int (nI k9)), (6, .int (nI i))] [] B Q := by
  intro v
  induction v with
  | zero =>
    intro i h9i B N2 y1 y2 y3 y4 y5
    have h9e : k9 = i := by omega
    subst h9e
    refine xx_clv (lv2 := [(0, .ref b), (1, .int (nI p9)), (4, .int (nI k9)), (6, .int (nI k9))]) rfl ?_
    refine xx_iload dX9_determinant_23 rfl ?_
    refine xx_iload dX9_determinant_25 rfl ?_
    refine xx_icmp_ge (tgt := 83) dX9_determinant_27 (by decide) (fun j27 => ?_) (fun h => absurd (Int32.le_refl _) h)
    refine xx_less [0, 4] ?_
    refine xx_clv (lv2 := [(0, .ref b), (4, .int (nI k9))]) rfl ?_
    exact kC B N2 y1 y2 y3 y4 y5
  | succ v ih =>
    intro i h9i B N2 y1 y2 y3 y4 y5
    have hb2 := (y5 b (by omega) (by omega) (by omega) (by omega) (by omega)).trans hb
    refine xx_iload dX9_determinant_23 rfl ?_
    refine xx_iload dX9_determinant_25 rfl ?_
    refine xx_icmp_ge (tgt := 83) dX9_determinant_27 (by decide) (fun h => absurd h (nI_ge (a := i) (b := k9) (by omega) (by omega))) (fun j27 => ?_)
    refine xx_iconst (v := 0) dX9_determinant_30 (by decide) ?_
    refine xx_istore dX9_determinant_31 (by decide) ?_
    refine xx_clv (lv2 := [(0, .ref b), (1, .int (nI p9)), (4, .int (nI k9)), (6, .int (nI i)), (7, .int 0)]) rfl ?_
    refine xx_clv (lv2 := [(0, .ref b), (1, .int (nI p9)), (4, .int (nI k9)), (6, .int (nI i)), (7, .int (nI 0))]) rfl ?_
    refine l_X9_d1 (A := B) (N := N2) (r := i) hb2 hm hn hp h6 (by omega) ((y5 (b + 19) (by omega) (by omega) (by omega) (by omega) (by omega)).trans hch) hgs ((y5 (b + 20) (by omega) (by omega) (by omega) (by omega) (by omega)).trans hot) hgu (hP.to (y5 _ (by omega) (by omega) (by omega) (by omega) (by omega)) (y5 _ (by omega) (by omega) (by omega) (by omega) (by omega)) (y5 _ (by omega) (by omega) (by omega) (by omega) (by omega))) eS eU (fun D N3 w1 w2 w3 w4 w5 => ?_) k9 0 (by omega) B N2 rfl y2 (fun c hc => absurd hc (Nat.not_lt_zero c)) (fun q _ => rfl) (fun q _ _ _ _ _ => rfl)
    refine xx_iinc (v := nI (i + 1)) dX9_determinant_77 rfl (nI_1 i) (by decide) ?_
    refine xx_clv (lv2 := [(0, .ref b), (1, .int (nI p9)), (4, .int (nI k9)), (6, .int (nI (i + 1)))]) rfl ?_
    refine xx_goto (tgt := 23) dX9_determinant_80 (by decide) ?_
    refine xx_less [0, 1, 4, 6] ?_
    refine xx_clv (lv2 := [(0, .ref b), (1, .int (nI p9)), (4, .int (nI k9)), (6, .int (nI (i + 1)))]) rfl ?_
    refine ih (i + 1) (by omega) D N3 (by omega) w2 (fun r hr c hc => ?_) (fun q hq => (w4 q (by omega)).trans (y4 q (by omega))) (fun q a1 a2 a3 a4 a5 => (w5 q a1 a2 a3 a4 a5).trans (y5 q a1 a2 a3 a4 a5))
    by_cases z : r = i
    · subst z
      unfold yi_m
      rw [if_pos ⟨hc, by omega⟩]; exact w3 c hc
    · rw [w4 _ (by omega)]; exact y3 r (by omega) c hc
set_option maxRecDepth 100000 in
theorem c_X9_determinant {G : xx_G} {l : Launch} {A : xx_H} {b : Nat} {th hr st hl en tu : Value} {m n : Nat} {p9 S U : Nat} {N : Nat → Int} {W : Nat → Nat → Nat → Int} {le : Nat → Int} {mu : Nat → Nat} {gu gs : Nat → Int32} (hb : A.2 b = xx_o 9 (xx_mf b th (.int (nI m)) (.int (nI n)) hr st hl en tu)) (hN : xx_rw A b N) (hg : yg_ok m n W le) (hP : xx_rp A b m n W le mu) (hp : p9 < 2) (hch : A.2 (b + 19) = xx_i 6 gu) (hot : A.2 (b + 20) = xx_i 6 gs) (hS : S < 2 ^ m) (hU : U < 2 ^ n) (hc : yb_c U = yb_c S) (hc0 : 0 < yb_c S) : xx_X G l mX9_determinant 5 0 0 0 (lv_args 0 [.ref b, .int (nI p9), .int (nI S), .int (nI U)]) [] A (fun z B => z = .inl (some (.int (iz (yi_dt W le p9 S U).sign))) ∧ B.1 = A.1 ∧ (∃ tu2, B.2 b = xx_o 9 (xx_mf b th (.int (nI m)) (.int (nI n)) hr st hl en tu2)) ∧ (∃ g, B.2 (b + 19) = xx_i 6 g) ∧ (∃ g, B.2 (b + 20) = xx_i 6 g) ∧ (∃ N2, xx_rw B b N2 ∧ (∀ q, 14 ≤ q → q ≠ 19 → q ≠ 28 → (q < 240 ∨ 296 ≤ q) → N2 q = N q)) ∧ ∀ q, q ≠ b → q ≠ b + 1 → q ≠ b + 2 → q ≠ b + 3 → q ≠ b + 17 → q ≠ b + 18 → q ≠ b + 19 → q ≠ b + 20 → B.2 q = A.2 q) := by
  have hm := hg.2.1
  have hn := hg.2.2.2.1
  have S64 : S < 64 := Nat.lt_of_lt_of_le hS (yk_pw hm)
  have U64 : U < 64 := Nat.lt_of_lt_of_le hU (yk_pw hn)
  have eS := yk_le S S64 _ hm hS
  have eU := yk_le U U64 _ hn hU
  have h6 := yb_c6 S S64
  have eD := yi_dm (W := W) (le := le) hp hc
  obtain ⟨k9, hk9⟩ : ∃ k, k = yb_c S := ⟨_, rfl⟩
  have hkU : yb_c U = k9 := by omega
  have hkS : yb_c S = k9 := hk9.symm
  rw [hkS] at eS h6 hc0 eD
  rw [hkU] at eU
  have hMb : ∀ c r, (yi_m W le p9 S U k9 c r).natAbs ≤ 554344561 := by
    intro c r
    unfold yi_m
    by_cases z : c < k9 ∧ r < k9
    · rw [if_pos z]
      have q1 := hP.2.2.2.2 p9 hp
      have q2 := hP.2.2.2.1 p9 hp _ (eS r z.2) _ (eU c z.1)
      omega
    · rw [if_neg z]; decide
  refine xx_clv (lv2 := [(0, .ref b), (1, .int (nI p9)), (2, .int (nI S)), (3, .int (nI U))]) rfl ?_
  refine xx_iload_n dX9_determinant_0 rfl ?_
  refine xx_aload_n dX9_determinant_1 rfl ?_
  refine xx_get xx_c9 dX9_determinant_2 wf_X9_71 (j := 25) (by decide) hb rfl ?_
  refine xx_callS (N := mX9_bitsOf) (vs := [.int (nI S), .ref (b + 19)]) (rest := []) (d2 := 0) (c2 := 0) (s2 := 0) (c3 := 0) (s3 := 0) dX9_determinant_5 wm_X9_205 ws_X9_bitsOf wz_X9 (by decide) nX9_bitsOf ⟨pX9_bitsOf, Nat.le_of_ble_eq_true rfl, by decide, Nat.le_of_ble_eq_true rfl, by decide, by decide⟩ (c_X9_bitsOf S64 hch) (fun v9 Eb1 hC => ?_) (fun E9 B9 hC => absurd hC.1 (by simp))
  obtain ⟨hv9, zb1, ⟨g1, hg1, gs1⟩, ob1⟩ := hC
  cases hv9
  refine xx_cst (st2 := [.int (nI (yb_c S))]) rfl ?_
  rw [hkS] at gs1 ⊢
  have hbb1 := (ob1 b (by omega)).trans hb
  refine xx_istore dX9_determinant_8 (by decide) ?_
  refine xx_clv (lv2 := [(0, .ref b), (1, .int (nI p9)), (2, .int (nI S)), (3, .int (nI U)), (4, .int (nI k9))]) rfl ?_
  refine xx_iload_n dX9_determinant_10 rfl ?_
  refine xx_aload_n dX9_determinant_11 rfl ?_
  refine xx_get xx_c9 dX9_determinant_12 wf_X9_74 (j := 26) (by decide) hbb1 rfl ?_
  refine xx_callS (N := mX9_bitsOf) (vs := [.int (nI U), .ref (b + 20)]) (rest := []) (d2 := 0) (c2 := 0) (s2 := 0) (c3 := 0) (s3 := 0) dX9_determinant_15 wm_X9_205 ws_X9_bitsOf wz_X9 (by decide) nX9_bitsOf ⟨pX9_bitsOf, Nat.le_of_ble_eq_true rfl, by decide, Nat.le_of_ble_eq_true rfl, by decide, by decide⟩ (c_X9_bitsOf U64 ((ob1 _ (by omega)).trans hot)) (fun v9 Eb2 hC => ?_) (fun E9 B9 hC => absurd hC.1 (by simp))
  obtain ⟨hv9, zb2, ⟨g2, hg2, gu2⟩, ob2⟩ := hC
  cases hv9
  refine xx_cst (st2 := [.int (nI (yb_c U))]) rfl ?_
  rw [hkU] at gu2 ⊢
  have hbb2 := (ob2 b (by omega)).trans hbb1
  refine xx_istore dX9_determinant_18 (by decide) ?_
  refine xx_clv (lv2 := [(0, .ref b), (1, .int (nI p9)), (2, .int (nI S)), (3, .int (nI U)), (4, .int (nI k9)), (5, .int (nI k9))]) rfl ?_
  refine xx_iconst (v := 0) dX9_determinant_20 (by decide) ?_
  refine xx_istore dX9_determinant_21 (by decide) ?_
  refine xx_clv (lv2 := [(0, .ref b), (1, .int (nI p9)), (2, .int (nI S)), (3, .int (nI U)), (4, .int (nI k9)), (5, .int (nI k9)), (6, .int 0)]) rfl ?_
  have obz : ∀ q, q ≠ b + 19 → q ≠ b + 20 → Eb2.2 q = A.2 q := fun q a1 a2 => (ob2 q a2).trans (ob1 q a1)
  have hN2 : xx_rw Eb2 b N := hN.to (obz _ (by omega) (by omega)) (obz _ (by omega) (by omega)) (obz _ (by omega) (by omega)) (obz _ (by omega) (by omega)) (obz _ (by omega) (by omega))
  have hch2 := (ob2 (b + 19) (by omega)).trans hg1
  refine xx_less [0, 1, 4, 6] ?_
  refine xx_clv (lv2 := [(0, .ref b), (1, .int (nI p9)), (4, .int (nI k9)), (6, .int (nI 0))]) rfl ?_
  refine l_X9_d2 (A := Eb2) (N := N) (S := S) (U := U) hbb2 hm hn hp h6 hch2 gs1 hg2 gu2 (hP.to (obz _ (by omega) (by omega)) (obz _ (by omega) (by omega)) (obz _ (by omega) (by omega))) eS eU (fun B N3 y1 y2 y3 y4 y5 => ?_) k9 0 (by omega) Eb2 N rfl hN2 (fun r hr => absurd hr (Nat.not_lt_zero r)) (fun q _ => rfl) (fun q _ _ _ _ _ => rfl)
  have hb3 := (y5 b (by omega) (by omega) (by omega) (by omega) (by omega)).trans hbb2
  refine xx_aload_n dX9_determinant_83 rfl ?_
  refine xx_iload dX9_determinant_84 rfl ?_
  refine xx_iload dX9_determinant_86 rfl ?_
  refine xx_callV (N := mX9_triangle) (vs := [.int (nI k9), .int (nI k9)]) (b := b) (rest := []) (d2 := 4) (c2 := 0) (s2 := 0) (c3 := 0) (s3 := 0) dX9_determinant_88 wm_X9_211 wi_X9_triangle wv_X9_triangle (k := 9) rfl (by decide) hb3 nX9_triangle ⟨pX9_triangle, Nat.le_of_ble_eq_true rfl, by decide, Nat.le_of_ble_eq_true rfl, by decide, by decide⟩ (c_X9_triangle (R := k9) (C := k9) (M := yi_m W le p9 S U k9) hb3 (by omega) (by omega) (by omega) hMb y2 (by omega) y3) (fun v9 Et hC => ?_) (fun E9 B9 hC => absurd hC.1 (by simp))
  obtain ⟨hv9, zt, ⟨tu2, hbt⟩, ⟨Nt, s, hNt, hs, e28, _, ft⟩, ot⟩ := hC
  cases hv9
  refine xx_cst (st2 := []) rfl ?_
  obtain ⟨h9, s1, s2⟩ := hNt.sg
  refine xx_aload_n dX9_determinant_91 rfl ?_
  refine xx_get xx_c9 dX9_determinant_92 wf_X9_17 (j := 3) (by decide) hbt rfl ?_
  refine xx_bipush (v := 28) dX9_determinant_95 (by decide) ?_
  refine xx_iald dX9_determinant_97 s1 (by unfold vp_in; decide) ?_
  refine xx_eqi (y := iz (yi_dt W le p9 S U).sign) ((s2 28 (by decide)).trans (by rw [e28, eD])) ?_
  exact xx_iret dX9_determinant_98 rfl ⟨rfl, by omega, ⟨tu2, hbt⟩, ⟨_, (ot _ (by omega) (by omega) (by omega) (by omega) (by omega) (by omega)).trans ((y5 _ (by omega) (by omega) (by omega) (by omega) (by omega)).trans hch2)⟩, ⟨_, (ot _ (by omega) (by omega) (by omega) (by omega) (by omega) (by omega)).trans ((y5 _ (by omega) (by omega) (by omega) (by omega) (by omega)).trans hg2)⟩, ⟨Nt, hNt, fun q a1 a2 a3 a4 => (ft q (by omega) (by omega) a2 a3 a4).trans (y4 q (by omega))⟩, fun q a0 a1 a2 a3 a4 a5 a6 a7 => (ot q a0 a1 a2 a3 a4 a5).trans ((y5 q a1 a2 a3 a4 a5).trans (obz q a6 a7))⟩
set_option maxRecDepth 100000 in
theorem c_X9_index {G : xx_G} {l : Launch} {A : xx_H} {b : Nat} {th hr st tu : Value} {m n : Nat} {s9 : yn_S} {E : Nat → Nat → Bool} {N : Nat → Int} {W : Nat → Nat → Nat → Int} {le : Nat → Int} {mu : Nat → Nat} {gu gs : Nat → Int32} {e : Nat} (hb : A.2 b = xx_o 9 (xx_mf b th (.int (nI m)) (.int (nI n)) hr st (.int 1) (.int (nI s9.1)) tu)) (hN : xx_rw A b N) (hg : yg_ok m n W le) (hP : xx_rp A b m n W le mu) (hch : A.2 (b + 19) = xx_i 6 gu) (hot : A.2 (b + 20) = xx_i 6 gs) (hsu : xx_sup A b s9) (hok : yn_ok m n E s9) (he : e < s9.1) : xx_X G l mX9_index 6 0 0 0 (lv_args 0 [.ref b, .int (nI e)]) [] A (fun z B => z = .inl (some (.int (iz (yn_ix (yn_a W le 0) (yn_a W le 1) (s9.2.1 e) (s9.2.2 e))))) ∧ B.1 = A.1 ∧ (∃ tu2, B.2 b = xx_o 9 (xx_mf b (.int 0) (.int (nI m)) (.int (nI n)) hr st (.int 1) (.int (nI s9.1)) tu2)) ∧ (∃ g, B.2 (b + 19) = xx_i 6 g) ∧ (∃ g, B.2 (b + 20) = xx_i 6 g) ∧ (∃ N2, xx_rw B b N2 ∧ (∀ q, 14 ≤ q → q ≠ 19 → q ≠ 28 → (q < 240 ∨ 296 ≤ q) → N2 q = N q)) ∧ ∀ q, q ≠ b → q ≠ b + 1 → q ≠ b + 2 → q ≠ b + 3 → q ≠ b + 17 → q ≠ b + 18 → q ≠ b + 19 → q ≠ b + 20 → B.2 q = A.2 q) := by
  have hm := hg.2.1
  have hn := hg.2.2.2.1
  have mw := yk_pw hm
  have nw := yk_pw hn
  have c100 := hok.1
  have in1 := (yn_inn (x := nI e) c100).1 e he rfl
  obtain ⟨o1, o2, o3, o4, o5⟩ := hok.2 e he
  obtain ⟨f9, sA, sB⟩ := id hsu
  refine xx_clv (lv2 := [(0, .ref b), (1, .int (nI e))]) rfl ?_
  refine xx_aload_n dX9_index_0 rfl ?_
  refine xx_aload_n dX9_index_1 rfl ?_
  refine xx_get xx_c9 dX9_index_2 wf_X9_132 (j := 15) (by decide) hb rfl ?_
  refine xx_if_eq (tgt := 22) dX9_index_5 (by decide) (fun h => absurd h (by decide)) (fun j5 => ?_)
  refine xx_iload_n dX9_index_8 rfl ?_
  refine xx_iconst (v := 0) dX9_index_9 (by decide) ?_
  refine xx_aload_n dX9_index_10 rfl ?_
  refine xx_get xx_c9 dX9_index_11 wf_X9_136 (j := 16) (by decide) hb rfl ?_
  refine xx_iconst (v := 1) dX9_index_14 (by decide) ?_
  refine xx_isub dX9_index_15 ?_
  refine xx_callS (N := mX9_in) (vs := [.int (nI e), .int 0, .int (nI s9.1 - 1)]) (rest := [.ref b]) (d2 := 0) (c2 := 0) (s2 := 0) (c3 := 0) (s3 := 0) dX9_index_16 wm_X9_116 ws_X9_in wz_X9 (by decide) nX9_in ⟨pX9_in, Nat.le_of_ble_eq_true rfl, by decide, Nat.le_of_ble_eq_true rfl, by decide, by decide⟩ c_X9_in (fun v9 B9 hC => ?_) (fun E9 B9 hC => absurd hC.1 (by simp))
  obtain ⟨hv9, e9⟩ := hC
  cases hv9
  rw [e9]
  refine xx_cst (st2 := [.int 1, .ref b]) (by rw [in1]; rfl) ?_
  refine xx_if_ne (tgt := 26) dX9_index_19 (by decide) (fun j19 => ?_) (fun h => absurd h (by decide))
  refine xx_iconst (v := 0) dX9_index_26 (by decide) ?_
  refine xx_put xx_c9 dX9_index_27 wf_X9_84 (j := 0) (by decide) rfl rfl rfl hb (Nat.le_of_ble_eq_true rfl) (xx_gu fun Eq1 zq1 hbq1 oq1 => ?_)
  have hbq1 : Eq1.2 b = xx_o 9 (xx_mf b (.int 0) (.int (nI m)) (.int (nI n)) hr st (.int 1) (.int (nI s9.1)) tu) := hbq1
  have hNq1 : xx_rw Eq1 b N := hN.to (oq1 _ (by omega)) (oq1 _ (by omega)) (oq1 _ (by omega)) (oq1 _ (by omega)) (oq1 _ (by omega))
  have sA1 := (oq1 (b + 11) (by omega)).trans sA
  refine xx_aload_n dX9_index_30 rfl ?_
  refine xx_get xx_c9 dX9_index_31 wf_X9_84 (j := 0) (by decide) hbq1 rfl ?_
  refine xx_if_le (tgt := 39) dX9_index_34 (by decide) (fun j34 => ?_) (fun h => absurd (by decide) h)
  refine xx_aload_n dX9_index_39 rfl ?_
  refine xx_get xx_c9 dX9_index_40 wf_X9_45 (j := 17) (by decide) hbq1 rfl ?_
  refine xx_iconst (v := 2) dX9_index_43 (by decide) ?_
  refine xx_iload_n dX9_index_44 rfl ?_
  refine xx_imul dX9_index_45 ?_
  refine xx_eqi (y := nI (2 * e)) (pk_mul 2 e) ?_
  refine xx_iald dX9_index_46 sA1 (vp_in_nI (by omega) (by decide)) ?_
  refine xx_eqi (y := nI (s9.2.1 e)) (by rw [nI_clamp (by omega)]; exact (sB e he).1) ?_
  refine xx_istore_n dX9_index_47 (by decide) ?_
  refine xx_clv (lv2 := [(0, .ref b), (1, .int (nI e)), (2, .int (nI (s9.2.1 e)))]) rfl ?_
  refine xx_aload_n dX9_index_48 rfl ?_
  refine xx_get xx_c9 dX9_index_49 wf_X9_45 (j := 17) (by decide) hbq1 rfl ?_
  refine xx_iconst (v := 2) dX9_index_52 (by decide) ?_
  refine xx_iload_n dX9_index_53 rfl ?_
  refine xx_imul dX9_index_54 ?_
  refine xx_eqi (y := nI (2 * e)) (pk_mul 2 e) ?_
  refine xx_iconst (v := 1) dX9_index_55 (by decide) ?_
  refine xx_iadd dX9_index_56 ?_
  refine xx_eqi (y := nI (2 * e + 1)) (nI_add (2 * e) 1) ?_
  refine xx_iald dX9_index_57 sA1 (vp_in_nI (by omega) (by decide)) ?_
  refine xx_eqi (y := nI (s9.2.2 e)) (by rw [nI_clamp (by omega)]; exact (sB e he).2) ?_
  refine xx_istore_n dX9_index_58 (by decide) ?_
  refine xx_clv (lv2 := [(0, .ref b), (1, .int (nI e)), (2, .int (nI (s9.2.1 e))), (3, .int (nI (s9.2.2 e)))]) rfl ?_
  refine xx_aload_n dX9_index_59 rfl ?_
  refine xx_iconst (v := 0) dX9_index_60 (by decide) ?_
  refine xx_iload_n dX9_index_61 rfl ?_
  refine xx_iload_n dX9_index_62 rfl ?_
  refine xx_callV (N := mX9_determinant) (vs := [.int 0, .int (nI (s9.2.1 e)), .int (nI (s9.2.2 e))]) (b := b) (rest := []) (d2 := 5) (c2 := 0) (s2 := 0) (c3 := 0) (s3 := 0) dX9_index_63 wm_X9_223 wi_X9_determinant wv_X9_determinant (k := 9) rfl (by decide) hbq1 nX9_determinant ⟨pX9_determinant, Nat.le_of_ble_eq_true rfl, by decide, Nat.le_of_ble_eq_true rfl, by decide, by decide⟩ (c_X9_determinant (p9 := 0) (S := s9.2.1 e) (U := s9.2.2 e) hbq1 hNq1 hg (hP.to (oq1 _ (by omega)) (oq1 _ (by omega)) (oq1 _ (by omega))) (by decide) ((oq1 _ (by omega)).trans hch) ((oq1 _ (by omega)).trans hot) o1 o2 o3 o4) (fun v9 Exa hC => ?_) (fun E9 B9 hC => absurd hC.1 (by simp))
  obtain ⟨hv9, za, ⟨tua, hba⟩, ⟨gca, hca⟩, ⟨goa, hoa⟩, ⟨Na, hNa, fa⟩, oa⟩ := hC
  cases hv9
  refine xx_cst (st2 := [.int (iz (yi_dt W le 0 (s9.2.1 e) (s9.2.2 e)).sign)]) rfl ?_
  refine xx_aload_n dX9_index_66 rfl ?_
  refine xx_iconst (v := 1) dX9_index_67 (by decide) ?_
  refine xx_iload_n dX9_index_68 rfl ?_
  refine xx_iload_n dX9_index_69 rfl ?_
  refine xx_callV (N := mX9_determinant) (vs := [.int 1, .int (nI (s9.2.1 e)), .int (nI (s9.2.2 e))]) (b := b) (rest := [.int (iz (yi_dt W le 0 (s9.2.1 e) (s9.2.2 e)).sign)]) (d2 := 5) (c2 := 0) (s2 := 0) (c3 := 0) (s3 := 0) dX9_index_70 wm_X9_223 wi_X9_determinant wv_X9_determinant (k := 9) rfl (by decide) hba nX9_determinant ⟨pX9_determinant, Nat.le_of_ble_eq_true rfl, by decide, Nat.le_of_ble_eq_true rfl, by decide, by decide⟩ (c_X9_determinant (p9 := 1) (S := s9.2.1 e) (U := s9.2.2 e) hba hNa hg (hP.to ((oa _ (by omega) (by omega) (by omega) (by omega) (by omega) (by omega) (by omega) (by omega)).trans (oq1 _ (by omega))) ((oa _ (by omega) (by omega) (by omega) (by omega) (by omega) (by omega) (by omega) (by omega)).trans (oq1 _ (by omega))) ((oa _ (by omega) (by omega) (by omega) (by omega) (by omega) (by omega) (by omega) (by omega)).trans (oq1 _ (by omega)))) (by decide) hca hoa o1 o2 o3 o4) (fun v9 Exb hC => ?_) (fun E9 B9 hC => absurd hC.1 (by simp))
  obtain ⟨hv9, zb, ⟨tub, hbb⟩, ⟨gcb, hcb⟩, ⟨gob, hob⟩, ⟨Nb, hNb, fb⟩, ob⟩ := hC
  cases hv9
  refine xx_cst (st2 := [.int (iz (yi_dt W le 1 (s9.2.1 e) (s9.2.2 e)).sign), .int (iz (yi_dt W le 0 (s9.2.1 e) (s9.2.2 e)).sign)]) rfl ?_
  refine xx_imul dX9_index_73 ?_
  refine xx_istore dX9_index_74 (by decide) ?_
  refine xx_clv (lv2 := [(0, .ref b), (1, .int (nI e)), (2, .int (nI (s9.2.1 e))), (3, .int (nI (s9.2.2 e))), (4, .int (iz (yi_dt W le 0 (s9.2.1 e) (s9.2.2 e)).sign * iz (yi_dt W le 1 (s9.2.1 e) (s9.2.2 e)).sign))]) rfl ?_
  refine xx_aload_n dX9_index_76 rfl ?_
  refine xx_iload_n dX9_index_77 rfl ?_
  refine xx_callV (N := mX9_bits) (vs := [.int (nI (s9.2.1 e))]) (b := b) (rest := []) (d2 := 1) (c2 := 0) (s2 := 0) (c3 := 0) (s3 := 0) dX9_index_78 wm_X9_217 wi_X9_bits wv_X9_bits (k := 9) rfl (by decide) hbb nX9_bits ⟨pX9_bits, Nat.le_of_ble_eq_true rfl, by decide, Nat.le_of_ble_eq_true rfl, by decide, by decide⟩ (c_X9_bits (v9 := s9.2.1 e) hbb (by omega) hcb) (fun v9 Exc hC => ?_) (fun E9 B9 hC => absurd hC.1 (by simp))
  obtain ⟨hv9, zc, ⟨gc3, hcc, _⟩, oc⟩ := hC
  cases hv9
  refine xx_cst (st2 := [.int (nI (yb_c (s9.2.1 e)))]) rfl ?_
  have hbc := (oc b (by omega)).trans hbb
  have c6 := yb_c6 (s9.2.1 e) (by omega)
  refine xx_iconst (v := 2) dX9_index_81 (by decide) ?_
  refine xx_irem dX9_index_82 (by decide) ?_
  refine xx_eqi (y := nI (yb_c (s9.2.1 e) % 2)) (yn_rem _ (by omega)) ?_
  refine xx_if_ne (tgt := 92) dX9_index_83 (by decide) (fun j83 => ?_) (fun j83 => ?_)
  · have j83 : ¬ yb_c (s9.2.1 e) % 2 = 0 := fun hq9 => j83 ((nI_eq (a := yb_c (s9.2.1 e) % 2) (b := 0) (by omega) (by omega)).mpr hq9)
    refine xx_iload dX9_index_92 rfl ?_
    refine xx_iret dX9_index_94 rfl ⟨?_, by omega, ⟨tub, hbc⟩, ⟨_, hcc⟩, ⟨_, (oc _ (by omega)).trans hob⟩, ⟨Nb, hNb.to (oc _ (by omega)) (oc _ (by omega)) (oc _ (by omega)) (oc _ (by omega)) (oc _ (by omega)), fun q a1 a2 a3 a4 => (fb q a1 a2 a3 a4).trans (fa q a1 a2 a3 a4)⟩, fun q a0 a1 a2 a3 a4 a5 a6 a7 => (oc q a6).trans ((ob q a0 a1 a2 a3 a4 a5 a6 a7).trans ((oa q a0 a1 a2 a3 a4 a5 a6 a7).trans (oq1 q a0)))⟩
    rw [iz_mul]
    unfold yn_ix
    rw [if_neg j83]
    rfl
  · have j83 : yb_c (s9.2.1 e) % 2 = 0 := (nI_eq (a := yb_c (s9.2.1 e) % 2) (b := 0) (by omega) (by omega)).mp j83
    refine xx_iload dX9_index_86 rfl ?_
    refine xx_ineg dX9_index_88 ?_
    refine xx_goto (tgt := 94) dX9_index_89 (by decide) ?_
    refine xx_iret dX9_index_94 rfl ⟨?_, by omega, ⟨tub, hbc⟩, ⟨_, hcc⟩, ⟨_, (oc _ (by omega)).trans hob⟩, ⟨Nb, hNb.to (oc _ (by omega)) (oc _ (by omega)) (oc _ (by omega)) (oc _ (by omega)) (oc _ (by omega)), fun q a1 a2 a3 a4 => (fb q a1 a2 a3 a4).trans (fa q a1 a2 a3 a4)⟩, fun q a0 a1 a2 a3 a4 a5 a6 a7 => (oc q a6).trans ((ob q a0 a1 a2 a3 a4 a5 a6 a7).trans ((oa q a0 a1 a2 a3 a4 a5 a6 a7).trans (oq1 q a0)))⟩
    rw [yn_neg]
    unfold yn_ix
    rw [if_pos (by omega)]
    rfl
set_option maxRecDepth 100000 in
theorem c_X9_indexN {G : xx_G} {l : Launch} {A : xx_H} {b : Nat} {th hr st tu : Value} {m n : Nat} {s9 : yn_S} {x : Int32} (hb : A.2 b = xx_o 9 (xx_mf b th (.int (nI m)) (.int (nI n)) hr st (.int 1) (.int (nI s9.1)) tu)) (c100 : s9.1 ≤ 100) (hx : ∀ e, e < s9.1 → x ≠ nI e) : xx_X G l mX9_index 6 0 0 0 (lv_args 0 [.ref b, .int x]) [] A (fun z B => z = .inl (some (.int 0)) ∧ B.1 = A.1 ∧ B.2 b = xx_o 9 (xx_mf b (.int 1) (.int (nI m)) (.int (nI n)) hr st (.int 1) (.int (nI s9.1)) tu) ∧ ∀ q, q ≠ b → B.2 q = A.2 q) := by
  have in1 := (yn_inn (x := x) c100).2 hx
  refine xx_clv (lv2 := [(0, .ref b), (1, .int x)]) rfl ?_
  refine xx_aload_n dX9_index_0 rfl ?_
  refine xx_aload_n dX9_index_1 rfl ?_
  refine xx_get xx_c9 dX9_index_2 wf_X9_132 (j := 15) (by decide) hb rfl ?_
  refine xx_if_eq (tgt := 22) dX9_index_5 (by decide) (fun h => absurd h (by decide)) (fun j5 => ?_)
  refine xx_iload_n dX9_index_8 rfl ?_
  refine xx_iconst (v := 0) dX9_index_9 (by decide) ?_
  refine xx_aload_n dX9_index_10 rfl ?_
  refine xx_get xx_c9 dX9_index_11 wf_X9_136 (j := 16) (by decide) hb rfl ?_
  refine xx_iconst (v := 1) dX9_index_14 (by decide) ?_
  refine xx_isub dX9_index_15 ?_
  refine xx_callS (N := mX9_in) (vs := [.int x, .int 0, .int (nI s9.1 - 1)]) (rest := [.ref b]) (d2 := 0) (c2 := 0) (s2 := 0) (c3 := 0) (s3 := 0) dX9_index_16 wm_X9_116 ws_X9_in wz_X9 (by decide) nX9_in ⟨pX9_in, Nat.le_of_ble_eq_true rfl, by decide, Nat.le_of_ble_eq_true rfl, by decide, by decide⟩ c_X9_in (fun v9 B9 hC => ?_) (fun E9 B9 hC => absurd hC.1 (by simp))
  obtain ⟨hv9, e9⟩ := hC
  cases hv9
  rw [e9]
  refine xx_cst (st2 := [.int 0, .ref b]) (by rw [in1]; rfl) ?_
  refine xx_if_ne (tgt := 26) dX9_index_19 (by decide) (fun h => absurd rfl h) (fun j19 => ?_)
  refine xx_iconst (v := 1) dX9_index_22 (by decide) ?_
  refine xx_goto (tgt := 27) dX9_index_23 (by decide) ?_
  refine xx_put xx_c9 dX9_index_27 wf_X9_84 (j := 0) (by decide) rfl rfl rfl hb (Nat.le_of_ble_eq_true rfl) (xx_gu fun Eq1 zq1 hbq1 oq1 => ?_)
  have hbq1 : Eq1.2 b = xx_o 9 (xx_mf b (.int 1) (.int (nI m)) (.int (nI n)) hr st (.int 1) (.int (nI s9.1)) tu) := hbq1
  refine xx_aload_n dX9_index_30 rfl ?_
  refine xx_get xx_c9 dX9_index_31 wf_X9_84 (j := 0) (by decide) hbq1 rfl ?_
  refine xx_if_le (tgt := 39) dX9_index_34 (by decide) (fun h => absurd h (by decide)) (fun j34 => ?_)
  refine xx_iconst (v := 0) dX9_index_37 (by decide) ?_
  exact xx_iret dX9_index_38 rfl ⟨rfl, by omega, hbq1, oq1⟩
