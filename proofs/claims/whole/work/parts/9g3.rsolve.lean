/-! ===== the reference's solve ===== -/
theorem w_X9_div9 {G : xx_G} {l : Launch} {A : xx_H} {b : Nat} {th hr st hl en tu : Value} {m n : Nat} {x y c d : Nat} {N : Nat → Int} (hb : A.2 b = xx_o 9 (xx_mf b th (.int (nI m)) (.int (nI n)) hr st hl en tu)) (hN : xx_rw A b N) (hx : x < 1740) (hy : y < 1740) (hc : c < 1740) (hd : d < 1740) (n1 : x ≠ c) (n2 : y ≠ c) (n3 : x ≠ d) (n4 : y ≠ d) (n5 : c ≠ d) (h0 : N y ≠ 0) : xx_X G l mX9_divide 1 0 0 0 (lv_args 0 [.ref b, .int (nI x), .int (nI y), .int (nI c), .int (nI d)]) [] A (fun z B => z = .inl none ∧ B.1 = A.1 ∧ (∃ N2, xx_rw B b N2 ∧ N2 c = yy_qt (N x) (N y) ∧ ∀ r, r ≠ c → r ≠ d → N2 r = N r) ∧ ∀ q, q ≠ b + 1 → q ≠ b + 2 → q ≠ b + 3 → q ≠ b + 17 → q ≠ b + 18 → B.2 q = A.2 q) :=
  xx_mono (fun _ _ h => ⟨h.1, h.2.1, ⟨_, ⟨h.2.2.1, h.2.2.2.1, h.2.2.2.2.1⟩, (yy_un_n n5).trans yy_un_s, fun r a1 a2 => (yy_un_n a2).trans (yy_un_n a1)⟩, h.2.2.2.2.2⟩) (c_X9_divide hb hN.1 hN.2.1 hN.2.2 hx hy hc hd n1 n2 n3 n4 n5 h0)
theorem yi_dn : ∀ v, v < 8 → nI (v + 1) + -1 = nI v := by decide +kernel
theorem yi_pp {x y : Int} : ¬ iz x.sign * iz y.sign ≤ 0 ↔ 0 < x * y := by
  rcases Int.lt_trichotomy x 0 with h | h | h <;> rcases Int.lt_trichotomy y 0 with k | k | k
  · have := Int.mul_pos_of_neg_of_neg h k
    rw [Int.sign_eq_neg_one_of_neg h, Int.sign_eq_neg_one_of_neg k]; exact ⟨fun _ => this, fun _ => by decide⟩
  · subst k; rw [Int.mul_zero, Int.sign_zero, Int.sign_eq_neg_one_of_neg h]; exact ⟨fun z => absurd (by decide) z, fun z => absurd z (by omega)⟩
  · have := Int.mul_neg_of_neg_of_pos h k
    rw [Int.sign_eq_neg_one_of_neg h, Int.sign_eq_one_of_pos k]; exact ⟨fun z => absurd (by decide) z, fun z => absurd z (by omega)⟩
  · subst h; rw [Int.zero_mul, Int.sign_zero, Int.sign_eq_neg_one_of_neg k]; exact ⟨fun z => absurd (by decide) z, fun z => absurd z (by omega)⟩
  · subst h; subst k; exact ⟨fun z => absurd (by decide) z, fun z => absurd z (by decide)⟩
  · subst h; rw [Int.zero_mul, Int.sign_zero, Int.sign_eq_one_of_pos k]; exact ⟨fun z => absurd (by decide) z, fun z => absurd z (by omega)⟩
  · have := Int.mul_neg_of_pos_of_neg h k
    rw [Int.sign_eq_one_of_pos h, Int.sign_eq_neg_one_of_neg k]; exact ⟨fun z => absurd (by decide) z, fun z => absurd z (by omega)⟩
  · subst k; rw [Int.mul_zero, Int.sign_zero, Int.sign_eq_one_of_pos h]; exact ⟨fun z => absurd (by decide) z, fun z => absurd z (by omega)⟩
  · have := Int.mul_pos h k
    rw [Int.sign_eq_one_of_pos h, Int.sign_eq_one_of_pos k]; exact ⟨fun _ => this, fun _ => by decide⟩
theorem yi_ab {x : Int} : iz ((x.natAbs : Nat) : Int).sign = if x = 0 then 0 else 1 := by
  by_cases h : x = 0
  · subst h; rfl
  · rw [if_neg h, Int.sign_eq_one_of_pos (by omega)]; rfl
theorem yi_b2 {x y : Int} (hx : x.natAbs < 2 ^ 216) (hy : y.natAbs < 2 ^ 216) : (x * y).natAbs < 2 ^ 432 := by
  rw [Int.natAbs_mul]
  exact Nat.lt_of_lt_of_le (Nat.mul_lt_mul'' hx hy) (by decide +kernel)
theorem yi_b3 {x y : Int} {i : Nat} (hx : x.natAbs < 2 ^ 432) (hy : y.natAbs ≤ i * 2 ^ 432) (hi : i ≤ 8) : (x - y).natAbs < 65536 ^ 39 := by
  obtain ⟨K, hK⟩ : ∃ K : Nat, K = 2 ^ 432 := ⟨_, rfl⟩
  rw [← hK] at hx hy
  have h1 : i * K ≤ 8 * K := Nat.mul_le_mul_right K hi
  have h2 : (x - y).natAbs < 9 * K := by omega
  exact Nat.lt_of_lt_of_le h2 (by rw [hK]; decide +kernel)
theorem yi_p14 {v : Int} (h : v.natAbs < 2 ^ 216) : v.natAbs < 65536 ^ 14 := Nat.lt_trans h (by decide +kernel)
theorem yi_p26 {v : Int} (h : v.natAbs < 2 ^ 216) : v.natAbs < 65536 ^ 26 := Nat.lt_trans h (by decide +kernel)
theorem yi_p39 {v : Int} (h : v.natAbs < 2 ^ 432) : v.natAbs < 65536 ^ 39 := Nat.lt_trans h (by decide +kernel)
set_option maxRecDepth 100000 in
theorem l_X9_s1 {G : xx_G} {l : Launch} {A : xx_H} {b : Nat} {th hr st hl en tu : Value} {m n : Nat} {p9 S U k9 to9 : Nat} {N : Nat → Int} {W : Nat → Nat → Nat → Int} {le : Nat → Int} {mu : Nat → Nat} {gu gs : Nat → Int32} {r : Nat} {Q : Option Value ⊕ String → xx_H → Prop} (hb : A.2 b = xx_o 9 (xx_mf b th (.int (nI m)) (.int (nI n)) hr st hl en tu)) (hm : m ≤ 6) (hn : n ≤ 6) (hp : p9 < 2) (h6 : k9 ≤ 6) (hr9 : r < k9) (hch : A.2 (b + 19) = xx_i 6 gu) (hgu : ∀ j, j < k9 → gu j = nI (yk_e U j)) (hot : A.2 (b + 20) = xx_i 6 gs) (hgs : ∀ j, j < k9 → gs j = nI (yk_e S j)) (hP : xx_rp A b m n W le mu) (eS : ∀ r, r < k9 → yk_e S r < yy_cn m n (1 - p9)) (eU : ∀ c, c < k9 → yk_e U c < yy_cn m n p9) (kC : ∀ (B : xx_H) (N2 : Nat → Int), (B.1 = A.1) → (xx_rw B b N2) → (∀ c, c < k9 → N2 (240 + 8 * r + c) = (yn_a W le (1 - p9)) (yk_e S r) (yk_e U c)) → (∀ q, (q < 240 + 8 * r ∨ 240 + 8 * r + k9 ≤ q) → N2 q = N q) → (∀ q, q ≠ b + 1 → q ≠ b + 2 → q ≠ b + 3 → q ≠ b + 17 → q ≠ b + 18 → B.2 q = A.2 q) → xx_X G l mX9_solve 5 0 0 107 [(0, .ref b), (1, .int (nI p9)), (4, .int (nI to9)), (5, .int (nI k9)), (7, .int (nI r))] [] B Q) :
    ∀ (v i : Nat), i + v = k9 → ∀ (B : xx_H) (N2 : Nat → Int), (B.1 = A.1) → (xx_rw B b N2) → (∀ c, c < i → N2 (240 + 8 * r + c) = (yn_a W le (1 - p9)) (yk_e S r) (yk_e U c)) → (∀ q, (q < 240 + 8 * r ∨ 240 + 8 * r + i ≤ q) → N2 q = N q) → (∀ q, q ≠ b + 1 → q ≠ b + 2 → q ≠ b + 3 → q ≠ b + 17 → q ≠ b + 18 → B.2 q = A.2 q) → xx_X G l mX9_solve 5 0 0 33 [(0, .ref b), (1, .int (nI p9)), (4, .int (nI to9)), (5, .int (nI k9)), (7, .int (nI r)), (8, .int (nI i))] [] B Q := by
  intro v
  induction v with
  | zero =>
    intro i h9i B N2 y1 y2 y3 y4 y5
    have h9e : k9 = i := by omega
    subst h9e
    refine xx_clv (lv2 := [(0, .ref b), (1, .int (nI p9)), (4, .int (nI to9)), (5, .int (nI k9)), (7, .int (nI r)), (8, .int (nI k9))]) rfl ?_
    refine xx_iload dX9_solve_33 rfl ?_
    refine xx_iload dX9_solve_35 rfl ?_
    refine xx_icmp_ge (tgt := 107) dX9_solve_37 (by decide) (fun j37 => ?_) (fun h => absurd (Int32.le_refl _) h)
    refine xx_less [0, 1, 4, 5, 7] ?_
    refine xx_clv (lv2 := [(0, .ref b), (1, .int (nI p9)), (4, .int (nI to9)), (5, .int (nI k9)), (7, .int (nI r))]) rfl ?_
    exact kC B N2 y1 y2 y3 y4 y5
  | succ v ih =>
    intro i h9i B N2 y1 y2 y3 y4 y5
    have hb2 := (y5 b (by omega) (by omega) (by omega) (by omega) (by omega)).trans hb
    have hch2 := (y5 (b + 19) (by omega) (by omega) (by omega) (by omega) (by omega)).trans hch
    have hot2 := (y5 (b + 20) (by omega) (by omega) (by omega) (by omega) (by omega)).trans hot
    have hP2 := hP.to (y5 _ (by omega) (by omega) (by omega) (by omega) (by omega)) (y5 _ (by omega) (by omega) (by omega) (by omega) (by omega)) (y5 _ (by omega) (by omega) (by omega) (by omega) (by omega))
    have es := eS r hr9
    have eu := eU i (by omega)
    obtain ⟨x5, hx5⟩ : ∃ x, x = yn_a W le (1 - p9) (yk_e S r) (yk_e U i) := ⟨_, rfl⟩
    have bw : x5.natAbs ≤ 600000000 := by
      rw [hx5]
      unfold yn_a yo_w
      have q1 := hP.2.2.2.2 (1 - p9) (by omega)
      rcases (show p9 = 0 ∨ p9 = 1 by omega) with z | z
      · subst z
        have q2 := hP.2.2.2.1 1 (by decide) _ eu _ es
        rw [if_neg (by decide)]
        omega
      · subst z
        have q2 := hP.2.2.2.1 0 (by decide) _ es _ eu
        rw [if_pos rfl]
        omega
    refine xx_iload dX9_solve_33 rfl ?_
    refine xx_iload dX9_solve_35 rfl ?_
    refine xx_icmp_ge (tgt := 107) dX9_solve_37 (by decide) (fun h => absurd h (nI_ge (a := i) (b := k9) (by omega) (by omega))) (fun j37 => ?_)
    refine xx_iload_n dX9_solve_40 rfl ?_
    refine xx_if_ne (tgt := 66) dX9_solve_41 (by decide) (fun j41 => ?_) (fun j41 => ?_)
    · have j41 : ¬ p9 = 0 := fun hq9 => j41 ((nI_eq (a := p9) (b := 0) (by omega) (by omega)).mpr hq9)
      refine xx_aload_n dX9_solve_66 rfl ?_
      refine xx_iconst (v := 0) dX9_solve_67 (by decide) ?_
      refine xx_aload_n dX9_solve_68 rfl ?_
      refine xx_get xx_c9 dX9_solve_69 wf_X9_74 (j := 26) (by decide) hb2 rfl ?_
      refine xx_iload dX9_solve_72 rfl ?_
      refine xx_iald dX9_solve_74 hot2 (vp_in_nI (by omega) (by decide)) ?_
      refine xx_eqi (y := nI (yk_e S r)) (by rw [nI_clamp (by omega)]; exact hgs r hr9) ?_
      refine xx_aload_n dX9_solve_75 rfl ?_
      refine xx_get xx_c9 dX9_solve_76 wf_X9_71 (j := 25) (by decide) hb2 rfl ?_
      refine xx_iload dX9_solve_79 rfl ?_
      refine xx_iald dX9_solve_81 hch2 (vp_in_nI (by omega) (by decide)) ?_
      refine xx_eqi (y := nI (yk_e U i)) (by rw [nI_clamp (by omega)]; exact hgu i (by omega)) ?_
      have p9e : p9 = 1 := by omega
      have eu2 : yk_e U i < n := by rw [p9e] at eu; exact eu
      have es2 : yk_e S r < m := by rw [p9e] at es; exact es
      have ev : lz (1 + W 0 (yk_e S r) (yk_e U i) - le 0) = lz x5 := by rw [hx5, p9e]; rfl
      refine xx_callV (N := mX9_entry) (vs := [.int 0, .int (nI (yk_e S r)), .int (nI (yk_e U i))]) (b := b) (rest := []) (d2 := 0) (c2 := 0) (s2 := 0) (c3 := 0) (s3 := 0) dX9_solve_82 wm_X9_155 wi_X9_entry wv_X9_entry (k := 9) rfl (by decide) hb2 nX9_entry ⟨pX9_entry, Nat.le_of_ble_eq_true rfl, by decide, Nat.le_of_ble_eq_true rfl, by decide, by decide⟩ (c_X9_entry (p := 0) (i := yk_e S r) (j := yk_e U i) hb2 hP2 (by decide) es2 eu2 hm hn) (fun v9 B9 hC => ?_) (fun E9 B9 hC => absurd hC.1 (by simp))
      obtain ⟨hv9, e9⟩ := hC
      cases hv9
      refine xx_cst (st2 := [.long (lz (1 + W 0 (yk_e S r) (yk_e U i) - le 0))]) rfl ?_
      rw [e9]
      refine xx_eql (y := lz x5) ev ?_
      refine xx_lstore dX9_solve_85 (by decide) ?_
      refine xx_clv (lv2 := [(0, .ref b), (1, .int (nI p9)), (4, .int (nI to9)), (5, .int (nI k9)), (7, .int (nI r)), (8, .int (nI i)), (9, .long (lz x5))]) rfl ?_
      refine xx_aload_n dX9_solve_87 rfl ?_
      refine xx_aload_n dX9_solve_88 rfl ?_
      refine xx_iload dX9_solve_89 rfl ?_
      refine xx_iload dX9_solve_91 rfl ?_
      refine xx_callV (N := mX9_at) (vs := [.int (nI r), .int (nI i)]) (b := b) (rest := [.ref b]) (d2 := 0) (c2 := 0) (s2 := 0) (c3 := 0) (s3 := 0) dX9_solve_93 wm_X9_199 wi_X9_at wv_X9_at (k := 9) rfl (by decide) hb2 nX9_at ⟨pX9_at, Nat.le_of_ble_eq_true rfl, by decide, Nat.le_of_ble_eq_true rfl, by decide, by decide⟩ (c_X9_at (r := r) (c := i)) (fun v9 B9 hC => ?_) (fun E9 B9 hC => absurd hC.1 (by simp))
      obtain ⟨hv9, e9⟩ := hC
      cases hv9
      refine xx_cst (st2 := [.int (nI (240 + 8 * r + i)), .ref b]) rfl ?_
      rw [e9]
      refine xx_lload dX9_solve_96 rfl ?_
      refine xx_callV (N := mX9_set) (vs := [.int (nI (240 + 8 * r + i)), .long (lz x5)]) (b := b) (rest := []) (d2 := 0) (c2 := 0) (s2 := 0) (c3 := 0) (s3 := 0) dX9_solve_98 wm_X9_80 wi_X9_set wv_X9_set (k := 9) rfl (by decide) hb2 nX9_set ⟨pX9_set, Nat.le_of_ble_eq_true rfl, by decide, Nat.le_of_ble_eq_true rfl, by decide, by decide⟩ (w_X9_set hb2 y2 (a := 240 + 8 * r + i) (v := x5) (by omega) (by omega) (by omega)) (fun v9 Eq1 hC => ?_) (fun E9 B9 hC => absurd hC.1 (by simp))
      obtain ⟨hv9, zq1, ⟨Nq1, hNq1, vq1, fq1⟩, oq1⟩ := hC
      cases hv9
      refine xx_cst (st2 := []) rfl ?_
      have hbq1 := (oq1 b (by omega) (by omega) (by omega) (by omega) (by omega)).trans hb2
      refine xx_iinc (v := nI (i + 1)) dX9_solve_101 rfl (nI_1 i) (by decide) ?_
      refine xx_clv (lv2 := [(0, .ref b), (1, .int (nI p9)), (4, .int (nI to9)), (5, .int (nI k9)), (7, .int (nI r)), (8, .int (nI (i + 1))), (9, .long (lz x5))]) rfl ?_
      refine xx_goto (tgt := 33) dX9_solve_104 (by decide) ?_
      refine xx_less [0, 1, 4, 5, 7, 8] ?_
      refine xx_clv (lv2 := [(0, .ref b), (1, .int (nI p9)), (4, .int (nI to9)), (5, .int (nI k9)), (7, .int (nI r)), (8, .int (nI (i + 1)))]) rfl ?_
      refine ih (i + 1) (by omega) Eq1 Nq1 (by omega) hNq1 (fun c hc => ?_) (fun q hq => (fq1 q (by omega)).trans (y4 q (by omega))) (fun q a1 a2 a3 a4 a5 => (oq1 q a1 a2 a3 a4 a5).trans (y5 q a1 a2 a3 a4 a5))
      by_cases z : c = i
      · rw [z, vq1]; exact hx5
      · rw [fq1 _ (by omega)]; exact y3 c (by omega)
    · have j41 : p9 = 0 := (nI_eq (a := p9) (b := 0) (by omega) (by omega)).mp j41
      refine xx_aload_n dX9_solve_44 rfl ?_
      refine xx_iconst (v := 1) dX9_solve_45 (by decide) ?_
      refine xx_aload_n dX9_solve_46 rfl ?_
      refine xx_get xx_c9 dX9_solve_47 wf_X9_71 (j := 25) (by decide) hb2 rfl ?_
      refine xx_iload dX9_solve_50 rfl ?_
      refine xx_iald dX9_solve_52 hch2 (vp_in_nI (by omega) (by decide)) ?_
      refine xx_eqi (y := nI (yk_e U i)) (by rw [nI_clamp (by omega)]; exact hgu i (by omega)) ?_
      refine xx_aload_n dX9_solve_53 rfl ?_
      refine xx_get xx_c9 dX9_solve_54 wf_X9_74 (j := 26) (by decide) hb2 rfl ?_
      refine xx_iload dX9_solve_57 rfl ?_
      refine xx_iald dX9_solve_59 hot2 (vp_in_nI (by omega) (by decide)) ?_
      refine xx_eqi (y := nI (yk_e S r)) (by rw [nI_clamp (by omega)]; exact hgs r hr9) ?_
      have p9e : p9 = 0 := by omega
      have eu2 : yk_e U i < m := by rw [p9e] at eu; exact eu
      have es2 : yk_e S r < n := by rw [p9e] at es; exact es
      have ev : lz (1 + W 1 (yk_e U i) (yk_e S r) - le 1) = lz x5 := by rw [hx5, p9e]; rfl
      refine xx_callV (N := mX9_entry) (vs := [.int 1, .int (nI (yk_e U i)), .int (nI (yk_e S r))]) (b := b) (rest := []) (d2 := 0) (c2 := 0) (s2 := 0) (c3 := 0) (s3 := 0) dX9_solve_60 wm_X9_155 wi_X9_entry wv_X9_entry (k := 9) rfl (by decide) hb2 nX9_entry ⟨pX9_entry, Nat.le_of_ble_eq_true rfl, by decide, Nat.le_of_ble_eq_true rfl, by decide, by decide⟩ (c_X9_entry (p := 1) (i := yk_e U i) (j := yk_e S r) hb2 hP2 (by decide) eu2 es2 hm hn) (fun v9 B9 hC => ?_) (fun E9 B9 hC => absurd hC.1 (by simp))
      obtain ⟨hv9, e9⟩ := hC
      cases hv9
      refine xx_cst (st2 := [.long (lz (1 + W 1 (yk_e U i) (yk_e S r) - le 1))]) rfl ?_
      rw [e9]
      refine xx_eql (y := lz x5) ev ?_
      refine xx_goto (tgt := 85) dX9_solve_63 (by decide) ?_
      refine xx_lstore dX9_solve_85 (by decide) ?_
      refine xx_clv (lv2 := [(0, .ref b), (1, .int (nI p9)), (4, .int (nI to9)), (5, .int (nI k9)), (7, .int (nI r)), (8, .int (nI i)), (9, .long (lz x5))]) rfl ?_
      refine xx_aload_n dX9_solve_87 rfl ?_
      refine xx_aload_n dX9_solve_88 rfl ?_
      refine xx_iload dX9_solve_89 rfl ?_
      refine xx_iload dX9_solve_91 rfl ?_
      refine xx_callV (N := mX9_at) (vs := [.int (nI r), .int (nI i)]) (b := b) (rest := [.ref b]) (d2 := 0) (c2 := 0) (s2 := 0) (c3 := 0) (s3 := 0) dX9_solve_93 wm_X9_199 wi_X9_at wv_X9_at (k := 9) rfl (by decide) hb2 nX9_at ⟨pX9_at, Nat.le_of_ble_eq_true rfl, by decide, Nat.le_of_ble_eq_true rfl, by decide, by decide⟩ (c_X9_at (r := r) (c := i)) (fun v9 B9 hC => ?_) (fun E9 B9 hC => absurd hC.1 (by simp))
      obtain ⟨hv9, e9⟩ := hC
      cases hv9
      refine xx_cst (st2 := [.int (nI (240 + 8 * r + i)), .ref b]) rfl ?_
      rw [e9]
      refine xx_lload dX9_solve_96 rfl ?_
      refine xx_callV (N := mX9_set) (vs := [.int (nI (240 + 8 * r + i)), .long (lz x5)]) (b := b) (rest := []) (d2 := 0) (c2 := 0) (s2 := 0) (c3 := 0) (s3 := 0) dX9_solve_98 wm_X9_80 wi_X9_set wv_X9_set (k := 9) rfl (by decide) hb2 nX9_set ⟨pX9_set, Nat.le_of_ble_eq_true rfl, by decide, Nat.le_of_ble_eq_true rfl, by decide, by decide⟩ (w_X9_set hb2 y2 (a := 240 + 8 * r + i) (v := x5) (by omega) (by omega) (by omega)) (fun v9 Eq1 hC => ?_) (fun E9 B9 hC => absurd hC.1 (by simp))
      obtain ⟨hv9, zq1, ⟨Nq1, hNq1, vq1, fq1⟩, oq1⟩ := hC
      cases hv9
      refine xx_cst (st2 := []) rfl ?_
      have hbq1 := (oq1 b (by omega) (by omega) (by omega) (by omega) (by omega)).trans hb2
      refine xx_iinc (v := nI (i + 1)) dX9_solve_101 rfl (nI_1 i) (by decide) ?_
      refine xx_clv (lv2 := [(0, .ref b), (1, .int (nI p9)), (4, .int (nI to9)), (5, .int (nI k9)), (7, .int (nI r)), (8, .int (nI (i + 1))), (9, .long (lz x5))]) rfl ?_
      refine xx_goto (tgt := 33) dX9_solve_104 (by decide) ?_
      refine xx_less [0, 1, 4, 5, 7, 8] ?_
      refine xx_clv (lv2 := [(0, .ref b), (1, .int (nI p9)), (4, .int (nI to9)), (5, .int (nI k9)), (7, .int (nI r)), (8, .int (nI (i + 1)))]) rfl ?_
      refine ih (i + 1) (by omega) Eq1 Nq1 (by omega) hNq1 (fun c hc => ?_) (fun q hq => (fq1 q (by omega)).trans (y4 q (by omega))) (fun q a1 a2 a3 a4 a5 => (oq1 q a1 a2 a3 a4 a5).trans (y5 q a1 a2 a3 a4 a5))
      by_cases z : c = i
      · rw [z, vq1]; exact hx5
      · rw [fq1 _ (by omega)]; exact y3 c (by omega)
set_option maxRecDepth 100000 in
theorem l_X9_s2 {G : xx_G} {l : Launch} {A : xx_H} {b : Nat} {th hr st hl en tu : Value} {m n : Nat} {p9 S U k9 to9 : Nat} {N : Nat → Int} {W : Nat → Nat → Nat → Int} {le : Nat → Int} {mu : Nat → Nat} {gu gs : Nat → Int32} {Q : Option Value ⊕ String → xx_H → Prop} (hb : A.2 b = xx_o 9 (xx_mf b th (.int (nI m)) (.int (nI n)) hr st hl en tu)) (hm : m ≤ 6) (hn : n ≤ 6) (hp : p9 < 2) (h6 : k9 ≤ 6) (hch : A.2 (b + 19) = xx_i 6 gu) (hgu : ∀ j, j < k9 → gu j = nI (yk_e U j)) (hot : A.2 (b + 20) = xx_i 6 gs) (hgs : ∀ j, j < k9 → gs j = nI (yk_e S j)) (hP : xx_rp A b m n W le mu) (eS : ∀ r, r < k9 → yk_e S r < yy_cn m n (1 - p9)) (eU : ∀ c, c < k9 → yk_e U c < yy_cn m n p9) (kC : ∀ (B : xx_H) (N2 : Nat → Int), (B.1 = A.1) → (xx_rw B b N2) → (∀ r, r < k9 → ∀ c, c < k9 + 2 → N2 (240 + 8 * r + c) = yi_M (yn_a W le (1 - p9)) S U k9 c r) → (∀ q, (q < 240 ∨ 240 + 8 * k9 ≤ q) → N2 q = N q) → (∀ q, q ≠ b + 1 → q ≠ b + 2 → q ≠ b + 3 → q ≠ b + 17 → q ≠ b + 18 → B.2 q = A.2 q) → xx_X G l mX9_solve 5 0 0 143 [(0, .ref b), (4, .int (nI to9)), (5, .int (nI k9))] [] B Q) :
    ∀ (v i : Nat), i + v = k9 → ∀ (B : xx_H) (N2 : Nat → Int), (B.1 = A.1) → (xx_rw B b N2) → (∀ r, r < i → ∀ c, c < k9 + 2 → N2 (240 + 8 * r + c) = yi_M (yn_a W le (1 - p9)) S U k9 c r) → (∀ q, (q < 240 ∨ 240 + 8 * i ≤ q) → N2 q = N q) → (∀ q, q ≠ b + 1 → q ≠ b + 2 → q ≠ b + 3 → q ≠ b + 17 → q ≠ b + 18 → B.2 q = A.2 q) → xx_X G l mX9_solve 5 0 0 23 [(0, .ref b), (1, .int (nI p9)), (4, .int (nI to9)), (5, .int (nI k9)), (7, .int (nI i))] [] B Q := by
  intro v
  induction v with
  | zero =>
    intro i h9i B N2 y1 y2 y3 y4 y5
    have h9e : k9 = i := by omega
    subst h9e
    refine xx_clv (lv2 := [(0, .ref b), (1, .int (nI p9)), (4, .int (nI to9)), (5, .int (nI k9)), (7, .int (nI k9))]) rfl ?_
    refine xx_iload dX9_solve_23 rfl ?_
    refine xx_iload dX9_solve_25 rfl ?_
    refine xx_icmp_ge (tgt := 143) dX9_solve_27 (by decide) (fun j27 => ?_) (fun h => absurd (Int32.le_refl _) h)
    refine xx_less [0, 4, 5] ?_
    refine xx_clv (lv2 := [(0, .ref b), (4, .int (nI to9)), (5, .int (nI k9))]) rfl ?_
    exact kC B N2 y1 y2 y3 y4 y5
  | succ v ih =>
    intro i h9i B N2 y1 y2 y3 y4 y5
    have hb2 := (y5 b (by omega) (by omega) (by omega) (by omega) (by omega)).trans hb
    refine xx_iload dX9_solve_23 rfl ?_
    refine xx_iload dX9_solve_25 rfl ?_
    refine xx_icmp_ge (tgt := 143) dX9_solve_27 (by decide) (fun h => absurd h (nI_ge (a := i) (b := k9) (by omega) (by omega))) (fun j27 => ?_)
    refine xx_iconst (v := 0) dX9_solve_30 (by decide) ?_
    refine xx_istore dX9_solve_31 (by decide) ?_
    refine xx_clv (lv2 := [(0, .ref b), (1, .int (nI p9)), (4, .int (nI to9)), (5, .int (nI k9)), (7, .int (nI i)), (8, .int 0)]) rfl ?_
    refine xx_clv (lv2 := [(0, .ref b), (1, .int (nI p9)), (4, .int (nI to9)), (5, .int (nI k9)), (7, .int (nI i)), (8, .int (nI 0))]) rfl ?_
    refine l_X9_s1 (A := B) (N := N2) (r := i) hb2 hm hn hp h6 (by omega) ((y5 (b + 19) (by omega) (by omega) (by omega) (by omega) (by omega)).trans hch) hgu ((y5 (b + 20) (by omega) (by omega) (by omega) (by omega) (by omega)).trans hot) hgs (hP.to (y5 _ (by omega) (by omega) (by omega) (by omega) (by omega)) (y5 _ (by omega) (by omega) (by omega) (by omega) (by omega)) (y5 _ (by omega) (by omega) (by omega) (by omega) (by omega))) eS eU (fun D N3 w1 w2 w3 w4 w5 => ?_) k9 0 (by omega) B N2 rfl y2 (fun c hc => absurd hc (Nat.not_lt_zero c)) (fun q _ => rfl) (fun q _ _ _ _ _ => rfl)
    have hb3 := (w5 b (by omega) (by omega) (by omega) (by omega) (by omega)).trans hb2
    refine xx_aload_n dX9_solve_107 rfl ?_
    refine xx_aload_n dX9_solve_108 rfl ?_
    refine xx_iload dX9_solve_109 rfl ?_
    refine xx_iload dX9_solve_111 rfl ?_
    refine xx_callV (N := mX9_at) (vs := [.int (nI i), .int (nI k9)]) (b := b) (rest := [.ref b]) (d2 := 0) (c2 := 0) (s2 := 0) (c3 := 0) (s3 := 0) dX9_solve_113 wm_X9_199 wi_X9_at wv_X9_at (k := 9) rfl (by decide) hb3 nX9_at ⟨pX9_at, Nat.le_of_ble_eq_true rfl, by decide, Nat.le_of_ble_eq_true rfl, by decide, by decide⟩ (c_X9_at (r := i) (c := k9)) (fun v9 B9 hC => ?_) (fun E9 B9 hC => absurd hC.1 (by simp))
    obtain ⟨hv9, e9⟩ := hC
    cases hv9
    refine xx_cst (st2 := [.int (nI (240 + 8 * i + k9)), .ref b]) rfl ?_
    rw [e9]
    refine xx_ldc2 (v := (-1)) dX9_solve_116 wk_X9_209 ?_
    refine xx_eql (y := lz (-1)) (by decide) ?_
    refine xx_callV (N := mX9_set) (vs := [.int (nI (240 + 8 * i + k9)), .long (lz (-1))]) (b := b) (rest := []) (d2 := 0) (c2 := 0) (s2 := 0) (c3 := 0) (s3 := 0) dX9_solve_119 wm_X9_80 wi_X9_set wv_X9_set (k := 9) rfl (by decide) hb3 nX9_set ⟨pX9_set, Nat.le_of_ble_eq_true rfl, by decide, Nat.le_of_ble_eq_true rfl, by decide, by decide⟩ (w_X9_set hb3 w2 (a := 240 + 8 * i + k9) (v := -1) (by omega) (by decide) (by decide)) (fun v9 Eq1 hC => ?_) (fun E9 B9 hC => absurd hC.1 (by simp))
    obtain ⟨hv9, zq1, ⟨Nq1, hNq1, vq1, fq1⟩, oq1⟩ := hC
    cases hv9
    refine xx_cst (st2 := []) rfl ?_
    have hbq1 := (oq1 b (by omega) (by omega) (by omega) (by omega) (by omega)).trans hb3
    refine xx_aload_n dX9_solve_122 rfl ?_
    refine xx_aload_n dX9_solve_123 rfl ?_
    refine xx_iload dX9_solve_124 rfl ?_
    refine xx_iload dX9_solve_126 rfl ?_
    refine xx_iconst (v := 1) dX9_solve_128 (by decide) ?_
    refine xx_iadd dX9_solve_129 ?_
    refine xx_eqi (y := nI (k9 + 1)) (nI_add k9 1) ?_
    refine xx_callV (N := mX9_at) (vs := [.int (nI i), .int (nI (k9 + 1))]) (b := b) (rest := [.ref b]) (d2 := 0) (c2 := 0) (s2 := 0) (c3 := 0) (s3 := 0) dX9_solve_130 wm_X9_199 wi_X9_at wv_X9_at (k := 9) rfl (by decide) hbq1 nX9_at ⟨pX9_at, Nat.le_of_ble_eq_true rfl, by decide, Nat.le_of_ble_eq_true rfl, by decide, by decide⟩ (c_X9_at (r := i) (c := k9 + 1)) (fun v9 B9 hC => ?_) (fun E9 B9 hC => absurd hC.1 (by simp))
    obtain ⟨hv9, e9⟩ := hC
    cases hv9
    refine xx_cst (st2 := [.int (nI (240 + 8 * i + (k9 + 1))), .ref b]) rfl ?_
    rw [e9]
    refine xx_lconst (v := 0) dX9_solve_133 (by decide) ?_
    refine xx_eql (y := lz 0) (by decide) ?_
    refine xx_callV (N := mX9_set) (vs := [.int (nI (240 + 8 * i + (k9 + 1))), .long (lz 0)]) (b := b) (rest := []) (d2 := 0) (c2 := 0) (s2 := 0) (c3 := 0) (s3 := 0) dX9_solve_134 wm_X9_80 wi_X9_set wv_X9_set (k := 9) rfl (by decide) hbq1 nX9_set ⟨pX9_set, Nat.le_of_ble_eq_true rfl, by decide, Nat.le_of_ble_eq_true rfl, by decide, by decide⟩ (w_X9_set hbq1 hNq1 (a := 240 + 8 * i + (k9 + 1)) (v := 0) (by omega) (by decide) (by decide)) (fun v9 Eq2 hC => ?_) (fun E9 B9 hC => absurd hC.1 (by simp))
    obtain ⟨hv9, zq2, ⟨Nq2, hNq2, vq2, fq2⟩, oq2⟩ := hC
    cases hv9
    refine xx_cst (st2 := []) rfl ?_
    have hbq2 := (oq2 b (by omega) (by omega) (by omega) (by omega) (by omega)).trans hbq1
    refine xx_iinc (v := nI (i + 1)) dX9_solve_137 rfl (nI_1 i) (by decide) ?_
    refine xx_clv (lv2 := [(0, .ref b), (1, .int (nI p9)), (4, .int (nI to9)), (5, .int (nI k9)), (7, .int (nI (i + 1)))]) rfl ?_
    refine xx_goto (tgt := 23) dX9_solve_140 (by decide) ?_
    refine xx_less [0, 1, 4, 5, 7] ?_
    refine xx_clv (lv2 := [(0, .ref b), (1, .int (nI p9)), (4, .int (nI to9)), (5, .int (nI k9)), (7, .int (nI (i + 1)))]) rfl ?_
    refine ih (i + 1) (by omega) Eq2 Nq2 (by omega) hNq2 (fun r hr c hc => ?_) (fun q hq => (fq2 q (by omega)).trans ((fq1 q (by omega)).trans ((w4 q (by omega)).trans (y4 q (by omega))))) (fun q a1 a2 a3 a4 a5 => (oq2 q a1 a2 a3 a4 a5).trans ((oq1 q a1 a2 a3 a4 a5).trans ((w5 q a1 a2 a3 a4 a5).trans (y5 q a1 a2 a3 a4 a5))))
    by_cases z : r = i
    · subst z
      unfold yi_M
      by_cases c1 : c < k9
      · rw [if_pos c1, if_pos (by omega), fq2 _ (by omega), fq1 _ (by omega)]; exact w3 c c1
      · by_cases c2 : c = k9
        · rw [if_neg c1, if_pos c2, if_pos (by omega), fq2 _ (by omega), c2]; exact vq1
        · rw [if_neg c1, if_neg c2, if_pos (by omega), if_neg (by omega), show c = k9 + 1 by omega]; exact vq2
    · rw [fq2 _ (by omega), fq1 _ (by omega), w4 _ (by omega)]; exact y3 r (by omega) c hc
set_option maxRecDepth 100000 in
theorem l_X9_s3 {G : xx_G} {l : Launch} {A : xx_H} {b : Nat} {th hr st hl en tu : Value} {m n : Nat} {k9 to9 : Nat} {N : Nat → Int} {Q : Option Value ⊕ String → xx_H → Prop} (hb : A.2 b = xx_o 9 (xx_mf b th (.int (nI m)) (.int (nI n)) hr st hl en tu)) (h6 : k9 ≤ 6) (kC : ∀ (B : xx_H) (N2 : Nat → Int), (B.1 = A.1) → (xx_rw B b N2) → (∀ c, c < k9 → N2 (240 + 8 * k9 + c) = 1) → (∀ q, (q < 240 + 8 * k9 ∨ 240 + 8 * k9 + k9 ≤ q) → N2 q = N q) → (∀ q, q ≠ b + 1 → q ≠ b + 2 → q ≠ b + 3 → q ≠ b + 17 → q ≠ b + 18 → B.2 q = A.2 q) → xx_X G l mX9_solve 5 0 0 172 [(0, .ref b), (4, .int (nI to9)), (5, .int (nI k9))] [] B Q) :
    ∀ (v i : Nat), i + v = k9 → ∀ (B : xx_H) (N2 : Nat → Int), (B.1 = A.1) → (xx_rw B b N2) → (∀ c, c < i → N2 (240 + 8 * k9 + c) = 1) → (∀ q, (q < 240 + 8 * k9 ∨ 240 + 8 * k9 + i ≤ q) → N2 q = N q) → (∀ q, q ≠ b + 1 → q ≠ b + 2 → q ≠ b + 3 → q ≠ b + 17 → q ≠ b + 18 → B.2 q = A.2 q) → xx_X G l mX9_solve 5 0 0 146 [(0, .ref b), (4, .int (nI to9)), (5, .int (nI k9)), (7, .int (nI i))] [] B Q := by
  intro v
  induction v with
  | zero =>
    intro i h9i B N2 y1 y2 y3 y4 y5
    have h9e : k9 = i := by omega
    subst h9e
    refine xx_clv (lv2 := [(0, .ref b), (4, .int (nI to9)), (5, .int (nI k9)), (7, .int (nI k9))]) rfl ?_
    refine xx_iload dX9_solve_146 rfl ?_
    refine xx_iload dX9_solve_148 rfl ?_
    refine xx_icmp_ge (tgt := 172) dX9_solve_150 (by decide) (fun j150 => ?_) (fun h => absurd (Int32.le_refl _) h)
    refine xx_less [0, 4, 5] ?_
    refine xx_clv (lv2 := [(0, .ref b), (4, .int (nI to9)), (5, .int (nI k9))]) rfl ?_
    exact kC B N2 y1 y2 y3 y4 y5
  | succ v ih =>
    intro i h9i B N2 y1 y2 y3 y4 y5
    have hb2 := (y5 b (by omega) (by omega) (by omega) (by omega) (by omega)).trans hb
    refine xx_iload dX9_solve_146 rfl ?_
    refine xx_iload dX9_solve_148 rfl ?_
    refine xx_icmp_ge (tgt := 172) dX9_solve_150 (by decide) (fun h => absurd h (nI_ge (a := i) (b := k9) (by omega) (by omega))) (fun j150 => ?_)
    refine xx_aload_n dX9_solve_153 rfl ?_
    refine xx_aload_n dX9_solve_154 rfl ?_
    refine xx_iload dX9_solve_155 rfl ?_
    refine xx_iload dX9_solve_157 rfl ?_
    refine xx_callV (N := mX9_at) (vs := [.int (nI k9), .int (nI i)]) (b := b) (rest := [.ref b]) (d2 := 0) (c2 := 0) (s2 := 0) (c3 := 0) (s3 := 0) dX9_solve_159 wm_X9_199 wi_X9_at wv_X9_at (k := 9) rfl (by decide) hb2 nX9_at ⟨pX9_at, Nat.le_of_ble_eq_true rfl, by decide, Nat.le_of_ble_eq_true rfl, by decide, by decide⟩ (c_X9_at (r := k9) (c := i)) (fun v9 B9 hC => ?_) (fun E9 B9 hC => absurd hC.1 (by simp))
    obtain ⟨hv9, e9⟩ := hC
    cases hv9
    refine xx_cst (st2 := [.int (nI (240 + 8 * k9 + i)), .ref b]) rfl ?_
    rw [e9]
    refine xx_lconst (v := 1) dX9_solve_162 (by decide) ?_
    refine xx_eql (y := lz 1) (by decide) ?_
    refine xx_callV (N := mX9_set) (vs := [.int (nI (240 + 8 * k9 + i)), .long (lz 1)]) (b := b) (rest := []) (d2 := 0) (c2 := 0) (s2 := 0) (c3 := 0) (s3 := 0) dX9_solve_163 wm_X9_80 wi_X9_set wv_X9_set (k := 9) rfl (by decide) hb2 nX9_set ⟨pX9_set, Nat.le_of_ble_eq_true rfl, by decide, Nat.le_of_ble_eq_true rfl, by decide, by decide⟩ (w_X9_set hb2 y2 (a := 240 + 8 * k9 + i) (v := 1) (by omega) (by decide) (by decide)) (fun v9 Eq1 hC => ?_) (fun E9 B9 hC => absurd hC.1 (by simp))
    obtain ⟨hv9, zq1, ⟨Nq1, hNq1, vq1, fq1⟩, oq1⟩ := hC
    cases hv9
    refine xx_cst (st2 := []) rfl ?_
    have hbq1 := (oq1 b (by omega) (by omega) (by omega) (by omega) (by omega)).trans hb2
    refine xx_iinc (v := nI (i + 1)) dX9_solve_166 rfl (nI_1 i) (by decide) ?_
    refine xx_clv (lv2 := [(0, .ref b), (4, .int (nI to9)), (5, .int (nI k9)), (7, .int (nI (i + 1)))]) rfl ?_
    refine xx_goto (tgt := 146) dX9_solve_169 (by decide) ?_
    refine xx_less [0, 4, 5, 7] ?_
    refine xx_clv (lv2 := [(0, .ref b), (4, .int (nI to9)), (5, .int (nI k9)), (7, .int (nI (i + 1)))]) rfl ?_
    refine ih (i + 1) (by omega) Eq1 Nq1 (by omega) hNq1 (fun c hc => ?_) (fun q hq => (fq1 q (by omega)).trans (y4 q (by omega))) (fun q a1 a2 a3 a4 a5 => (oq1 q a1 a2 a3 a4 a5).trans (y5 q a1 a2 a3 a4 a5))
    by_cases z : c = i
    · rw [z]; exact vq1
    · rw [fq1 _ (by omega)]; exact y3 c (by omega)
set_option maxRecDepth 100000 in
theorem l_X9_s4 {G : xx_G} {l : Launch} {A : xx_H} {b : Nat} {th hr st hl en tu : Value} {m n : Nat} {k9 to9 : Nat} {N : Nat → Int} {r : Nat} {gd : Int32} {Q : Option Value ⊕ String → xx_H → Prop} (hb : A.2 b = xx_o 9 (xx_mf b th (.int (nI m)) (.int (nI n)) hr st hl en tu)) (h6 : k9 ≤ 6) (hr9 : r ≤ k9) (bA : ∀ c, r ≤ c → c < k9 + 2 → (N (240 + 8 * r + c)).natAbs < 2 ^ 216) (bX : ∀ c, r < c → c ≤ k9 → (N (31 + c)).natAbs < 2 ^ 216) (bK : (N 29).natAbs < 2 ^ 216) (kC : ∀ (B : xx_H) (N2 : Nat → Int), (B.1 = A.1) → (r < (k9 + 1)) → (xx_rw B b N2) → (N2 10 = N (240 + 8 * r + (k9 + 1)) * N 29 - yd_s ((k9 + 1)) (fun j => if r < j then N (240 + 8 * r + j) * N (31 + j) else 0)) → (∀ q, q ≠ 10 → q ≠ 11 → N2 q = N q) → (∀ q, q ≠ b + 1 → q ≠ b + 2 → q ≠ b + 3 → q ≠ b + 17 → q ≠ b + 18 → B.2 q = A.2 q) → xx_X G l mX9_solve 5 0 0 317 [(0, .ref b), (4, .int (nI to9)), (5, .int (nI k9)), (7, .int gd), (8, .int (nI r))] [] B Q) :
    ∀ (v i : Nat), i + v = k9 + 1 → ∀ (B : xx_H) (N2 : Nat → Int), (B.1 = A.1) → (r < i) → (xx_rw B b N2) → (N2 10 = N (240 + 8 * r + (k9 + 1)) * N 29 - yd_s i (fun j => if r < j then N (240 + 8 * r + j) * N (31 + j) else 0)) → (∀ q, q ≠ 10 → q ≠ 11 → N2 q = N q) → (∀ q, q ≠ b + 1 → q ≠ b + 2 → q ≠ b + 3 → q ≠ b + 17 → q ≠ b + 18 → B.2 q = A.2 q) → xx_X G l mX9_solve 5 0 0 274 [(0, .ref b), (4, .int (nI to9)), (5, .int (nI k9)), (7, .int gd), (8, .int (nI r)), (9, .int (nI i))] [] B Q := by
  intro v
  induction v with
  | zero =>
    intro i h9i B N2 y1 y0 y2 y3 y4 y5
    have h9e : k9 + 1 = i := by omega
    subst h9e
    refine xx_clv (lv2 := [(0, .ref b), (4, .int (nI to9)), (5, .int (nI k9)), (7, .int gd), (8, .int (nI r)), (9, .int (nI (k9 + 1)))]) rfl ?_
    refine xx_iload dX9_solve_274 rfl ?_
    refine xx_iload dX9_solve_276 rfl ?_
    refine xx_icmp_gt (tgt := 317) dX9_solve_278 (by decide) (fun j278 => ?_) (fun h => absurd ((nI_ltI (by omega) (by omega)).mpr (Nat.lt_succ_self k9)) h)
    refine xx_less [0, 4, 5, 7, 8] ?_
    refine xx_clv (lv2 := [(0, .ref b), (4, .int (nI to9)), (5, .int (nI k9)), (7, .int gd), (8, .int (nI r))]) rfl ?_
    exact kC B N2 y1 y0 y2 y3 y4 y5
  | succ v ih =>
    intro i h9i B N2 y1 y0 y2 y3 y4 y5
    have hb2 := (y5 b (by omega) (by omega) (by omega) (by omega) (by omega)).trans hb
    have b10 : (N2 10).natAbs < 65536 ^ 39 := by
      rw [y3]
      have p1 := yi_b2 (bA (k9 + 1) (by omega) (by omega)) bK
      have p2 : (yd_s i (fun j => if r < j then N (240 + 8 * r + j) * N (31 + j) else 0)).natAbs ≤ i * 2 ^ 432 := yd_s_abs (fun j hj => by
        split
        · exact Nat.le_of_lt (yi_b2 (bA j (by omega) (by omega)) (bX j (by omega) (by omega)))
        · exact Nat.zero_le _)
      exact yi_b3 p1 p2 (by omega)
    refine xx_iload dX9_solve_274 rfl ?_
    refine xx_iload dX9_solve_276 rfl ?_
    refine xx_icmp_gt (tgt := 317) dX9_solve_278 (by decide) (fun h => absurd ((nI_ltI (a := k9) (b := i) (by omega) (by omega)).mp h) (by omega)) (fun j278 => ?_)
    refine xx_aload_n dX9_solve_281 rfl ?_
    refine xx_aload_n dX9_solve_282 rfl ?_
    refine xx_iload dX9_solve_283 rfl ?_
    refine xx_iload dX9_solve_285 rfl ?_
    refine xx_callV (N := mX9_at) (vs := [.int (nI r), .int (nI i)]) (b := b) (rest := [.ref b]) (d2 := 0) (c2 := 0) (s2 := 0) (c3 := 0) (s3 := 0) dX9_solve_287 wm_X9_199 wi_X9_at wv_X9_at (k := 9) rfl (by decide) hb2 nX9_at ⟨pX9_at, Nat.le_of_ble_eq_true rfl, by decide, Nat.le_of_ble_eq_true rfl, by decide, by decide⟩ (c_X9_at (r := r) (c := i)) (fun v9 B9 hC => ?_) (fun E9 B9 hC => absurd hC.1 (by simp))
    obtain ⟨hv9, e9⟩ := hC
    cases hv9
    refine xx_cst (st2 := [.int (nI (240 + 8 * r + i)), .ref b]) rfl ?_
    rw [e9]
    refine xx_bipush (v := 31) dX9_solve_290 (by decide) ?_
    refine xx_iload dX9_solve_292 rfl ?_
    refine xx_iadd dX9_solve_294 ?_
    refine xx_eqi (y := nI (31 + i)) (nI_add 31 i) ?_
    refine xx_bipush (v := 11) dX9_solve_295 (by decide) ?_
    have g1 : N2 (240 + 8 * r + i) = N (240 + 8 * r + i) := y4 _ (by omega) (by omega)
    have g2 : N2 (31 + i) = N (31 + i) := y4 _ (by omega) (by omega)
    refine xx_callV (N := mX9_times) (vs := [.int (nI (240 + 8 * r + i)), .int (nI (31 + i)), .int 11]) (b := b) (rest := []) (d2 := 1) (c2 := 0) (s2 := 0) (c3 := 0) (s3 := 0) dX9_solve_297 wm_X9_104 wi_X9_times wv_X9_times (k := 9) rfl (by decide) hb2 nX9_times ⟨pX9_times, Nat.le_of_ble_eq_true rfl, by decide, Nat.le_of_ble_eq_true rfl, by decide, by decide⟩ (w_X9_times hb2 y2 (x := 240 + 8 * r + i) (y := 31 + i) (c := 11) (p := 14) (q := 26) (by omega) (by omega) (by omega) (by omega) (by omega) (by decide) (by rw [g1]; exact yi_p14 (bA i (by omega) (by omega))) (by rw [g2]; exact yi_p26 (bX i (by omega) (by omega)))) (fun v9 Eq1 hC => ?_) (fun E9 B9 hC => absurd hC.1 (by simp))
    obtain ⟨hv9, zq1, ⟨Nq1, hNq1, vq1, fq1⟩, oq1⟩ := hC
    cases hv9
    refine xx_cst (st2 := []) rfl ?_
    have hbq1 := (oq1 b (by omega) (by omega) (by omega) (by omega) (by omega)).trans hb2
    rw [g1, g2] at vq1
    refine xx_aload_n dX9_solve_300 rfl ?_
    refine xx_bipush (v := 10) dX9_solve_301 (by decide) ?_
    refine xx_bipush (v := 11) dX9_solve_303 (by decide) ?_
    refine xx_iconst (v := 1) dX9_solve_305 (by decide) ?_
    refine xx_bipush (v := 10) dX9_solve_306 (by decide) ?_
    have g3 : Nq1 10 = N2 10 := fq1 10 (by omega)
    refine xx_cst (st2 := [.int 10, .int (if true then 1 else 0), .int 11, .int 10, .ref b]) rfl ?_
    refine xx_callV (N := mX9_add) (vs := [.int 10, .int 11, .int (if true then 1 else 0), .int 10]) (b := b) (rest := []) (d2 := 2) (c2 := 0) (s2 := 0) (c3 := 0) (s3 := 0) dX9_solve_308 wm_X9_108 wi_X9_add wv_X9_add (k := 9) rfl (by decide) hbq1 nX9_add ⟨pX9_add, Nat.le_of_ble_eq_true rfl, by decide, Nat.le_of_ble_eq_true rfl, by decide, by decide⟩ (w_X9_add hbq1 hNq1 (x := 10) (y := 11) (c := 10) (mn := true) (by omega) (by omega) (by omega) (by rw [g3]; exact b10) (by rw [vq1]; exact yi_p39 (yi_b2 (bA i (by omega) (by omega)) (bX i (by omega) (by omega))))) (fun v9 Eq2 hC => ?_) (fun E9 B9 hC => absurd hC.1 (by simp))
    obtain ⟨hv9, zq2, ⟨Nq2, hNq2, vq2, fq2⟩, oq2⟩ := hC
    cases hv9
    refine xx_cst (st2 := []) rfl ?_
    have hbq2 := (oq2 b (by omega) (by omega) (by omega) (by omega) (by omega)).trans hbq1
    rw [if_pos rfl, g3, vq1, y3] at vq2
    refine xx_iinc (v := nI (i + 1)) dX9_solve_311 rfl (nI_1 i) (by decide) ?_
    refine xx_clv (lv2 := [(0, .ref b), (4, .int (nI to9)), (5, .int (nI k9)), (7, .int gd), (8, .int (nI r)), (9, .int (nI (i + 1)))]) rfl ?_
    refine xx_goto (tgt := 274) dX9_solve_314 (by decide) ?_
    refine xx_less [0, 4, 5, 7, 8, 9] ?_
    refine xx_clv (lv2 := [(0, .ref b), (4, .int (nI to9)), (5, .int (nI k9)), (7, .int gd), (8, .int (nI r)), (9, .int (nI (i + 1)))]) rfl ?_
    refine ih (i + 1) (by omega) Eq2 Nq2 (by omega) (by omega) hNq2 ?_ (fun q a1 a2 => (fq2 q a1).trans ((fq1 q a2).trans (y4 q a1 a2))) (fun q a1 a2 a3 a4 a5 => (oq2 q a1 a2 a3 a4 a5).trans ((oq1 q a1 a2 a3 a4 a5).trans (y5 q a1 a2 a3 a4 a5)))
    rw [vq2]
    show _ = _ - (yd_s i _ + (if r < i then N (240 + 8 * r + i) * N (31 + i) else 0))
    rw [if_pos y0]
    omega
set_option maxRecDepth 100000 in
theorem l_X9_s5 {G : xx_G} {l : Launch} {A : xx_H} {b : Nat} {th hr st hl en tu : Value} {m n : Nat} {k9 to9 : Nat} {N : Nat → Int} {gd : Int32} {Q : Option Value ⊕ String → xx_H → Prop} (hb : A.2 b = xx_o 9 (xx_mf b th (.int (nI m)) (.int (nI n)) hr st hl en tu)) (ht : 330 ≤ to9) (ht2 : to9 + 6 ≤ 1740) (kC : ∀ (B : xx_H) (N2 : Nat → Int), (B.1 = A.1) → (xx_rw B b N2) → (∀ c, c < 6 → N2 (to9 + c) = 0) → (∀ q, (q < to9 ∨ to9 + 6 ≤ q) → N2 q = N q) → (∀ q, q ≠ b + 1 → q ≠ b + 2 → q ≠ b + 3 → q ≠ b + 17 → q ≠ b + 18 → B.2 q = A.2 q) → xx_X G l mX9_solve 5 0 0 441 [(0, .ref b), (4, .int (nI to9)), (5, .int (nI k9)), (7, .int gd)] [] B Q) :
    ∀ (v i : Nat), i + v = 6 → ∀ (B : xx_H) (N2 : Nat → Int), (B.1 = A.1) → (xx_rw B b N2) → (∀ c, c < i → N2 (to9 + c) = 0) → (∀ q, (q < to9 ∨ to9 + i ≤ q) → N2 q = N q) → (∀ q, q ≠ b + 1 → q ≠ b + 2 → q ≠ b + 3 → q ≠ b + 17 → q ≠ b + 18 → B.2 q = A.2 q) → xx_X G l mX9_solve 5 0 0 418 [(0, .ref b), (4, .int (nI to9)), (5, .int (nI k9)), (7, .int gd), (8, .int (nI i))] [] B Q := by
  intro v
  induction v with
  | zero =>
    intro i h9i B N2 y1 y2 y3 y4 y5
    have h9e : 6 = i := by omega
    subst h9e
    refine xx_clv (lv2 := [(0, .ref b), (4, .int (nI to9)), (5, .int (nI k9)), (7, .int gd), (8, .int 6)]) rfl ?_
    refine xx_iload dX9_solve_418 rfl ?_
    refine xx_bipush (v := 6) dX9_solve_420 (by decide) ?_
    refine xx_icmp_ge (tgt := 441) dX9_solve_422 (by decide) (fun j422 => ?_) (fun h => absurd (by decide) h)
    refine xx_less [0, 4, 5, 7] ?_
    refine xx_clv (lv2 := [(0, .ref b), (4, .int (nI to9)), (5, .int (nI k9)), (7, .int gd)]) rfl ?_
    exact kC B N2 y1 y2 y3 y4 y5
  | succ v ih =>
    intro i h9i B N2 y1 y2 y3 y4 y5
    have hb2 := (y5 b (by omega) (by omega) (by omega) (by omega) (by omega)).trans hb
    refine xx_iload dX9_solve_418 rfl ?_
    refine xx_bipush (v := 6) dX9_solve_420 (by decide) ?_
    refine xx_icmp_ge (tgt := 441) dX9_solve_422 (by decide) (fun h => absurd h (nI_ge (a := i) (b := 6) (by omega) (by omega))) (fun j422 => ?_)
    refine xx_aload_n dX9_solve_425 rfl ?_
    refine xx_iload dX9_solve_426 rfl ?_
    refine xx_iload dX9_solve_428 rfl ?_
    refine xx_iadd dX9_solve_430 ?_
    refine xx_eqi (y := nI (to9 + i)) (nI_add to9 i) ?_
    refine xx_lconst (v := 0) dX9_solve_431 (by decide) ?_
    refine xx_eql (y := lz 0) (by decide) ?_
    refine xx_callV (N := mX9_set) (vs := [.int (nI (to9 + i)), .long (lz 0)]) (b := b) (rest := []) (d2 := 0) (c2 := 0) (s2 := 0) (c3 := 0) (s3 := 0) dX9_solve_432 wm_X9_80 wi_X9_set wv_X9_set (k := 9) rfl (by decide) hb2 nX9_set ⟨pX9_set, Nat.le_of_ble_eq_true rfl, by decide, Nat.le_of_ble_eq_true rfl, by decide, by decide⟩ (w_X9_set hb2 y2 (a := to9 + i) (v := 0) (by omega) (by decide) (by decide)) (fun v9 Eq1 hC => ?_) (fun E9 B9 hC => absurd hC.1 (by simp))
    obtain ⟨hv9, zq1, ⟨Nq1, hNq1, vq1, fq1⟩, oq1⟩ := hC
    cases hv9
    refine xx_cst (st2 := []) rfl ?_
    have hbq1 := (oq1 b (by omega) (by omega) (by omega) (by omega) (by omega)).trans hb2
    refine xx_iinc (v := nI (i + 1)) dX9_solve_435 rfl (nI_1 i) (by decide) ?_
    refine xx_clv (lv2 := [(0, .ref b), (4, .int (nI to9)), (5, .int (nI k9)), (7, .int gd), (8, .int (nI (i + 1)))]) rfl ?_
    refine xx_goto (tgt := 418) dX9_solve_438 (by decide) ?_
    refine xx_less [0, 4, 5, 7, 8] ?_
    refine xx_clv (lv2 := [(0, .ref b), (4, .int (nI to9)), (5, .int (nI k9)), (7, .int gd), (8, .int (nI (i + 1)))]) rfl ?_
    refine ih (i + 1) (by omega) Eq1 Nq1 (by omega) hNq1 (fun c hc => ?_) (fun q hq => (fq1 q (by omega)).trans (y4 q (by omega))) (fun q a1 a2 a3 a4 a5 => (oq1 q a1 a2 a3 a4 a5).trans (y5 q a1 a2 a3 a4 a5))
    by_cases z : c = i
    · rw [z]; exact vq1
    · rw [fq1 _ (by omega)]; exact y3 c (by omega)
set_option maxRecDepth 100000 in
theorem l_X9_s6 {G : xx_G} {l : Launch} {A : xx_H} {b : Nat} {th hr st hl en tu : Value} {m n : Nat} {k9 to9 : Nat} {N : Nat → Int} {gd : Int32} {U : Nat} {gu : Nat → Int32} {Q : Option Value ⊕ String → xx_H → Prop} (hb : A.2 b = xx_o 9 (xx_mf b th (.int (nI m)) (.int (nI n)) hr st hl en tu)) (h6 : k9 ≤ 6) (ht : 330 ≤ to9) (ht2 : to9 + 6 ≤ 1740) (hch : A.2 (b + 19) = xx_i 6 gu) (hgu : ∀ j, j < k9 → gu j = nI (yk_e U j)) (hU : U < 64) (hkU : yb_c U = k9) (kC : ∀ (B : xx_H) (N2 : Nat → Int), (B.1 = A.1) → (xx_rw B b N2) → (∀ j, j < 6 → N2 (to9 + j) = if Nat.testBit U j = true ∧ yk_x U j < k9 then ((N (31 + yk_x U j)).natAbs : Int) else 0) → (∀ q, (q < to9 ∨ to9 + 6 ≤ q) → N2 q = N q) → (∀ q, q ≠ b + 1 → q ≠ b + 2 → q ≠ b + 3 → q ≠ b + 17 → q ≠ b + 18 → B.2 q = A.2 q) → xx_X G l mX9_solve 5 0 0 509 [(7, .int gd)] [] B Q) :
    ∀ (v i : Nat), i + v = k9 → ∀ (B : xx_H) (N2 : Nat → Int), (B.1 = A.1) → (xx_rw B b N2) → (∀ j, j < 6 → N2 (to9 + j) = if Nat.testBit U j = true ∧ yk_x U j < i then ((N (31 + yk_x U j)).natAbs : Int) else 0) → (∀ q, (q < to9 ∨ to9 + 6 ≤ q) → N2 q = N q) → (∀ q, q ≠ b + 1 → q ≠ b + 2 → q ≠ b + 3 → q ≠ b + 17 → q ≠ b + 18 → B.2 q = A.2 q) → xx_X G l mX9_solve 5 0 0 444 [(0, .ref b), (4, .int (nI to9)), (5, .int (nI k9)), (7, .int gd), (8, .int (nI i))] [] B Q := by
  intro v
  induction v with
  | zero =>
    intro i h9i B N2 y1 y2 y3 y4 y5
    have h9e : k9 = i := by omega
    subst h9e
    refine xx_clv (lv2 := [(0, .ref b), (4, .int (nI to9)), (5, .int (nI k9)), (7, .int gd), (8, .int (nI k9))]) rfl ?_
    refine xx_iload dX9_solve_444 rfl ?_
    refine xx_iload dX9_solve_446 rfl ?_
    refine xx_icmp_ge (tgt := 509) dX9_solve_448 (by decide) (fun j448 => ?_) (fun h => absurd (Int32.le_refl _) h)
    refine xx_less [7] ?_
    refine xx_clv (lv2 := [(7, .int gd)]) rfl ?_
    exact kC B N2 y1 y2 y3 y4 y5
  | succ v ih =>
    intro i h9i B N2 y1 y2 y3 y4 y5
    have hb2 := (y5 b (by omega) (by omega) (by omega) (by omega) (by omega)).trans hb
    have hch2 := (y5 (b + 19) (by omega) (by omega) (by omega) (by omega) (by omega)).trans hch
    refine xx_iload dX9_solve_444 rfl ?_
    refine xx_iload dX9_solve_446 rfl ?_
    refine xx_icmp_ge (tgt := 509) dX9_solve_448 (by decide) (fun h => absurd h (nI_ge (a := i) (b := k9) (by omega) (by omega))) (fun j448 => ?_)
    refine xx_aload_n dX9_solve_451 rfl ?_
    refine xx_bipush (v := 31) dX9_solve_452 (by decide) ?_
    refine xx_iload dX9_solve_454 rfl ?_
    refine xx_iadd dX9_solve_456 ?_
    refine xx_eqi (y := nI (31 + i)) (nI_add 31 i) ?_
    refine xx_iload dX9_solve_457 rfl ?_
    refine xx_aload_n dX9_solve_459 rfl ?_
    refine xx_get xx_c9 dX9_solve_460 wf_X9_71 (j := 25) (by decide) hb2 rfl ?_
    refine xx_iload dX9_solve_463 rfl ?_
    refine xx_iald dX9_solve_465 hch2 (vp_in_nI (by omega) (by decide)) ?_
    refine xx_eqi (y := nI (yk_e U i)) (by rw [nI_clamp (by omega)]; exact hgu i (by omega)) ?_
    have e6 := yk_e6 U hU i (by omega)
    refine xx_iadd dX9_solve_466 ?_
    refine xx_eqi (y := nI (to9 + (yk_e U i))) (nI_add to9 (yk_e U i)) ?_
    refine xx_callV (N := mX9_copy) (vs := [.int (nI (31 + i)), .int (nI (to9 + (yk_e U i)))]) (b := b) (rest := []) (d2 := 0) (c2 := 0) (s2 := 0) (c3 := 0) (s3 := 0) dX9_solve_467 wm_X9_98 wi_X9_copy wv_X9_copy (k := 9) rfl (by decide) hb2 nX9_copy ⟨pX9_copy, Nat.le_of_ble_eq_true rfl, by decide, Nat.le_of_ble_eq_true rfl, by decide, by decide⟩ (w_X9_copy hb2 y2 (x := 31 + i) (a := to9 + yk_e U i) (by omega) (by omega) (by omega)) (fun v9 Eq1 hC => ?_) (fun E9 B9 hC => absurd hC.1 (by simp))
    obtain ⟨hv9, zq1, ⟨Nq1, hNq1, vq1, fq1⟩, oq1⟩ := hC
    cases hv9
    refine xx_cst (st2 := []) rfl ?_
    have hbq1 := (oq1 b (by omega) (by omega) (by omega) (by omega) (by omega)).trans hb2
    have hch3 := (oq1 (b + 19) (by omega) (by omega) (by omega) (by omega) (by omega)).trans hch2
    obtain ⟨h9, s1, s2, s3⟩ := hNq1.sn
    have v31 : N2 (31 + i) = N (31 + i) := y4 _ (by omega)
    have v32 : Nq1 (31 + i) = N (31 + i) := (fq1 _ (by omega)).trans v31
    rw [v31] at vq1
    refine xx_aload_n dX9_solve_470 rfl ?_
    refine xx_get xx_c9 dX9_solve_471 wf_X9_17 (j := 3) (by decide) hbq1 rfl ?_
    refine xx_iload dX9_solve_474 rfl ?_
    refine xx_aload_n dX9_solve_476 rfl ?_
    refine xx_get xx_c9 dX9_solve_477 wf_X9_71 (j := 25) (by decide) hbq1 rfl ?_
    refine xx_iload dX9_solve_480 rfl ?_
    refine xx_iald dX9_solve_482 hch3 (vp_in_nI (by omega) (by decide)) ?_
    refine xx_eqi (y := nI (yk_e U i)) (by rw [nI_clamp (by omega)]; exact hgu i (by omega)) ?_
    refine xx_iadd dX9_solve_483 ?_
    refine xx_eqi (y := nI (to9 + (yk_e U i))) (nI_add to9 (yk_e U i)) ?_
    refine xx_aload_n dX9_solve_484 rfl ?_
    refine xx_get xx_c9 dX9_solve_485 wf_X9_17 (j := 3) (by decide) hbq1 rfl ?_
    refine xx_bipush (v := 31) dX9_solve_488 (by decide) ?_
    refine xx_iload dX9_solve_490 rfl ?_
    refine xx_iadd dX9_solve_492 ?_
    refine xx_eqi (y := nI (31 + i)) (nI_add 31 i) ?_
    refine xx_iald dX9_solve_493 s1 (vp_in_nI (by omega) (by decide)) ?_
    refine xx_eqi (y := iz (N (31 + i)).sign) (by rw [nI_clamp (by omega), s2 _ (by omega), v32]) ?_
    refine xx_if_ne (tgt := 501) dX9_solve_494 (by decide) (fun j494 => ?_) (fun j494 => ?_)
    · refine xx_iconst (v := 1) dX9_solve_501 (by decide) ?_
      refine xx_iast dX9_solve_502 s1 (vp_in_nI (by omega) (by decide)) (xx_gu fun Eq2 z2 h2 o2 => ?_)
      rw [nI_clamp (by omega)] at h2
      have v0 : ¬ N (31 + i) = 0 := fun z => j494 (yk_sg0.mpr z)
      have n2 := s3 Eq2 (((N (31 + i)).natAbs : Nat) : Int) (to9 + yk_e U i) (by omega) (by rw [vq1]; exact Int.natAbs_natCast _) (by rw [yi_ab, if_neg v0]; exact h2) (fun q hq => o2 q hq)
      refine xx_iinc (v := nI (i + 1)) dX9_solve_503 rfl (nI_1 i) (by decide) ?_
      refine xx_clv (lv2 := [(0, .ref b), (4, .int (nI to9)), (5, .int (nI k9)), (7, .int gd), (8, .int (nI (i + 1)))]) rfl ?_
      refine xx_goto (tgt := 444) dX9_solve_506 (by decide) ?_
      refine xx_less [0, 4, 5, 7, 8] ?_
      refine xx_clv (lv2 := [(0, .ref b), (4, .int (nI to9)), (5, .int (nI k9)), (7, .int gd), (8, .int (nI (i + 1)))]) rfl ?_
      refine ih (i + 1) (by omega) Eq2 _ (by omega) n2 (fun j hj => ?_) (fun q hq => (yy_un_n (by omega)).trans ((fq1 q (by omega)).trans (y4 q hq))) (fun q a1 a2 a3 a4 a5 => (o2 q a3).trans ((oq1 q a1 a2 a3 a4 a5).trans (y5 q a1 a2 a3 a4 a5)))
      by_cases z : j = yk_e U i
      · have t1 := yk_et U hU i (by omega)
        have t2 := yk_xe U hU i (by omega)
        rw [z, yy_un_s, if_pos ⟨t1, by omega⟩, t2]
      · rw [yy_un_n (by omega), fq1 _ (by omega), y3 j hj]
        by_cases t1 : Nat.testBit U j = true
        · have t2 := yk_ex U hU j hj t1
          have t3 : yk_x U j ≠ i := fun q => z (by rw [← t2, q])
          by_cases t4 : yk_x U j < i
          · rw [if_pos ⟨t1, t4⟩, if_pos ⟨t1, by omega⟩]
          · rw [if_neg (fun q => t4 q.2), if_neg (fun q => by have := q.2; omega)]
        · rw [if_neg (fun q => t1 q.1), if_neg (fun q => t1 q.1)]
    · refine xx_iconst (v := 0) dX9_solve_497 (by decide) ?_
      refine xx_goto (tgt := 502) dX9_solve_498 (by decide) ?_
      refine xx_iast dX9_solve_502 s1 (vp_in_nI (by omega) (by decide)) (xx_gu fun Eq2 z2 h2 o2 => ?_)
      rw [nI_clamp (by omega)] at h2
      have v0 : N (31 + i) = 0 := yk_sg0.mp j494
      have n2 := s3 Eq2 (((N (31 + i)).natAbs : Nat) : Int) (to9 + yk_e U i) (by omega) (by rw [vq1]; exact Int.natAbs_natCast _) (by rw [yi_ab, if_pos v0]; exact h2) (fun q hq => o2 q hq)
      refine xx_iinc (v := nI (i + 1)) dX9_solve_503 rfl (nI_1 i) (by decide) ?_
      refine xx_clv (lv2 := [(0, .ref b), (4, .int (nI to9)), (5, .int (nI k9)), (7, .int gd), (8, .int (nI (i + 1)))]) rfl ?_
      refine xx_goto (tgt := 444) dX9_solve_506 (by decide) ?_
      refine xx_less [0, 4, 5, 7, 8] ?_
      refine xx_clv (lv2 := [(0, .ref b), (4, .int (nI to9)), (5, .int (nI k9)), (7, .int gd), (8, .int (nI (i + 1)))]) rfl ?_
      refine ih (i + 1) (by omega) Eq2 _ (by omega) n2 (fun j hj => ?_) (fun q hq => (yy_un_n (by omega)).trans ((fq1 q (by omega)).trans (y4 q hq))) (fun q a1 a2 a3 a4 a5 => (o2 q a3).trans ((oq1 q a1 a2 a3 a4 a5).trans (y5 q a1 a2 a3 a4 a5)))
      by_cases z : j = yk_e U i
      · have t1 := yk_et U hU i (by omega)
        have t2 := yk_xe U hU i (by omega)
        rw [z, yy_un_s, if_pos ⟨t1, by omega⟩, t2]
      · rw [yy_un_n (by omega), fq1 _ (by omega), y3 j hj]
        by_cases t1 : Nat.testBit U j = true
        · have t2 := yk_ex U hU j hj t1
          have t3 : yk_x U j ≠ i := fun q => z (by rw [← t2, q])
          by_cases t4 : yk_x U j < i
          · rw [if_pos ⟨t1, t4⟩, if_pos ⟨t1, by omega⟩]
          · rw [if_neg (fun q => t4 q.2), if_neg (fun q => by have := q.2; omega)]
        · rw [if_neg (fun q => t1 q.1), if_neg (fun q => t1 q.1)]
