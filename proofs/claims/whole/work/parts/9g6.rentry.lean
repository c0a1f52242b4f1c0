/-! ===== the reference's isEntry ===== -/
/-- both strategies of an entry -/
def yn_X (W : Nat → Nat → Nat → Int) (le : Nat → Int) (S U : Nat) : Nat → Nat → Int := fun p k => yn_w (yn_a W le (1 - p)) (if p = 0 then U else S) (if p = 0 then S else U) k
def yn_tt (W : Nat → Nat → Nat → Int) (le : Nat → Int) (S U : Nat) : Nat → Int := fun p => yd_s 6 (fun k => yn_X W le S U p k)
def yn_h (m n : Nat) (W : Nat → Nat → Nat → Int) (le : Nat → Int) (S U : Nat) : Prop := yk_h (yn_a W le 0) m S U ∧ yk_h (yn_a W le 1) n U S
theorem yn_X_b {m n : Nat} {W : Nat → Nat → Nat → Int} {le : Nat → Int} {S U : Nat} (hg : yg_ok m n W le) (hS : S < 2 ^ m) (hU : U < 2 ^ n) (hc : yb_c U = yb_c S) : ∀ p, p < 2 → ∀ k, k < 6 → (yn_X W le S U p k).natAbs < 2 ^ 192 := by
  intro p hp k hk
  have hm := hg.2.1
  have hn := hg.2.2.2.1
  have mw := yk_pw hm
  have nw := yk_pw hn
  refine Nat.lt_trans (m := 2 ^ 160) ?_ (by decide +kernel)
  unfold yn_X yn_w
  rcases (show p = 0 ∨ p = 1 by omega) with y | y
  · subst y
    rw [if_pos rfl, if_pos rfl]
    by_cases z : Nat.testBit S k = true
    · rw [if_pos z, Int.natAbs_natCast]
      exact yk_nb (S := U) (T := S) (by omega) (by omega) hc.symm (yk_xl _ (by omega) k hk z) hn hm hU hS (fun i hi j hj => (yn_a_b hg (p := 1) (by decide) i hi j hj).2)
    · rw [if_neg z]; decide
  · subst y
    rw [if_neg (show ¬ (1 : Nat) = 0 by decide), if_neg (show ¬ (1 : Nat) = 0 by decide)]
    by_cases z : Nat.testBit U k = true
    · rw [if_pos z, Int.natAbs_natCast]
      exact yk_nb (S := S) (T := U) (by omega) (by omega) hc (yk_xl _ (by omega) k hk z) hm hn hS hU (fun i hi j hj => (yn_a_b hg (p := 0) (by decide) i hi j hj).2)
    · rw [if_neg z]; decide
theorem yn_and : ∀ a, a < 64 → ∀ s, s < 64 → (nI a &&& nI s = nI s ↔ ∀ k, k < 6 → Nat.testBit s k = true → Nat.testBit a k = true) := by decide +kernel
theorem ye_b64 {m n p : Nat} {V : Nat → Int} (hm : m ≤ 6) (hn : n ≤ 6) : 1 ≤ yy_cn m n p → ye_b V (yy_cn m n p - 1) < 64 := fun h => by
  have c6 := yy_cn6 (p := p) hm hn
  unfold ye_b
  exact Nat.lt_of_lt_of_le (yb_lt _ _) (yk_pw (by omega))
set_option maxRecDepth 100000 in
theorem c_X9_isEntry {G : xx_G} {l : Launch} {A : xx_H} {b : Nat} {th hr st hl tu : Value} {m n : Nat} {S U ec : Nat} {N : Nat → Int} {W : Nat → Nat → Nat → Int} {le : Nat → Int} {mu : Nat → Nat} {gu gs : Nat → Int32} (hb : A.2 b = xx_o 9 (xx_mf b th (.int (nI m)) (.int (nI n)) hr st hl (.int (nI ec)) tu)) (hN : xx_rw A b N) (hg : yg_ok m n W le) (hP : xx_rp A b m n W le mu) (hch : A.2 (b + 19) = xx_i 6 gu) (hot : A.2 (b + 20) = xx_i 6 gs) (hS : S < 2 ^ m) (hU : U < 2 ^ n) (hc : yb_c U = yb_c S) (hc0 : 0 < yb_c S) (hec : ec < 100) : xx_X G l mX9_isEntry 6 0 0 0 (lv_args 0 [.ref b, .int (nI S), .int (nI U)]) [] A (fun z B => B.1 = A.1 ∧ (∃ tu2, B.2 b = xx_o 9 (xx_mf b th (.int (nI m)) (.int (nI n)) hr st hl (.int (nI ec)) tu2)) ∧ (∃ g, B.2 (b + 19) = xx_i 6 g) ∧ (∃ g, B.2 (b + 20) = xx_i 6 g) ∧ (∃ N2, xx_rw B b N2 ∧ (∀ q, 14 ≤ q → q ≠ 19 → q ≠ 22 → q ≠ 24 → q ≠ 28 → q ≠ 29 → (q < 31 ∨ 38 ≤ q) → (q < 240 ∨ 296 ≤ q) → (q < 330 + 14 * ec ∨ 330 + 14 * ec + 14 ≤ q) → N2 q = N q) ∧ ((yn_h m n W le S U ∧ z = .inl (some (.int 1)) ∧ xx_pl N2 (330 + 14 * ec) (yn_X W le S U) (yn_tt W le S U)) ∨ (¬ yn_h m n W le S U ∧ z = .inl (some (.int 0))))) ∧ ∀ q, q ≠ b → q ≠ b + 1 → q ≠ b + 2 → q ≠ b + 3 → q ≠ b + 17 → q ≠ b + 18 → q ≠ b + 19 → q ≠ b + 20 → B.2 q = A.2 q) := by
  have hm := hg.2.1
  have hn := hg.2.2.2.1
  have mw := yk_pw hm
  have nw := yk_pw hn
  obtain ⟨w9, hw9⟩ : ∃ w, w = 330 + 14 * ec := ⟨_, rfl⟩
  have h0 := yi_h (m := m) (n := n) (p := 0) (S := S) (U := U) (X := yn_X W le S U) hg (by decide) hS hU hc hc0
  have h1 := yi_h (m := m) (n := n) (p := 1) (S := U) (U := S) (X := yn_X W le S U) hg (by decide) hU hS hc.symm (by omega)
  have x0 : ∀ k, k < 6 → yn_X W le S U (1 - 0) k = yn_w (yn_a W le 0) S U k := fun k _ => rfl
  have x1 : ∀ k, k < 6 → yn_X W le S U (1 - 1) k = yn_w (yn_a W le 1) U S k := fun k _ => rfl
  have hXb := yn_X_b hg hS hU hc
  refine xx_clv (lv2 := [(0, .ref b), (1, .int (nI S)), (2, .int (nI U))]) rfl ?_
  refine xx_sipush (v := 330) dX9_isEntry_0 (by decide) ?_
  refine xx_bipush (v := 14) dX9_isEntry_3 (by decide) ?_
  refine xx_aload_n dX9_isEntry_5 rfl ?_
  refine xx_get xx_c9 dX9_isEntry_6 wf_X9_136 (j := 16) (by decide) hb rfl ?_
  refine xx_imul dX9_isEntry_9 ?_
  refine xx_eqi (y := nI (14 * ec)) (pk_mul 14 ec) ?_
  refine xx_iadd dX9_isEntry_10 ?_
  refine xx_eqi (y := nI w9) ((nI_add 330 (14 * ec)).trans (congrArg nI (by omega))) ?_
  refine xx_istore_n dX9_isEntry_11 (by decide) ?_
  refine xx_clv (lv2 := [(0, .ref b), (1, .int (nI S)), (2, .int (nI U)), (3, .int (nI w9))]) rfl ?_
  refine xx_aload_n dX9_isEntry_12 rfl ?_
  refine xx_iconst (v := 1) dX9_isEntry_13 (by decide) ?_
  refine xx_iload_n dX9_isEntry_14 rfl ?_
  refine xx_iload_n dX9_isEntry_15 rfl ?_
  refine xx_iload_n dX9_isEntry_16 rfl ?_
  refine xx_bipush (v := 6) dX9_isEntry_17 (by decide) ?_
  refine xx_iadd dX9_isEntry_19 ?_
  refine xx_eqi (y := nI (w9 + 6)) (nI_add w9 6) ?_
  refine xx_callV (N := mX9_solve) (vs := [.int 1, .int (nI U), .int (nI S), .int (nI (w9 + 6))]) (b := b) (rest := []) (d2 := 5) (c2 := 0) (s2 := 0) (c3 := 0) (s3 := 0) dX9_isEntry_20 wm_X9_214 wi_X9_solve wv_X9_solve (k := 9) rfl (by decide) hb nX9_solve ⟨pX9_solve, Nat.le_of_ble_eq_true rfl, by decide, Nat.le_of_ble_eq_true rfl, by decide, by decide⟩ (c_X9_solve (p9 := 1) (S := S) (U := U) (to9 := w9 + 6) hb hN hg hP (by decide) hch hot hS hU hc hc0 (by omega) (by omega)) (fun v9 Ea1 hC => ?_) (fun E9 B9 hC => by obtain ⟨_, _, _, _, ⟨_, _, _, ⟨_, h, _⟩ | ⟨_, h⟩⟩, _⟩ := hC <;> cases h)
  obtain ⟨za1, ⟨ta1, hba1⟩, ⟨ga1, hca1⟩, ⟨gb1, hoa1⟩, ⟨Na1, hNa1, fa1, ⟨qa1, hv9, wa1, ka1, kz1⟩ | ⟨qa1, hv9⟩⟩, oa1⟩ := hC
  · cases hv9
    refine xx_cst (st2 := [.int 1]) rfl ?_
    refine xx_if_ne (tgt := 28) dX9_isEntry_23 (by decide) (fun j23 => ?_) (fun h => absurd h (by decide))
    refine xx_aload_n dX9_isEntry_28 rfl ?_
    refine xx_bipush (v := 29) dX9_isEntry_29 (by decide) ?_
    refine xx_iload_n dX9_isEntry_31 rfl ?_
    refine xx_bipush (v := 13) dX9_isEntry_32 (by decide) ?_
    refine xx_iadd dX9_isEntry_34 ?_
    refine xx_eqi (y := nI (w9 + 13)) (nI_add w9 13) ?_
    refine xx_callV (N := mX9_copy) (vs := [.int 29, .int (nI (w9 + 13))]) (b := b) (rest := []) (d2 := 0) (c2 := 0) (s2 := 0) (c3 := 0) (s3 := 0) dX9_isEntry_35 wm_X9_98 wi_X9_copy wv_X9_copy (k := 9) rfl (by decide) hba1 nX9_copy ⟨pX9_copy, Nat.le_of_ble_eq_true rfl, by decide, Nat.le_of_ble_eq_true rfl, by decide, by decide⟩ (w_X9_copy hba1 hNa1 (x := 29) (a := w9 + 13) (by omega) (by omega) (by omega)) (fun v9 Eq11 hC => ?_) (fun E9 B9 hC => absurd hC.1 (by simp))
    obtain ⟨hv9, zq11, ⟨Nq11, hNq11, vq11, fq11⟩, oq11⟩ := hC
    cases hv9
    refine xx_cst (st2 := []) rfl ?_
    have hbq11 := (oq11 b (by omega) (by omega) (by omega) (by omega) (by omega)).trans hba1
    obtain ⟨h9, s1, s2, s3⟩ := hNq11.sn
    refine xx_aload_n dX9_isEntry_38 rfl ?_
    refine xx_get xx_c9 dX9_isEntry_39 wf_X9_17 (j := 3) (by decide) hbq11 rfl ?_
    refine xx_iload_n dX9_isEntry_42 rfl ?_
    refine xx_bipush (v := 13) dX9_isEntry_43 (by decide) ?_
    refine xx_iadd dX9_isEntry_45 ?_
    refine xx_eqi (y := nI (w9 + 13)) (nI_add w9 13) ?_
    refine xx_iconst (v := 1) dX9_isEntry_46 (by decide) ?_
    refine xx_iast dX9_isEntry_47 s1 (vp_in_nI (by omega) (by decide)) (xx_gu fun Es1 zs1 hs1 os1 => ?_)
    rw [nI_clamp (by omega)] at hs1
    have ns1 := s3 Es1 (((Na1 29).natAbs : Nat) : Int) (w9 + 13) (by omega) (by rw [vq11]; exact Int.natAbs_natCast _) (by rw [yi_ab, if_neg kz1]; exact hs1) (fun q hq => os1 q hq)
    have hbs1 := (os1 b (by omega)).trans hbq11
    have fs1 : ∀ q, q ≠ w9 + 13 → yy_un Nq11 (w9 + 13) (((Na1 29).natAbs : Nat) : Int) q = Na1 q := fun q hq => (yy_un_n hq).trans (fq11 q hq)
    have ps1 : ∀ q, q ≠ b + 1 → q ≠ b + 2 → q ≠ b + 3 → q ≠ b + 17 → q ≠ b + 18 → Es1.2 q = Ea1.2 q := fun q a1 a2 a3 a4 a5 => (os1 q a3).trans (oq11 q a1 a2 a3 a4 a5)
    have pz1 : ∀ q, q ≠ b → q ≠ b + 1 → q ≠ b + 2 → q ≠ b + 3 → q ≠ b + 17 → q ≠ b + 18 → q ≠ b + 19 → q ≠ b + 20 → Es1.2 q = A.2 q := fun q a0 a1 a2 a3 a4 a5 a6 a7 => (ps1 q a1 a2 a3 a4 a5).trans (oa1 q a0 a1 a2 a3 a4 a5 a6 a7)
    have hcs1 := (ps1 (b + 19) (by omega) (by omega) (by omega) (by omega) (by omega)).trans hca1
    have hos1 := (ps1 (b + 20) (by omega) (by omega) (by omega) (by omega) (by omega)).trans hoa1
    have hP1 := hP.to (pz1 _ (by omega) (by omega) (by omega) (by omega) (by omega) (by omega) (by omega) (by omega)) (pz1 _ (by omega) (by omega) (by omega) (by omega) (by omega) (by omega) (by omega) (by omega)) (pz1 _ (by omega) (by omega) (by omega) (by omega) (by omega) (by omega) (by omega) (by omega))
    refine xx_aload_n dX9_isEntry_48 rfl ?_
    refine xx_iconst (v := 0) dX9_isEntry_49 (by decide) ?_
    refine xx_iload_n dX9_isEntry_50 rfl ?_
    refine xx_iload_n dX9_isEntry_51 rfl ?_
    refine xx_iload_n dX9_isEntry_52 rfl ?_
    refine xx_callV (N := mX9_solve) (vs := [.int 0, .int (nI S), .int (nI U), .int (nI w9)]) (b := b) (rest := []) (d2 := 5) (c2 := 0) (s2 := 0) (c3 := 0) (s3 := 0) dX9_isEntry_53 wm_X9_214 wi_X9_solve wv_X9_solve (k := 9) rfl (by decide) hbs1 nX9_solve ⟨pX9_solve, Nat.le_of_ble_eq_true rfl, by decide, Nat.le_of_ble_eq_true rfl, by decide, by decide⟩ (c_X9_solve (p9 := 0) (S := U) (U := S) (to9 := w9) hbs1 ns1 hg hP1 (by decide) hcs1 hos1 hU hS hc.symm (by omega) (by omega) (by omega)) (fun v9 Ea2 hC => ?_) (fun E9 B9 hC => by obtain ⟨_, _, _, _, ⟨_, _, _, ⟨_, h, _⟩ | ⟨_, h⟩⟩, _⟩ := hC <;> cases h)
    obtain ⟨za2, ⟨ta2, hba2⟩, ⟨ga2, hca2⟩, ⟨gb2, hoa2⟩, ⟨Na2, hNa2, fa2, ⟨qa2, hv9, wa2, ka2, kz2⟩ | ⟨qa2, hv9⟩⟩, oa2⟩ := hC
    · cases hv9
      refine xx_cst (st2 := [.int 1]) rfl ?_
      refine xx_if_ne (tgt := 61) dX9_isEntry_56 (by decide) (fun j56 => ?_) (fun h => absurd h (by decide))
      refine xx_aload_n dX9_isEntry_61 rfl ?_
      refine xx_bipush (v := 29) dX9_isEntry_62 (by decide) ?_
      refine xx_iload_n dX9_isEntry_64 rfl ?_
      refine xx_bipush (v := 12) dX9_isEntry_65 (by decide) ?_
      refine xx_iadd dX9_isEntry_67 ?_
      refine xx_eqi (y := nI (w9 + 12)) (nI_add w9 12) ?_
      refine xx_callV (N := mX9_copy) (vs := [.int 29, .int (nI (w9 + 12))]) (b := b) (rest := []) (d2 := 0) (c2 := 0) (s2 := 0) (c3 := 0) (s3 := 0) dX9_isEntry_68 wm_X9_98 wi_X9_copy wv_X9_copy (k := 9) rfl (by decide) hba2 nX9_copy ⟨pX9_copy, Nat.le_of_ble_eq_true rfl, by decide, Nat.le_of_ble_eq_true rfl, by decide, by decide⟩ (w_X9_copy hba2 hNa2 (x := 29) (a := w9 + 12) (by omega) (by omega) (by omega)) (fun v9 Eq21 hC => ?_) (fun E9 B9 hC => absurd hC.1 (by simp))
      obtain ⟨hv9, zq21, ⟨Nq21, hNq21, vq21, fq21⟩, oq21⟩ := hC
      cases hv9
      refine xx_cst (st2 := []) rfl ?_
      have hbq21 := (oq21 b (by omega) (by omega) (by omega) (by omega) (by omega)).trans hba2
      obtain ⟨h9, s1, s2, s3⟩ := hNq21.sn
      refine xx_aload_n dX9_isEntry_71 rfl ?_
      refine xx_get xx_c9 dX9_isEntry_72 wf_X9_17 (j := 3) (by decide) hbq21 rfl ?_
      refine xx_iload_n dX9_isEntry_75 rfl ?_
      refine xx_bipush (v := 12) dX9_isEntry_76 (by decide) ?_
      refine xx_iadd dX9_isEntry_78 ?_
      refine xx_eqi (y := nI (w9 + 12)) (nI_add w9 12) ?_
      refine xx_iconst (v := 1) dX9_isEntry_79 (by decide) ?_
      refine xx_iast dX9_isEntry_80 s1 (vp_in_nI (by omega) (by decide)) (xx_gu fun Es2 zs2 hs2 os2 => ?_)
      rw [nI_clamp (by omega)] at hs2
      have ns2 := s3 Es2 (((Na2 29).natAbs : Nat) : Int) (w9 + 12) (by omega) (by rw [vq21]; exact Int.natAbs_natCast _) (by rw [yi_ab, if_neg kz2]; exact hs2) (fun q hq => os2 q hq)
      have hbs2 := (os2 b (by omega)).trans hbq21
      have fs2 : ∀ q, q ≠ w9 + 12 → yy_un Nq21 (w9 + 12) (((Na2 29).natAbs : Nat) : Int) q = Na2 q := fun q hq => (yy_un_n hq).trans (fq21 q hq)
      have ps2 : ∀ q, q ≠ b + 1 → q ≠ b + 2 → q ≠ b + 3 → q ≠ b + 17 → q ≠ b + 18 → Es2.2 q = Ea2.2 q := fun q a1 a2 a3 a4 a5 => (os2 q a3).trans (oq21 q a1 a2 a3 a4 a5)
      have pz2 : ∀ q, q ≠ b → q ≠ b + 1 → q ≠ b + 2 → q ≠ b + 3 → q ≠ b + 17 → q ≠ b + 18 → q ≠ b + 19 → q ≠ b + 20 → Es2.2 q = A.2 q := fun q a0 a1 a2 a3 a4 a5 a6 a7 => (ps2 q a1 a2 a3 a4 a5).trans ((oa2 q a0 a1 a2 a3 a4 a5 a6 a7).trans (pz1 q a0 a1 a2 a3 a4 a5 a6 a7))
      have hcs2 := (ps2 (b + 19) (by omega) (by omega) (by omega) (by omega) (by omega)).trans hca2
      have hos2 := (ps2 (b + 20) (by omega) (by omega) (by omega) (by omega) (by omega)).trans hoa2
      have hP2 := hP.to (pz2 _ (by omega) (by omega) (by omega) (by omega) (by omega) (by omega) (by omega) (by omega)) (pz2 _ (by omega) (by omega) (by omega) (by omega) (by omega) (by omega) (by omega) (by omega)) (pz2 _ (by omega) (by omega) (by omega) (by omega) (by omega) (by omega) (by omega) (by omega))
      obtain ⟨NN, hNN⟩ : ∃ F : Nat → Int, F = yy_un Nq21 (w9 + 12) (((Na2 29).natAbs : Nat) : Int) := ⟨_, rfl⟩
      rw [← hNN] at ns2
      have fNN : ∀ q, q ≠ w9 + 12 → NN q = Na2 q := by rw [hNN]; exact fs2
      have pl : xx_pl NN w9 (yn_X W le S U) (yn_tt W le S U) := by
        refine ⟨fun p hp k hk => ?_, fun p hp => ?_⟩
        · rcases (show p = 0 ∨ p = 1 by omega) with y | y
          · subst y
            rw [fNN _ (by omega), show w9 + 6 * 0 + k = w9 + k by omega, wa2 k hk]
            rfl
          · subst y
            rw [fNN _ (by omega), fa2 _ (by omega) (by omega) (by omega) (by omega) (by omega) (by omega) (by omega), fs1 _ (by omega), show w9 + 6 * 1 + k = w9 + 6 + k by omega, wa1 k hk]
            rfl
        · rcases (show p = 0 ∨ p = 1 by omega) with y | y
          · subst y
            rw [show w9 + 12 + 0 = w9 + 12 by omega, hNN, yy_un_s, ka2, yi_tot (by omega) hc.symm qa2]
            rfl
          · subst y
            rw [show w9 + 12 + 1 = w9 + 13 by omega, fNN _ (by omega), fa2 _ (by omega) (by omega) (by omega) (by omega) (by omega) (by omega) (by omega), yy_un_s, ka1, yi_tot (by omega) hc qa1]
            rfl
      have fz2 : ∀ q, 14 ≤ q → q ≠ 19 → q ≠ 28 → q ≠ 29 → (q < 31 ∨ 38 ≤ q) → (q < 240 ∨ 296 ≤ q) → (q < w9 ∨ w9 + 14 ≤ q) → NN q = N q := fun q a1 a2 a3 a4 a5 a6 a7 => (fNN q (by omega)).trans ((fa2 q a1 a2 a3 a4 a5 a6 (by omega)).trans ((fs1 q (by omega)).trans (fa1 q a1 a2 a3 a4 a5 a6 (by omega))))
      have c0 : 1 ≤ yy_cn m n 0 := hg.1
      have c1 : 1 ≤ yy_cn m n 1 := hg.2.2.1
      refine xx_aload_n dX9_isEntry_81 rfl ?_
      refine xx_iload_n dX9_isEntry_82 rfl ?_
      refine xx_iconst (v := 0) dX9_isEntry_83 (by decide) ?_
      refine xx_callV (N := mX9_best) (vs := [.int (nI w9), .int 0]) (b := b) (rest := []) (d2 := 4) (c2 := 0) (s2 := 0) (c3 := 0) (s3 := 0) dX9_isEntry_84 wm_X9_196 wi_X9_best wv_X9_best (k := 9) rfl (by decide) hbs2 nX9_best ⟨pX9_best, Nat.le_of_ble_eq_true rfl, by decide, Nat.le_of_ble_eq_true rfl, by decide, by decide⟩ (c_X9_best (p := 0) (w := w9) hbs2 hP2 hm hn (by omega) (by omega) pl hXb ns2 (by decide) c0) (fun v9 Et1 hC => ?_) (fun E9 B9 hC => absurd hC.1 (by simp))
      obtain ⟨hv9, zt1, ⟨Nt1, nt1, _, ft1⟩, ot1⟩ := hC
      cases hv9
      refine xx_cst (st2 := [.int (nI (ye_b (ye_v m n W (yn_X W le S U) 0) (yy_cn m n 0 - 1)))]) rfl ?_
      have hbt1 := (ot1 b (by omega) (by omega) (by omega) (by omega) (by omega)).trans hbs2
      have eb1 := ye_b64 (m := m) (n := n) (p := 0) (V := ye_v m n W (yn_X W le S U) 0) hm hn c0
      refine xx_iload_n dX9_isEntry_87 rfl ?_
      refine xx_iand dX9_isEntry_88 ?_
      refine xx_iload_n dX9_isEntry_89 rfl ?_
      refine xx_icmp_ne (tgt := 109) dX9_isEntry_90 (by decide) (fun j90 => ?_) (fun j90 => ?_)
      · refine xx_iconst (v := 0) dX9_isEntry_109 (by decide) ?_
        refine xx_zret dX9_isEntry_110 rfl rfl ⟨by omega, ⟨ta2, hbt1⟩, ⟨_, (ot1 _ (by omega) (by omega) (by omega) (by omega) (by omega)).trans hcs2⟩, ⟨_, (ot1 _ (by omega) (by omega) (by omega) (by omega) (by omega)).trans hos2⟩, ⟨Nt1, nt1, fun q a1 a2 a3 a4 a5 a6 a7 a8 a9 => (ft1 q (by omega) (by omega) a6 a3 a4).trans (fz2 q a1 a2 a5 a6 a7 a8 (by omega)), Or.inr ⟨fun q => j90 ((yn_and _ eb1 S (by omega)).mpr (((h0.2 qa1 x0).mp q.1))), rfl⟩⟩, fun q a0 a1 a2 a3 a4 a5 a6 a7 => (ot1 q a1 a2 a3 a4 a5).trans (pz2 q a0 a1 a2 a3 a4 a5 a6 a7)⟩
      · refine xx_aload_n dX9_isEntry_93 rfl ?_
        refine xx_iload_n dX9_isEntry_94 rfl ?_
        refine xx_iconst (v := 1) dX9_isEntry_95 (by decide) ?_
        refine xx_callV (N := mX9_best) (vs := [.int (nI w9), .int 1]) (b := b) (rest := []) (d2 := 4) (c2 := 0) (s2 := 0) (c3 := 0) (s3 := 0) dX9_isEntry_96 wm_X9_196 wi_X9_best wv_X9_best (k := 9) rfl (by decide) hbt1 nX9_best ⟨pX9_best, Nat.le_of_ble_eq_true rfl, by decide, Nat.le_of_ble_eq_true rfl, by decide, by decide⟩ (c_X9_best (p := 1) (w := w9) hbt1 (hP2.to (ot1 _ (by omega) (by omega) (by omega) (by omega) (by omega)) (ot1 _ (by omega) (by omega) (by omega) (by omega) (by omega)) (ot1 _ (by omega) (by omega) (by omega) (by omega) (by omega))) hm hn (by omega) (by omega) (pl.to (fun r a1 a2 => ft1 r (by omega) (by omega) (by omega) (by omega) (by omega))) hXb nt1 (by decide) c1) (fun v9 Et2 hC => ?_) (fun E9 B9 hC => absurd hC.1 (by simp))
        obtain ⟨hv9, zt2, ⟨Nt2, nt2, _, ft2⟩, ot2⟩ := hC
        cases hv9
        refine xx_cst (st2 := [.int (nI (ye_b (ye_v m n W (yn_X W le S U) 1) (yy_cn m n 1 - 1)))]) rfl ?_
        have hbt2 := (ot2 b (by omega) (by omega) (by omega) (by omega) (by omega)).trans hbt1
        have eb2 := ye_b64 (m := m) (n := n) (p := 1) (V := ye_v m n W (yn_X W le S U) 1) hm hn c1
        refine xx_iload_n dX9_isEntry_99 rfl ?_
        refine xx_iand dX9_isEntry_100 ?_
        refine xx_iload_n dX9_isEntry_101 rfl ?_
        refine xx_icmp_ne (tgt := 109) dX9_isEntry_102 (by decide) (fun j102 => ?_) (fun j102 => ?_)
        · refine xx_iconst (v := 0) dX9_isEntry_109 (by decide) ?_
          refine xx_zret dX9_isEntry_110 rfl rfl ⟨by omega, ⟨ta2, hbt2⟩, ⟨_, (ot2 _ (by omega) (by omega) (by omega) (by omega) (by omega)).trans ((ot1 _ (by omega) (by omega) (by omega) (by omega) (by omega)).trans hcs2)⟩, ⟨_, (ot2 _ (by omega) (by omega) (by omega) (by omega) (by omega)).trans ((ot1 _ (by omega) (by omega) (by omega) (by omega) (by omega)).trans hos2)⟩, ⟨Nt2, nt2, fun q a1 a2 a3 a4 a5 a6 a7 a8 a9 => (ft2 q (by omega) (by omega) a6 a3 a4).trans ((ft1 q (by omega) (by omega) a6 a3 a4).trans (fz2 q a1 a2 a5 a6 a7 a8 (by omega))), Or.inr ⟨fun q => j102 ((yn_and _ eb2 U (by omega)).mpr ((h1.2 qa2 x1).mp q.2)), rfl⟩⟩, fun q a0 a1 a2 a3 a4 a5 a6 a7 => (ot2 q a1 a2 a3 a4 a5).trans ((ot1 q a1 a2 a3 a4 a5).trans (pz2 q a0 a1 a2 a3 a4 a5 a6 a7))⟩
        · refine xx_iconst (v := 1) dX9_isEntry_105 (by decide) ?_
          refine xx_goto (tgt := 110) dX9_isEntry_106 (by decide) ?_
          refine xx_zret dX9_isEntry_110 rfl rfl ⟨by omega, ⟨ta2, hbt2⟩, ⟨_, (ot2 _ (by omega) (by omega) (by omega) (by omega) (by omega)).trans ((ot1 _ (by omega) (by omega) (by omega) (by omega) (by omega)).trans hcs2)⟩, ⟨_, (ot2 _ (by omega) (by omega) (by omega) (by omega) (by omega)).trans ((ot1 _ (by omega) (by omega) (by omega) (by omega) (by omega)).trans hos2)⟩, ⟨Nt2, nt2, fun q a1 a2 a3 a4 a5 a6 a7 a8 a9 => (ft2 q (by omega) (by omega) a6 a3 a4).trans ((ft1 q (by omega) (by omega) a6 a3 a4).trans (fz2 q a1 a2 a5 a6 a7 a8 (by omega))), Or.inl ⟨⟨(h0.2 qa1 x0).mpr ((yn_and _ eb1 S (by omega)).mp j90), (h1.2 qa2 x1).mpr ((yn_and _ eb2 U (by omega)).mp j102)⟩, rfl, ?_⟩⟩, fun q a0 a1 a2 a3 a4 a5 a6 a7 => (ot2 q a1 a2 a3 a4 a5).trans ((ot1 q a1 a2 a3 a4 a5).trans (pz2 q a0 a1 a2 a3 a4 a5 a6 a7))⟩
          rw [← hw9]
          exact pl.to (fun r a1 a2 => (ft2 r (by omega) (by omega) (by omega) (by omega) (by omega)).trans (ft1 r (by omega) (by omega) (by omega) (by omega) (by omega)))
    · cases hv9
      refine xx_cst (st2 := [.int 0]) rfl ?_
      refine xx_if_ne (tgt := 61) dX9_isEntry_56 (by decide) (fun h => absurd rfl h) (fun j56 => ?_)
      refine xx_iconst (v := 0) dX9_isEntry_59 (by decide) ?_
      refine xx_zret dX9_isEntry_60 rfl rfl ⟨by omega, ⟨ta2, hba2⟩, ⟨_, hca2⟩, ⟨_, hoa2⟩, ⟨Na2, hNa2, fun q a1 a2 a3 a4 a5 a6 a7 a8 a9 => (fa2 q a1 a2 a5 a6 a7 a8 (by omega)).trans ((fs1 q (by omega)).trans (fa1 q a1 a2 a5 a6 a7 a8 (by omega))), Or.inr ⟨fun q => qa2 (h1.1 q.2), rfl⟩⟩, fun q a0 a1 a2 a3 a4 a5 a6 a7 => (oa2 q a0 a1 a2 a3 a4 a5 a6 a7).trans (pz1 q a0 a1 a2 a3 a4 a5 a6 a7)⟩
  · cases hv9
    refine xx_cst (st2 := [.int 0]) rfl ?_
    refine xx_if_ne (tgt := 28) dX9_isEntry_23 (by decide) (fun h => absurd rfl h) (fun j23 => ?_)
    refine xx_iconst (v := 0) dX9_isEntry_26 (by decide) ?_
    refine xx_zret dX9_isEntry_27 rfl rfl ⟨by omega, ⟨ta1, hba1⟩, ⟨_, hca1⟩, ⟨_, hoa1⟩, ⟨Na1, hNa1, fun q a1 a2 a3 a4 a5 a6 a7 a8 a9 => fa1 q a1 a2 a5 a6 a7 a8 (by omega), Or.inr ⟨fun q => qa1 (h0.1 q.1), rfl⟩⟩, oa1⟩
