/-! ===== the reference's run, whole ===== -/
theorem xx_inn1 {x : Int32} {k : Nat} (hk : k + 1 < 2 ^ 31) (h : yy_in x (k + 1)) : xx_inn x 0 (nI k) = 1 := by
  obtain ⟨v, hv, e⟩ := h
  unfold xx_inn
  rw [e, if_neg (nI_pos (by omega)), if_neg (nI_nlt (by omega) (by omega))]
theorem xx_inn0 {x : Int32} {k : Nat} (hk : k + 1 < 2 ^ 31) (h : ¬ yy_in x (k + 1)) : xx_inn x 0 (nI k) = 0 := by
  unfold xx_inn
  by_cases z : x < 0
  · rw [if_pos z]
  · rw [if_neg z]
    by_cases y : nI k < x
    · rw [if_pos y]
    · exact absurd (yy_in_of2 hk z (Int32.not_lt.mp y)) h
/-- what the path's arrays of the reference tell of a run -/
def xx_rt2 (B : xx_H) (b : Nat) (ps : Nat → yq_S) (q : Nat) : Prop := ∃ f8 f9 f10, B.2 (b + 8) = xx_i 1000 f8 ∧ B.2 (b + 9) = xx_i 1000 f9 ∧ B.2 (b + 10) = xx_i 1000 f10 ∧ ∀ j, j < q → f8 j = nI (ps j).2.2 ∧ f9 j = nI (ps (j + 1)).2.2 ∧ f10 j = nI (ps j).2.1
/-- both players' weights of a state -/
def yw_w (m n : Nat) (a : Nat → Nat → Nat → Int) (s : yq_S) (p k : Nat) : Int := yw_x m p (s.1 p) (yh_T (yy_rw m n p) (a p) (s.1 p)) (m + n) (yy_rw m n p) k
def yw_s (m n : Nat) (a : Nat → Nat → Nat → Int) (s : yq_S) (p : Nat) : Int := yw_t m p (s.1 p) (yh_T (yy_rw m n p) (a p) (s.1 p)) (m + n) (yy_rw m n p)
theorem yq_lf_put {m n : Nat} {a : Nat → Nat → Nat → Int} (g : yq_g m n a) {s : yq_S} (h : yq_ok m n a s) : ∀ t, t < 2 → yq_lf m n a t ((yq_st m n a s).1 t) := by
  intro t ht
  obtain ⟨r, e, hr, es⟩ := yq_row g h
  rw [es]
  obtain ⟨h1, h2, h3, h4⟩ := h
  show yq_lf m n a t (if t = s.2.1 then yy_ud (s.1 t) r s.2.2 else s.1 t)
  by_cases z : t = s.2.1
  · rw [if_pos z]
    subst z
    refine ⟨yh_lf_step (g.1 _ h1) (h2 _ h1).1 e, fun i hi => ?_⟩
    by_cases y : i = r
    · rw [y, yy_ud_s]; exact h3
    · rw [yy_ud_n y]; exact (h2 _ h1).2 i hi
  · rw [if_neg z]; exact h2 t ht
set_option maxRecDepth 100000 in
theorem c_X9_run {G : xx_G} {l : Launch} {A : xx_H} {b : Nat} {th hr st hl en tu : Value} {m n : Nat} {N : Nat → Int} {W : Nat → Nat → Nat → Int} {le : Nat → Int} {mu : Nat → Nat} {x : Int32} (hb : A.2 b = xx_o 9 (xx_mf b th (.int (nI m)) (.int (nI n)) hr st hl en tu)) (hN : xx_rw A b N) (hP : xx_rp A b m n W le mu) (hbs : ∃ f, A.2 (b + 12) = xx_i 12 f) (hpt : xx_rt2 A b (fun _ => (fun _ _ => 0, 0, 0)) 0) (hg : yg_ok m n W le) : xx_X G l mX9_run 6 0 0 0 (lv_args 0 [.ref b, .int x]) [] A (fun z B => (∃ lb q, lb < m + n ∧ x = nI lb ∧ yg_q m n W le lb q ∧ z = .inl (some (.int (nI (q + 1)))) ∧ B.1 = A.1 ∧ B.2 b = xx_o 9 (xx_mf b (.int 0) (.int (nI m)) (.int (nI n)) (.int (nI lb)) (.int (nI (q + 1))) hl en tu) ∧ (∃ f, B.2 (b + 12) = xx_i 12 f) ∧ xx_rt2 B b (yg_p m n W le lb) (q + 1) ∧ (∃ N2, xx_rw B b N2 ∧ (∀ p, p < 2 → (∀ j, j < 6 → N2 (300 + 6 * p + j) = yw_w m n (yg_a m n W le) (yg_p m n W le lb (q + 1)) p j) ∧ N2 (312 + p) = yw_s m n (yg_a m n W le) (yg_p m n W le lb (q + 1)) p) ∧ ∀ q, 314 ≤ q ∨ (5 ≤ q ∧ q ≤ 17) → N2 q = N q) ∧ (∀ q, q ≠ b → q ≠ b + 1 → q ≠ b + 2 → q ≠ b + 3 → q ≠ b + 8 → q ≠ b + 9 → q ≠ b + 10 → q ≠ b + 12 → q ≠ b + 17 → q ≠ b + 18 → B.2 q = A.2 q)) ∨ (¬ yy_in x (m + n) ∧ z = .inl (some (.int 0)) ∧ B.1 = A.1 ∧ B.2 b = xx_o 9 (xx_mf b (.int 2) (.int (nI m)) (.int (nI n)) hr st hl en tu) ∧ ∀ q, q ≠ b → B.2 q = A.2 q)) := by
  have hm1 := hg.1
  have hm := hg.2.1
  have hn1 := hg.2.2.1
  have hn := hg.2.2.2.1
  obtain ⟨fb0, hfb0⟩ := hbs
  obtain ⟨g8, g9, g10, p8, p9, p10, _⟩ := hpt
  by_cases hx : yy_in x (m + n)
  · obtain ⟨lb, hlb, ex⟩ := hx
    subst ex
    obtain ⟨q, hq9⟩ := yg_run (label := lb) hg hlb
    have hq : yg_q m n W le lb q := hq9
    have hin : xx_inn (nI lb) 0 (nI (m + n - 1)) = 1 := xx_inn1 (by omega) ⟨lb, by omega, rfl⟩
    refine xx_clv (lv2 := [(0, .ref b), (1, .int (nI lb))]) rfl ?_
    refine xx_aload_n dX9_run_0 rfl ?_
    refine xx_aload_n dX9_run_1 rfl ?_
    refine xx_get xx_c9 dX9_run_2 wf_X9_120 (j := 4) (by decide) hb rfl ?_
    refine xx_if_ne (tgt := 12) dX9_run_5 (by decide) (fun j5 => ?_) (fun h => absurd h (nI_ne0 (n := m) (by omega) (by omega)))
    refine xx_iload_n dX9_run_12 rfl ?_
    refine xx_iconst (v := 0) dX9_run_13 (by decide) ?_
    refine xx_aload_n dX9_run_14 rfl ?_
    refine xx_get xx_c9 dX9_run_15 wf_X9_120 (j := 4) (by decide) hb rfl ?_
    refine xx_aload_n dX9_run_18 rfl ?_
    refine xx_get xx_c9 dX9_run_19 wf_X9_123 (j := 5) (by decide) hb rfl ?_
    refine xx_iadd dX9_run_22 ?_
    refine xx_eqi (y := nI (m + n)) (nI_add m n) ?_
    refine xx_iconst (v := 1) dX9_run_23 (by decide) ?_
    refine xx_isub dX9_run_24 ?_
    refine xx_eqi (y := nI ((m + n) - 1)) (pk_sub (a := m + n) (b := 1) (by omega)) ?_
    refine xx_callS (N := mX9_in) (vs := [.int (nI lb), .int 0, .int (nI ((m + n) - 1))]) (rest := [.ref b]) (d2 := 0) (c2 := 0) (s2 := 0) (c3 := 0) (s3 := 0) dX9_run_25 wm_X9_116 ws_X9_in wz_X9 (by decide) nX9_in ⟨pX9_in, Nat.le_of_ble_eq_true rfl, by decide, Nat.le_of_ble_eq_true rfl, by decide, by decide⟩ c_X9_in (fun v9 B9 hC => ?_) (fun E9 B9 hC => absurd hC.1 (by simp))
    obtain ⟨hv9, e9⟩ := hC
    cases hv9
    rw [e9]
    refine xx_cst (st2 := [.int 1, .ref b]) (by rw [hin]; rfl) ?_
    refine xx_if_ne (tgt := 35) dX9_run_28 (by decide) (fun j28 => ?_) (fun h => absurd h (by decide))
    refine xx_iconst (v := 0) dX9_run_35 (by decide) ?_
    refine xx_put xx_c9 dX9_run_36 wf_X9_84 (j := 0) (by decide) rfl rfl rfl hb (Nat.le_of_ble_eq_true rfl) (xx_gu fun Eq1 zq1 hbq1 oq1 => ?_)
    have hbq1 : Eq1.2 b = xx_o 9 (xx_mf b (.int 0) (.int (nI m)) (.int (nI n)) hr st hl en tu) := hbq1
    have hNq1 : xx_rw Eq1 b N := hN.to (oq1 _ (by omega)) (oq1 _ (by omega)) (oq1 _ (by omega)) (oq1 _ (by omega)) (oq1 _ (by omega))
    refine xx_aload_n dX9_run_39 rfl ?_
    refine xx_get xx_c9 dX9_run_40 wf_X9_84 (j := 0) (by decide) hbq1 rfl ?_
    refine xx_if_le (tgt := 48) dX9_run_43 (by decide) (fun j43 => ?_) (fun h => absurd (by decide) h)
    refine xx_aload_n dX9_run_48 rfl ?_
    refine xx_callV (N := mX9_beginTables) (vs := []) (b := b) (rest := []) (d2 := 2) (c2 := 0) (s2 := 0) (c3 := 0) (s3 := 0) dX9_run_49 wm_X9_170 wi_X9_beginTables wv_X9_beginTables (k := 9) rfl (by decide) hbq1 nX9_beginTables ⟨pX9_beginTables, Nat.le_of_ble_eq_true rfl, by decide, Nat.le_of_ble_eq_true rfl, by decide, by decide⟩ (c_X9_beginTables hbq1 hNq1 (hP.to (oq1 _ (by omega)) (oq1 _ (by omega)) (oq1 _ (by omega))) hm hn ((oq1 _ (by omega)).trans hfb0)) (fun v9 Eqt hC => ?_) (fun E9 B9 hC => absurd hC.1 (by simp))
    obtain ⟨hv9, zqt, ⟨Nqt, fbt, hNqt, hfbt, hTt, hkt⟩, oqt⟩ := hC
    cases hv9
    refine xx_cst (st2 := []) rfl ?_
    have hbqt := (oqt b (by omega) (by omega) (by omega) (by omega) (by omega) (by omega)).trans hbq1
    refine xx_aload_n dX9_run_52 rfl ?_
    refine xx_iconst (v := 0) dX9_run_53 (by decide) ?_
    refine xx_put xx_c9 dX9_run_54 wf_X9_129 (j := 11) (by decide) rfl rfl rfl hbqt (Nat.le_of_ble_eq_true rfl) (xx_gu fun Eq2 zq2 hbq2 oq2 => ?_)
    have hbq2 : Eq2.2 b = xx_o 9 (xx_mf b (.int 0) (.int (nI m)) (.int (nI n)) hr (.int (nI 0)) hl en tu) := hbq2
    have hNq2 : xx_rw Eq2 b Nqt := hNqt.to (oq2 _ (by omega)) (oq2 _ (by omega)) (oq2 _ (by omega)) (oq2 _ (by omega)) (oq2 _ (by omega))
    refine xx_iload_n dX9_run_57 rfl ?_
    refine xx_aload_n dX9_run_58 rfl ?_
    refine xx_get xx_c9 dX9_run_59 wf_X9_120 (j := 4) (by decide) hbq2 rfl ?_
    refine xx_icmp_ge (tgt := 69) dX9_run_62 (by decide) (fun j62 => ?_) (fun j62 => ?_)
    · have j62 : m ≤ lb := (nI_leI (a := m) (b := lb) (by omega) (by omega)).mp j62
      refine xx_iconst (v := 1) dX9_run_69 (by decide) ?_
      refine xx_istore_n dX9_run_70 (by decide) ?_
      refine xx_clv (lv2 := [(0, .ref b), (1, .int (nI lb)), (2, .int 1)]) rfl ?_
      refine xx_iload_n dX9_run_71 rfl ?_
      refine xx_istore_n dX9_run_72 (by decide) ?_
      refine xx_clv (lv2 := [(0, .ref b), (1, .int (nI lb)), (2, .int 1), (3, .int (nI lb))]) rfl ?_
      refine xx_iconst (v := 1) dX9_run_73 (by decide) ?_
      refine xx_istore dX9_run_74 (by decide) ?_
      refine xx_clv (lv2 := [(0, .ref b), (1, .int (nI lb)), (2, .int 1), (3, .int (nI lb)), (4, .int 1)]) rfl ?_
      refine xx_less [0, 1, 2, 3, 4] ?_
      have t0 : (yg_p m n W le lb 0).2.1 = 1 := if_neg (by omega)
      refine xx_clv (lv2 := [(0, .ref b), (1, .int (nI lb)), (2, .int (nI (yg_p m n W le lb 0).2.1)), (3, .int (nI (yg_p m n W le lb 0).2.2)), (4, .int (if q + 1 = 0 then 0 else 1))]) (by rw [t0, if_neg (by omega)]; rfl) ?_
      refine xx_room (d2 := 5) (c2 := 0) (s2 := 0) (by decide) (by decide) (by decide) ?_
      have fr0 : ∀ q, q ≠ b → q ≠ b + 1 → q ≠ b + 2 → q ≠ b + 3 → q ≠ b + 12 → q ≠ b + 17 → q ≠ b + 18 → Eq2.2 q = A.2 q := fun q a0 a1 a2 a3 a12 a17 a18 => (oq2 q a0).trans ((oqt q a1 a2 a3 a12 a17 a18).trans (oq1 q a0))
      refine l_X9_run (A := Eq2) (N := Nqt) (ps := yg_p m n W le lb) (q := q) hg (fun i => rfl) (yg_all hg hlb hq) hq.1 hq.2.1 hq.2.2 hlb (fun F Nf fb f8 f9 f10 y1 y2 y3 y4 y5 y6 y7 y8 y9 ya yb => ?_) (q + 1) 0 (by omega) Eq2 Nqt fbt g8 g9 g10 rfl hbq2 hNq2 ((oq2 _ (by omega)).trans hfbt) (fun t h9 => ?_) ((fr0 _ (by omega) (by omega) (by omega) (by omega) (by omega) (by omega) (by omega)).trans p8) ((fr0 _ (by omega) (by omega) (by omega) (by omega) (by omega) (by omega) (by omega)).trans p9) ((fr0 _ (by omega) (by omega) (by omega) (by omega) (by omega) (by omega) (by omega)).trans p10) (fun j hj => absurd hj (Nat.not_lt_zero j)) (fun q _ => rfl) (fun q _ _ _ _ _ _ _ _ _ _ => rfl)
      rotate_left
      · obtain ⟨i1, i2⟩ := yh_init ((yg_g hg).1 t h9)
        obtain ⟨j1, j2⟩ := hTt t h9
        exact ⟨⟨fun k hk c hc => (j1.1 k hk c hc).trans (i1 k hk c).symm, j1.2.trans i2.symm⟩, j2⟩
      have ok := yg_all hg hlb hq q (Nat.le_refl _)
      have lfs := yq_lf_put (yg_g hg) ok
      have bds : ∀ t, t < 2 → ∀ r, r < yy_rw m n t → (yh_T (yy_rw m n t) (yg_a m n W le t) ((yg_p m n W le lb (q + 1)).1 t) r (m + n)).natAbs < 2 ^ 200 := fun t ht r hr => (yh_bd (yy_rw6 hm hn) (yg_b hg t ht) (fun i hi => Nat.le_of_lt ((lfs t ht).2 i hi)) (Nat.le_refl _)).1
      refine xx_aload_n dX9_run_153 rfl ?_
      refine xx_iload_n dX9_run_154 rfl ?_
      refine xx_put xx_c9 dX9_run_155 wf_X9_32 (j := 10) (by decide) rfl rfl rfl y2 (Nat.le_of_ble_eq_true rfl) (xx_gu fun Eqa1 zqa1 hbqa1 oqa1 => ?_)
      have hbqa1 : Eqa1.2 b = xx_o 9 (xx_mf b (.int 0) (.int (nI m)) (.int (nI n)) (.int (nI lb)) (.int (nI (q + 1))) hl en tu) := hbqa1
      have hNqa1 : xx_rw Eqa1 b Nf := y3.to (oqa1 _ (by omega)) (oqa1 _ (by omega)) (oqa1 _ (by omega)) (oqa1 _ (by omega)) (oqa1 _ (by omega))
      refine xx_iconst (v := 0) dX9_run_158 (by decide) ?_
      refine xx_istore dX9_run_159 (by decide) ?_
      refine xx_clv (lv2 := [(0, .ref b), (1, .int (nI lb)), (5, .int 0)]) rfl ?_
      refine xx_less [0, 5] ?_
      refine xx_clv (lv2 := [(0, .ref b), (5, .int (nI 0))]) rfl ?_
      refine l_X9_rz (A := Eqa1) (N := Nf) hbqa1 (fun G1 Ng g1 g2 g3 g4 g5 => ?_) 12 0 (by omega) Eqa1 Nf rfl hNqa1 (fun j hj => absurd hj (Nat.not_lt_zero j)) (fun q _ => rfl) (fun q _ _ _ _ _ => rfl)
      have hbg := (g5 b (by omega) (by omega) (by omega) (by omega) (by omega)).trans hbqa1
      refine xx_iconst (v := 0) dX9_run_185 (by decide) ?_
      refine xx_istore dX9_run_186 (by decide) ?_
      refine xx_clv (lv2 := [(0, .ref b), (5, .int 0)]) rfl ?_
      refine xx_iload dX9_run_188 rfl ?_
      refine xx_iconst (v := 2) dX9_run_190 (by decide) ?_
      refine xx_icmp_ge (tgt := 371) dX9_run_191 (by decide) (fun h => absurd h (by decide)) (fun j191 => ?_)
      refine xx_aload_n dX9_run_194 rfl ?_
      refine xx_sipush (v := 312) dX9_run_195 (by decide) ?_
      refine xx_iload dX9_run_198 rfl ?_
      refine xx_iadd dX9_run_200 ?_
      refine xx_eqi (y := 312) (by decide) ?_
      refine xx_lconst (v := 0) dX9_run_201 (by decide) ?_
      refine xx_eql (y := lz 0) (by decide) ?_
      refine xx_callV (N := mX9_set) (vs := [.int 312, .long (lz 0)]) (b := b) (rest := []) (d2 := 0) (c2 := 0) (s2 := 0) (c3 := 0) (s3 := 0) dX9_run_202 wm_X9_80 wi_X9_set wv_X9_set (k := 9) rfl (by decide) hbg nX9_set ⟨pX9_set, Nat.le_of_ble_eq_true rfl, by decide, Nat.le_of_ble_eq_true rfl, by decide, by decide⟩ (w_X9_set hbg g2 (a := 312) (v := 0) (by omega) (by decide) (by decide)) (fun v9 Eqb1 hC => ?_) (fun E9 B9 hC => absurd hC.1 (by simp))
      obtain ⟨hv9, zqb1, ⟨Nqb1, hNqb1, vqb1, fqb1⟩, oqb1⟩ := hC
      cases hv9
      refine xx_cst (st2 := []) rfl ?_
      have hbqb1 := (oqb1 b (by omega) (by omega) (by omega) (by omega) (by omega)).trans hbg
      refine xx_iconst (v := 0) dX9_run_205 (by decide) ?_
      refine xx_istore dX9_run_206 (by decide) ?_
      refine xx_clv (lv2 := [(0, .ref b), (5, .int 0), (6, .int 0)]) rfl ?_
      refine xx_less [0, 5, 6] ?_
      refine xx_clv (lv2 := [(0, .ref b), (5, .int (nI 0)), (6, .int (nI 0))]) rfl ?_
      have fz0 : Eqb1.2 (b + 12) = xx_i 12 fb := (oqb1 _ (by omega) (by omega) (by omega) (by omega) (by omega)).trans ((g5 _ (by omega) (by omega) (by omega) (by omega) (by omega)).trans ((oqa1 _ (by omega)).trans y4))
      refine l_X9_rq (A := Eqb1) (N := Nqb1) (p := 0) (bs := (yg_p m n W le lb (q + 1)).1 0) (T := yh_T (yy_rw m n 0) (yg_a m n W le 0) ((yg_p m n W le lb (q + 1)).1 0)) hbqb1 fz0 (by decide) hm hn (y5 0 (by decide)).2 (fun r hr => ?_) (fun r hr => bds 0 (by decide) r hr) (yq_inj (lfs 0 (by decide))) (lfs 0 (by decide)).2 (fun H0 Nh0 h10 h20 h30 h40 h50 h60 => ?_) (yy_rw m n 0) 0 (by omega) Eqb1 Nqb1 rfl hNqb1 (fun j hj => ?_) ?_ (fun q _ _ => rfl) (fun q _ _ _ _ _ => rfl)
      rotate_left 2
      · show Nqb1 _ = 0; rw [fqb1 _ (by omega)]; exact g3 j (by omega)
      · exact vqb1
      · have := yy_rw6 (t := 0) hm hn; have := yy_tb_b 0; rw [fqb1 _ (by omega), g4 _ (by omega)]; exact (y5 0 (by decide)).1.1 r hr (m + n) (Nat.le_refl _)
      have hbh0 := (h60 b (by omega) (by omega) (by omega) (by omega) (by omega)).trans hbqb1
      refine xx_clv (lv2 := [(0, .ref b), (5, .int 0)]) rfl ?_
      refine xx_iinc (v := 1) dX9_run_365 rfl (by decide) (by decide) ?_
      refine xx_clv (lv2 := [(0, .ref b), (5, .int 1)]) rfl ?_
      refine xx_goto (tgt := 188) dX9_run_368 (by decide) ?_
      refine xx_iload dX9_run_188 rfl ?_
      refine xx_iconst (v := 2) dX9_run_190 (by decide) ?_
      refine xx_icmp_ge (tgt := 371) dX9_run_191 (by decide) (fun h => absurd h (by decide)) (fun j191 => ?_)
      refine xx_aload_n dX9_run_194 rfl ?_
      refine xx_sipush (v := 312) dX9_run_195 (by decide) ?_
      refine xx_iload dX9_run_198 rfl ?_
      refine xx_iadd dX9_run_200 ?_
      refine xx_eqi (y := 313) (by decide) ?_
      refine xx_lconst (v := 0) dX9_run_201 (by decide) ?_
      refine xx_eql (y := lz 0) (by decide) ?_
      refine xx_callV (N := mX9_set) (vs := [.int 313, .long (lz 0)]) (b := b) (rest := []) (d2 := 0) (c2 := 0) (s2 := 0) (c3 := 0) (s3 := 0) dX9_run_202 wm_X9_80 wi_X9_set wv_X9_set (k := 9) rfl (by decide) hbh0 nX9_set ⟨pX9_set, Nat.le_of_ble_eq_true rfl, by decide, Nat.le_of_ble_eq_true rfl, by decide, by decide⟩ (w_X9_set hbh0 h20 (a := 313) (v := 0) (by omega) (by decide) (by decide)) (fun v9 Eqb2 hC => ?_) (fun E9 B9 hC => absurd hC.1 (by simp))
      obtain ⟨hv9, zqb2, ⟨Nqb2, hNqb2, vqb2, fqb2⟩, oqb2⟩ := hC
      cases hv9
      refine xx_cst (st2 := []) rfl ?_
      have hbqb2 := (oqb2 b (by omega) (by omega) (by omega) (by omega) (by omega)).trans hbh0
      refine xx_iconst (v := 0) dX9_run_205 (by decide) ?_
      refine xx_istore dX9_run_206 (by decide) ?_
      refine xx_clv (lv2 := [(0, .ref b), (5, .int 1), (6, .int 0)]) rfl ?_
      refine xx_less [0, 5, 6] ?_
      refine xx_clv (lv2 := [(0, .ref b), (5, .int (nI 1)), (6, .int (nI 0))]) rfl ?_
      have fz1 : Eqb2.2 (b + 12) = xx_i 12 fb := (oqb2 _ (by omega) (by omega) (by omega) (by omega) (by omega)).trans ((h60 _ (by omega) (by omega) (by omega) (by omega) (by omega)).trans fz0)
      refine l_X9_rq (A := Eqb2) (N := Nqb2) (p := 1) (bs := (yg_p m n W le lb (q + 1)).1 1) (T := yh_T (yy_rw m n 1) (yg_a m n W le 1) ((yg_p m n W le lb (q + 1)).1 1)) hbqb2 fz1 (by decide) hm hn (y5 1 (by decide)).2 (fun r hr => ?_) (fun r hr => bds 1 (by decide) r hr) (yq_inj (lfs 1 (by decide))) (lfs 1 (by decide)).2 (fun H1 Nh1 h11 h21 h31 h41 h51 h61 => ?_) (yy_rw m n 1) 0 (by omega) Eqb2 Nqb2 rfl hNqb2 (fun j hj => ?_) ?_ (fun q _ _ => rfl) (fun q _ _ _ _ _ => rfl)
      rotate_left 2
      · show Nqb2 _ = 0; rw [fqb2 _ (by omega), h50 _ (by omega) (by omega), fqb1 _ (by omega)]; have := g3 (6 + j) (by omega); rw [show 300 + (6 + j) = 300 + 6 * 1 + j by omega] at this; exact this
      · exact vqb2
      · have := yy_rw6 (t := 1) hm hn; have := yy_tb_b 1; rw [fqb2 _ (by omega), h50 _ (by omega) (by omega), fqb1 _ (by omega), g4 _ (by omega)]; exact (y5 1 (by decide)).1.1 r hr (m + n) (Nat.le_refl _)
      have hbh1 := (h61 b (by omega) (by omega) (by omega) (by omega) (by omega)).trans hbqb2
      refine xx_clv (lv2 := [(0, .ref b), (5, .int 1)]) rfl ?_
      refine xx_iinc (v := 2) dX9_run_365 rfl (by decide) (by decide) ?_
      refine xx_clv (lv2 := [(0, .ref b), (5, .int 2)]) rfl ?_
      refine xx_goto (tgt := 188) dX9_run_368 (by decide) ?_
      refine xx_iload dX9_run_188 rfl ?_
      refine xx_iconst (v := 2) dX9_run_190 (by decide) ?_
      refine xx_icmp_ge (tgt := 371) dX9_run_191 (by decide) (fun j191 => ?_) (fun h => absurd (by decide) h)
      refine xx_aload_n dX9_run_371 rfl ?_
      refine xx_get xx_c9 dX9_run_372 wf_X9_129 (j := 11) (by decide) hbh1 rfl ?_
      have ff : ∀ q, q ≠ b → q ≠ b + 1 → q ≠ b + 2 → q ≠ b + 3 → q ≠ b + 17 → q ≠ b + 18 → H1.2 q = F.2 q := fun q a0 a1 a2 a3 a4 a5 => (h61 q a1 a2 a3 a4 a5).trans ((oqb2 q a1 a2 a3 a4 a5).trans ((h60 q a1 a2 a3 a4 a5).trans ((oqb1 q a1 a2 a3 a4 a5).trans ((g5 q a1 a2 a3 a4 a5).trans (oqa1 q a0)))))
      refine xx_iret dX9_run_375 rfl (Or.inl ⟨lb, q, hlb, rfl, hq, rfl, by omega, hbh1, ⟨fb, (ff _ (by omega) (by omega) (by omega) (by omega) (by omega) (by omega)).trans y4⟩, ⟨f8, f9, f10, (ff _ (by omega) (by omega) (by omega) (by omega) (by omega) (by omega)).trans y6, (ff _ (by omega) (by omega) (by omega) (by omega) (by omega) (by omega)).trans y7, (ff _ (by omega) (by omega) (by omega) (by omega) (by omega) (by omega)).trans y8, y9⟩, ⟨Nh1, h21, fun p hp => ?_, fun r hr => ?_⟩, fun q a0 a1 a2 a3 a4 a5 a6 a7 a8 a9 => (ff q a0 a1 a2 a3 a8 a9).trans ((yb q a0 a1 a2 a3 a4 a5 a6 a7 a8 a9).trans (fr0 q a0 a1 a2 a3 a7 a8 a9))⟩)
      · rcases (show p = 0 ∨ p = 1 by omega) with z | z
        · subst z
          refine ⟨fun j hj => ?_, ?_⟩
          · rw [h51 _ (by omega) (by omega), fqb2 _ (by omega)]; exact h30 j hj
          · rw [h51 _ (by omega) (by omega), fqb2 _ (by omega)]; exact h40
        · subst z
          exact ⟨h31, h41⟩
      · rw [h51 r (by omega) (by omega), fqb2 r (by omega), h50 r (by omega) (by omega), fqb1 r (by omega), g4 r (by omega), ya r (by omega)]
        exact hkt r (by omega) (by omega) (by omega)
    · have j62 : ¬ m ≤ lb := fun hq9 => j62 ((nI_leI (a := m) (b := lb) (by omega) (by omega)).mpr hq9)
      refine xx_iconst (v := 0) dX9_run_65 (by decide) ?_
      refine xx_goto (tgt := 70) dX9_run_66 (by decide) ?_
      refine xx_istore_n dX9_run_70 (by decide) ?_
      refine xx_clv (lv2 := [(0, .ref b), (1, .int (nI lb)), (2, .int 0)]) rfl ?_
      refine xx_iload_n dX9_run_71 rfl ?_
      refine xx_istore_n dX9_run_72 (by decide) ?_
      refine xx_clv (lv2 := [(0, .ref b), (1, .int (nI lb)), (2, .int 0), (3, .int (nI lb))]) rfl ?_
      refine xx_iconst (v := 1) dX9_run_73 (by decide) ?_
      refine xx_istore dX9_run_74 (by decide) ?_
      refine xx_clv (lv2 := [(0, .ref b), (1, .int (nI lb)), (2, .int 0), (3, .int (nI lb)), (4, .int 1)]) rfl ?_
      refine xx_less [0, 1, 2, 3, 4] ?_
      have t0 : (yg_p m n W le lb 0).2.1 = 0 := if_pos (by omega)
      refine xx_clv (lv2 := [(0, .ref b), (1, .int (nI lb)), (2, .int (nI (yg_p m n W le lb 0).2.1)), (3, .int (nI (yg_p m n W le lb 0).2.2)), (4, .int (if q + 1 = 0 then 0 else 1))]) (by rw [t0, if_neg (by omega)]; rfl) ?_
      refine xx_room (d2 := 5) (c2 := 0) (s2 := 0) (by decide) (by decide) (by decide) ?_
      have fr0 : ∀ q, q ≠ b → q ≠ b + 1 → q ≠ b + 2 → q ≠ b + 3 → q ≠ b + 12 → q ≠ b + 17 → q ≠ b + 18 → Eq2.2 q = A.2 q := fun q a0 a1 a2 a3 a12 a17 a18 => (oq2 q a0).trans ((oqt q a1 a2 a3 a12 a17 a18).trans (oq1 q a0))
      refine l_X9_run (A := Eq2) (N := Nqt) (ps := yg_p m n W le lb) (q := q) hg (fun i => rfl) (yg_all hg hlb hq) hq.1 hq.2.1 hq.2.2 hlb (fun F Nf fb f8 f9 f10 y1 y2 y3 y4 y5 y6 y7 y8 y9 ya yb => ?_) (q + 1) 0 (by omega) Eq2 Nqt fbt g8 g9 g10 rfl hbq2 hNq2 ((oq2 _ (by omega)).trans hfbt) (fun t h9 => ?_) ((fr0 _ (by omega) (by omega) (by omega) (by omega) (by omega) (by omega) (by omega)).trans p8) ((fr0 _ (by omega) (by omega) (by omega) (by omega) (by omega) (by omega) (by omega)).trans p9) ((fr0 _ (by omega) (by omega) (by omega) (by omega) (by omega) (by omega) (by omega)).trans p10) (fun j hj => absurd hj (Nat.not_lt_zero j)) (fun q _ => rfl) (fun q _ _ _ _ _ _ _ _ _ _ => rfl)
      rotate_left
      · obtain ⟨i1, i2⟩ := yh_init ((yg_g hg).1 t h9)
        obtain ⟨j1, j2⟩ := hTt t h9
        exact ⟨⟨fun k hk c hc => (j1.1 k hk c hc).trans (i1 k hk c).symm, j1.2.trans i2.symm⟩, j2⟩
      have ok := yg_all hg hlb hq q (Nat.le_refl _)
      have lfs := yq_lf_put (yg_g hg) ok
      have bds : ∀ t, t < 2 → ∀ r, r < yy_rw m n t → (yh_T (yy_rw m n t) (yg_a m n W le t) ((yg_p m n W le lb (q + 1)).1 t) r (m + n)).natAbs < 2 ^ 200 := fun t ht r hr => (yh_bd (yy_rw6 hm hn) (yg_b hg t ht) (fun i hi => Nat.le_of_lt ((lfs t ht).2 i hi)) (Nat.le_refl _)).1
      refine xx_aload_n dX9_run_153 rfl ?_
      refine xx_iload_n dX9_run_154 rfl ?_
      refine xx_put xx_c9 dX9_run_155 wf_X9_32 (j := 10) (by decide) rfl rfl rfl y2 (Nat.le_of_ble_eq_true rfl) (xx_gu fun Eqa1 zqa1 hbqa1 oqa1 => ?_)
      have hbqa1 : Eqa1.2 b = xx_o 9 (xx_mf b (.int 0) (.int (nI m)) (.int (nI n)) (.int (nI lb)) (.int (nI (q + 1))) hl en tu) := hbqa1
      have hNqa1 : xx_rw Eqa1 b Nf := y3.to (oqa1 _ (by omega)) (oqa1 _ (by omega)) (oqa1 _ (by omega)) (oqa1 _ (by omega)) (oqa1 _ (by omega))
      refine xx_iconst (v := 0) dX9_run_158 (by decide) ?_
      refine xx_istore dX9_run_159 (by decide) ?_
      refine xx_clv (lv2 := [(0, .ref b), (1, .int (nI lb)), (5, .int 0)]) rfl ?_
      refine xx_less [0, 5] ?_
      refine xx_clv (lv2 := [(0, .ref b), (5, .int (nI 0))]) rfl ?_
      refine l_X9_rz (A := Eqa1) (N := Nf) hbqa1 (fun G1 Ng g1 g2 g3 g4 g5 => ?_) 12 0 (by omega) Eqa1 Nf rfl hNqa1 (fun j hj => absurd hj (Nat.not_lt_zero j)) (fun q _ => rfl) (fun q _ _ _ _ _ => rfl)
      have hbg := (g5 b (by omega) (by omega) (by omega) (by omega) (by omega)).trans hbqa1
      refine xx_iconst (v := 0) dX9_run_185 (by decide) ?_
      refine xx_istore dX9_run_186 (by decide) ?_
      refine xx_clv (lv2 := [(0, .ref b), (5, .int 0)]) rfl ?_
      refine xx_iload dX9_run_188 rfl ?_
      refine xx_iconst (v := 2) dX9_run_190 (by decide) ?_
      refine xx_icmp_ge (tgt := 371) dX9_run_191 (by decide) (fun h => absurd h (by decide)) (fun j191 => ?_)
      refine xx_aload_n dX9_run_194 rfl ?_
      refine xx_sipush (v := 312) dX9_run_195 (by decide) ?_
      refine xx_iload dX9_run_198 rfl ?_
      refine xx_iadd dX9_run_200 ?_
      refine xx_eqi (y := 312) (by decide) ?_
      refine xx_lconst (v := 0) dX9_run_201 (by decide) ?_
      refine xx_eql (y := lz 0) (by decide) ?_
      refine xx_callV (N := mX9_set) (vs := [.int 312, .long (lz 0)]) (b := b) (rest := []) (d2 := 0) (c2 := 0) (s2 := 0) (c3 := 0) (s3 := 0) dX9_run_202 wm_X9_80 wi_X9_set wv_X9_set (k := 9) rfl (by decide) hbg nX9_set ⟨pX9_set, Nat.le_of_ble_eq_true rfl, by decide, Nat.le_of_ble_eq_true rfl, by decide, by decide⟩ (w_X9_set hbg g2 (a := 312) (v := 0) (by omega) (by decide) (by decide)) (fun v9 Eqb1 hC => ?_) (fun E9 B9 hC => absurd hC.1 (by simp))
      obtain ⟨hv9, zqb1, ⟨Nqb1, hNqb1, vqb1, fqb1⟩, oqb1⟩ := hC
      cases hv9
      refine xx_cst (st2 := []) rfl ?_
      have hbqb1 := (oqb1 b (by omega) (by omega) (by omega) (by omega) (by omega)).trans hbg
      refine xx_iconst (v := 0) dX9_run_205 (by decide) ?_
      refine xx_istore dX9_run_206 (by decide) ?_
      refine xx_clv (lv2 := [(0, .ref b), (5, .int 0), (6, .int 0)]) rfl ?_
      refine xx_less [0, 5, 6] ?_
      refine xx_clv (lv2 := [(0, .ref b), (5, .int (nI 0)), (6, .int (nI 0))]) rfl ?_
      have fz0 : Eqb1.2 (b + 12) = xx_i 12 fb := (oqb1 _ (by omega) (by omega) (by omega) (by omega) (by omega)).trans ((g5 _ (by omega) (by omega) (by omega) (by omega) (by omega)).trans ((oqa1 _ (by omega)).trans y4))
      refine l_X9_rq (A := Eqb1) (N := Nqb1) (p := 0) (bs := (yg_p m n W le lb (q + 1)).1 0) (T := yh_T (yy_rw m n 0) (yg_a m n W le 0) ((yg_p m n W le lb (q + 1)).1 0)) hbqb1 fz0 (by decide) hm hn (y5 0 (by decide)).2 (fun r hr => ?_) (fun r hr => bds 0 (by decide) r hr) (yq_inj (lfs 0 (by decide))) (lfs 0 (by decide)).2 (fun H0 Nh0 h10 h20 h30 h40 h50 h60 => ?_) (yy_rw m n 0) 0 (by omega) Eqb1 Nqb1 rfl hNqb1 (fun j hj => ?_) ?_ (fun q _ _ => rfl) (fun q _ _ _ _ _ => rfl)
      rotate_left 2
      · show Nqb1 _ = 0; rw [fqb1 _ (by omega)]; exact g3 j (by omega)
      · exact vqb1
      · have := yy_rw6 (t := 0) hm hn; have := yy_tb_b 0; rw [fqb1 _ (by omega), g4 _ (by omega)]; exact (y5 0 (by decide)).1.1 r hr (m + n) (Nat.le_refl _)
      have hbh0 := (h60 b (by omega) (by omega) (by omega) (by omega) (by omega)).trans hbqb1
      refine xx_clv (lv2 := [(0, .ref b), (5, .int 0)]) rfl ?_
      refine xx_iinc (v := 1) dX9_run_365 rfl (by decide) (by decide) ?_
      refine xx_clv (lv2 := [(0, .ref b), (5, .int 1)]) rfl ?_
      refine xx_goto (tgt := 188) dX9_run_368 (by decide) ?_
      refine xx_iload dX9_run_188 rfl ?_
      refine xx_iconst (v := 2) dX9_run_190 (by decide) ?_
      refine xx_icmp_ge (tgt := 371) dX9_run_191 (by decide) (fun h => absurd h (by decide)) (fun j191 => ?_)
      refine xx_aload_n dX9_run_194 rfl ?_
      refine xx_sipush (v := 312) dX9_run_195 (by decide) ?_
      refine xx_iload dX9_run_198 rfl ?_
      refine xx_iadd dX9_run_200 ?_
      refine xx_eqi (y := 313) (by decide) ?_
      refine xx_lconst (v := 0) dX9_run_201 (by decide) ?_
      refine xx_eql (y := lz 0) (by decide) ?_
      refine xx_callV (N := mX9_set) (vs := [.int 313, .long (lz 0)]) (b := b) (rest := []) (d2 := 0) (c2 := 0) (s2 := 0) (c3 := 0) (s3 := 0) dX9_run_202 wm_X9_80 wi_X9_set wv_X9_set (k := 9) rfl (by decide) hbh0 nX9_set ⟨pX9_set, Nat.le_of_ble_eq_true rfl, by decide, Nat.le_of_ble_eq_true rfl, by decide, by decide⟩ (w_X9_set hbh0 h20 (a := 313) (v := 0) (by omega) (by decide) (by decide)) (fun v9 Eqb2 hC => ?_) (fun E9 B9 hC => absurd hC.1 (by simp))
      obtain ⟨hv9, zqb2, ⟨Nqb2, hNqb2, vqb2, fqb2⟩, oqb2⟩ := hC
      cases hv9
      refine xx_cst (st2 := []) rfl ?_
      have hbqb2 := (oqb2 b (by omega) (by omega) (by omega) (by omega) (by omega)).trans hbh0
      refine xx_iconst (v := 0) dX9_run_205 (by decide) ?_
      refine xx_istore dX9_run_206 (by decide) ?_
      refine xx_clv (lv2 := [(0, .ref b), (5, .int 1), (6, .int 0)]) rfl ?_
      refine xx_less [0, 5, 6] ?_
      refine xx_clv (lv2 := [(0, .ref b), (5, .int (nI 1)), (6, .int (nI 0))]) rfl ?_
      have fz1 : Eqb2.2 (b + 12) = xx_i 12 fb := (oqb2 _ (by omega) (by omega) (by omega) (by omega) (by omega)).trans ((h60 _ (by omega) (by omega) (by omega) (by omega) (by omega)).trans fz0)
      refine l_X9_rq (A := Eqb2) (N := Nqb2) (p := 1) (bs := (yg_p m n W le lb (q + 1)).1 1) (T := yh_T (yy_rw m n 1) (yg_a m n W le 1) ((yg_p m n W le lb (q + 1)).1 1)) hbqb2 fz1 (by decide) hm hn (y5 1 (by decide)).2 (fun r hr => ?_) (fun r hr => bds 1 (by decide) r hr) (yq_inj (lfs 1 (by decide))) (lfs 1 (by decide)).2 (fun H1 Nh1 h11 h21 h31 h41 h51 h61 => ?_) (yy_rw m n 1) 0 (by omega) Eqb2 Nqb2 rfl hNqb2 (fun j hj => ?_) ?_ (fun q _ _ => rfl) (fun q _ _ _ _ _ => rfl)
      rotate_left 2
      · show Nqb2 _ = 0; rw [fqb2 _ (by omega), h50 _ (by omega) (by omega), fqb1 _ (by omega)]; have := g3 (6 + j) (by omega); rw [show 300 + (6 + j) = 300 + 6 * 1 + j by omega] at this; exact this
      · exact vqb2
      · have := yy_rw6 (t := 1) hm hn; have := yy_tb_b 1; rw [fqb2 _ (by omega), h50 _ (by omega) (by omega), fqb1 _ (by omega), g4 _ (by omega)]; exact (y5 1 (by decide)).1.1 r hr (m + n) (Nat.le_refl _)
      have hbh1 := (h61 b (by omega) (by omega) (by omega) (by omega) (by omega)).trans hbqb2
      refine xx_clv (lv2 := [(0, .ref b), (5, .int 1)]) rfl ?_
      refine xx_iinc (v := 2) dX9_run_365 rfl (by decide) (by decide) ?_
      refine xx_clv (lv2 := [(0, .ref b), (5, .int 2)]) rfl ?_
      refine xx_goto (tgt := 188) dX9_run_368 (by decide) ?_
      refine xx_iload dX9_run_188 rfl ?_
      refine xx_iconst (v := 2) dX9_run_190 (by decide) ?_
      refine xx_icmp_ge (tgt := 371) dX9_run_191 (by decide) (fun j191 => ?_) (fun h => absurd (by decide) h)
      refine xx_aload_n dX9_run_371 rfl ?_
      refine xx_get xx_c9 dX9_run_372 wf_X9_129 (j := 11) (by decide) hbh1 rfl ?_
      have ff : ∀ q, q ≠ b → q ≠ b + 1 → q ≠ b + 2 → q ≠ b + 3 → q ≠ b + 17 → q ≠ b + 18 → H1.2 q = F.2 q := fun q a0 a1 a2 a3 a4 a5 => (h61 q a1 a2 a3 a4 a5).trans ((oqb2 q a1 a2 a3 a4 a5).trans ((h60 q a1 a2 a3 a4 a5).trans ((oqb1 q a1 a2 a3 a4 a5).trans ((g5 q a1 a2 a3 a4 a5).trans (oqa1 q a0)))))
      refine xx_iret dX9_run_375 rfl (Or.inl ⟨lb, q, hlb, rfl, hq, rfl, by omega, hbh1, ⟨fb, (ff _ (by omega) (by omega) (by omega) (by omega) (by omega) (by omega)).trans y4⟩, ⟨f8, f9, f10, (ff _ (by omega) (by omega) (by omega) (by omega) (by omega) (by omega)).trans y6, (ff _ (by omega) (by omega) (by omega) (by omega) (by omega) (by omega)).trans y7, (ff _ (by omega) (by omega) (by omega) (by omega) (by omega) (by omega)).trans y8, y9⟩, ⟨Nh1, h21, fun p hp => ?_, fun r hr => ?_⟩, fun q a0 a1 a2 a3 a4 a5 a6 a7 a8 a9 => (ff q a0 a1 a2 a3 a8 a9).trans ((yb q a0 a1 a2 a3 a4 a5 a6 a7 a8 a9).trans (fr0 q a0 a1 a2 a3 a7 a8 a9))⟩)
      · rcases (show p = 0 ∨ p = 1 by omega) with z | z
        · subst z
          refine ⟨fun j hj => ?_, ?_⟩
          · rw [h51 _ (by omega) (by omega), fqb2 _ (by omega)]; exact h30 j hj
          · rw [h51 _ (by omega) (by omega), fqb2 _ (by omega)]; exact h40
        · subst z
          exact ⟨h31, h41⟩
      · rw [h51 r (by omega) (by omega), fqb2 r (by omega), h50 r (by omega) (by omega), fqb1 r (by omega), g4 r (by omega), ya r (by omega)]
        exact hkt r (by omega) (by omega) (by omega)
  · have hin : xx_inn x 0 (nI (m + n - 1)) = 0 := xx_inn0 (by omega) (fun h => hx (by rw [show m + n - 1 + 1 = m + n by omega] at h; exact h))
    refine xx_clv (lv2 := [(0, .ref b), (1, .int x)]) rfl ?_
    refine xx_aload_n dX9_run_0 rfl ?_
    refine xx_aload_n dX9_run_1 rfl ?_
    refine xx_get xx_c9 dX9_run_2 wf_X9_120 (j := 4) (by decide) hb rfl ?_
    refine xx_if_ne (tgt := 12) dX9_run_5 (by decide) (fun j5 => ?_) (fun h => absurd h (nI_ne0 (n := m) (by omega) (by omega)))
    refine xx_iload_n dX9_run_12 rfl ?_
    refine xx_iconst (v := 0) dX9_run_13 (by decide) ?_
    refine xx_aload_n dX9_run_14 rfl ?_
    refine xx_get xx_c9 dX9_run_15 wf_X9_120 (j := 4) (by decide) hb rfl ?_
    refine xx_aload_n dX9_run_18 rfl ?_
    refine xx_get xx_c9 dX9_run_19 wf_X9_123 (j := 5) (by decide) hb rfl ?_
    refine xx_iadd dX9_run_22 ?_
    refine xx_eqi (y := nI (m + n)) (nI_add m n) ?_
    refine xx_iconst (v := 1) dX9_run_23 (by decide) ?_
    refine xx_isub dX9_run_24 ?_
    refine xx_eqi (y := nI ((m + n) - 1)) (pk_sub (a := m + n) (b := 1) (by omega)) ?_
    refine xx_callS (N := mX9_in) (vs := [.int x, .int 0, .int (nI ((m + n) - 1))]) (rest := [.ref b]) (d2 := 0) (c2 := 0) (s2 := 0) (c3 := 0) (s3 := 0) dX9_run_25 wm_X9_116 ws_X9_in wz_X9 (by decide) nX9_in ⟨pX9_in, Nat.le_of_ble_eq_true rfl, by decide, Nat.le_of_ble_eq_true rfl, by decide, by decide⟩ c_X9_in (fun v9 B9 hC => ?_) (fun E9 B9 hC => absurd hC.1 (by simp))
    obtain ⟨hv9, e9⟩ := hC
    cases hv9
    rw [e9]
    refine xx_cst (st2 := [.int 0, .ref b]) (by rw [hin]; rfl) ?_
    refine xx_if_ne (tgt := 35) dX9_run_28 (by decide) (fun h => absurd rfl h) (fun j28 => ?_)
    refine xx_iconst (v := 2) dX9_run_31 (by decide) ?_
    refine xx_goto (tgt := 36) dX9_run_32 (by decide) ?_
    refine xx_put xx_c9 dX9_run_36 wf_X9_84 (j := 0) (by decide) rfl rfl rfl hb (Nat.le_of_ble_eq_true rfl) (xx_gu fun Eq1 zq1 hbq1 oq1 => ?_)
    have hbq1 : Eq1.2 b = xx_o 9 (xx_mf b (.int 2) (.int (nI m)) (.int (nI n)) hr st hl en tu) := hbq1
    refine xx_aload_n dX9_run_39 rfl ?_
    refine xx_get xx_c9 dX9_run_40 wf_X9_84 (j := 0) (by decide) hbq1 rfl ?_
    refine xx_if_le (tgt := 48) dX9_run_43 (by decide) (fun h => absurd h (by decide)) (fun j43 => ?_)
    refine xx_iconst (v := 0) dX9_run_46 (by decide) ?_
    exact xx_iret dX9_run_47 rfl (Or.inr ⟨hx, rfl, zq1, hbq1, oq1⟩)
