/-! ===== the loop of the reference's run ===== -/
/-- the reference holds a state of the path -/
def yr_s (m n : Nat) (a : Nat → Nat → Nat → Int) (N : Nat → Int) (fb : Nat → Int32) (s : yq_S) : Prop := ∀ t, t < 2 → yr_t N t (yy_rw m n t) (m + n) (yh_T (yy_rw m n t) (a t) (s.1 t)) (yh_d (yy_rw m n t) (a t) (s.1 t)) ∧ ∀ r, r < yy_rw m n t → fb (6 * t + r) = nI (s.1 t r)
set_option maxRecDepth 100000 in
theorem l_X9_run {G : xx_G} {l : Launch} {A : xx_H} {b : Nat} {th hr hl en tu : Value} {m n : Nat} {W : Nat → Nat → Nat → Int} {le : Nat → Int} {N : Nat → Int} {ps : Nat → yq_S} {lb q : Nat} {Q : Option Value ⊕ String → xx_H → Prop} (hg : yg_ok m n W le) (hst : ∀ i, ps (i + 1) = yq_st m n (yg_a m n W le) (ps i)) (hok : ∀ i, i ≤ q → yq_ok m n (yg_a m n W le) (ps i)) (hq : q < 227) (hend : (ps (q + 1)).2.2 = lb) (hgo : ∀ i, i < q → (ps (i + 1)).2.2 ≠ lb) (hlb : lb < m + n) (k : ∀ (B : xx_H) (N2 : Nat → Int) (fb f8 f9 f10 : Nat → Int32), B.1 = A.1 → B.2 b = xx_o 9 (xx_mf b th (.int (nI m)) (.int (nI n)) hr (.int (nI (q + 1))) hl en tu) → xx_rw B b N2 → B.2 (b + 12) = xx_i 12 fb → yr_s m n (yg_a m n W le) N2 fb (ps (q + 1)) → B.2 (b + 8) = xx_i 1000 f8 → B.2 (b + 9) = xx_i 1000 f9 → B.2 (b + 10) = xx_i 1000 f10 → (∀ j, j < (q + 1) → f8 j = nI (ps j).2.2 ∧ f9 j = nI (ps (j + 1)).2.2 ∧ f10 j = nI (ps j).2.1) → (∀ q, 300 ≤ q ∨ (5 ≤ q ∧ q ≤ 17) → N2 q = N q) → (∀ q, q ≠ b → q ≠ b + 1 → q ≠ b + 2 → q ≠ b + 3 → q ≠ b + 8 → q ≠ b + 9 → q ≠ b + 10 → q ≠ b + 12 → q ≠ b + 17 → q ≠ b + 18 → B.2 q = A.2 q) → xx_X G l mX9_run 5 0 0 153 [(0, .ref b), (1, .int (nI lb))] [] B Q) :
    ∀ (v i : Nat), i + v = q + 1 → ∀ (B : xx_H) (N2 : Nat → Int) (fb f8 f9 f10 : Nat → Int32), B.1 = A.1 → B.2 b = xx_o 9 (xx_mf b th (.int (nI m)) (.int (nI n)) hr (.int (nI i)) hl en tu) → xx_rw B b N2 → B.2 (b + 12) = xx_i 12 fb → yr_s m n (yg_a m n W le) N2 fb (ps i) → B.2 (b + 8) = xx_i 1000 f8 → B.2 (b + 9) = xx_i 1000 f9 → B.2 (b + 10) = xx_i 1000 f10 → (∀ j, j < i → f8 j = nI (ps j).2.2 ∧ f9 j = nI (ps (j + 1)).2.2 ∧ f10 j = nI (ps j).2.1) → (∀ q, 300 ≤ q ∨ (5 ≤ q ∧ q ≤ 17) → N2 q = N q) → (∀ q, q ≠ b → q ≠ b + 1 → q ≠ b + 2 → q ≠ b + 3 → q ≠ b + 8 → q ≠ b + 9 → q ≠ b + 10 → q ≠ b + 12 → q ≠ b + 17 → q ≠ b + 18 → B.2 q = A.2 q) → xx_X G l mX9_run 5 0 0 76 [(0, .ref b), (1, .int (nI lb)), (2, .int (nI (ps i).2.1)), (3, .int (nI (ps i).2.2)), (4, .int (if v = 0 then 0 else 1))] [] B Q := by
  intro v
  induction v with
  | zero =>
    intro i hi B N2 fb f8 f9 f10 y1 y2 y3 y4 y5 y6 y7 y8 y9 ya yb
    have : i = q + 1 := by omega
    subst this
    refine xx_clv (lv2 := [(0, .ref b), (1, .int (nI lb)), (2, .int (nI ((ps (q + 1)).2.1))), (3, .int (nI ((ps (q + 1)).2.2))), (4, .int 0)]) rfl ?_
    refine xx_iload dX9_run_76 rfl ?_
    refine xx_if_eq (tgt := 153) dX9_run_78 (by decide) (fun j78 => ?_) (fun h => absurd (by decide) h)
    refine xx_less [0, 1] ?_
    refine xx_clv (lv2 := [(0, .ref b), (1, .int (nI lb))]) rfl ?_
    exact k B N2 fb f8 f9 f10 y1 y2 y3 y4 y5 y6 y7 y8 y9 ya yb
  | succ v ih =>
    intro i hi B N2 fb f8 f9 f10 y1 y2 y3 y4 y5 y6 y7 y8 y9 ya yb
    have ok := hok i (by omega)
    obtain ⟨r, hr9, eo, es, hB, hB2, hdp⟩ := yg_at (label := lb) hg ok
    have hm6 := hg.2.1
    have hn6 := hg.2.2.2.1
    have e1 : (ps (i + 1)) = yq_put (ps i) r := (hst i).trans es
    have egone : (ps (i + 1)).2.2 = (ps i).1 (ps i).2.1 r := by rw [e1]; rfl
    have ett : (ps (i + 1)).2.1 = 1 - (ps i).2.1 := by rw [e1]; rfl
    have ht2 := ok.1
    obtain ⟨T1, B1⟩ := y5 _ ht2
    have glt : (ps (i + 1)).2.2 < m + n := by rw [egone]; exact (ok.2.1 _ ht2).2 r hr9
    have c1 := c_X9_enter (G := G) (l := l) (tt := (ps i).2.1) (e := (ps i).2.2) (fs := yq_fl m (ps i).2.1) (R := yy_rw m n (ps i).2.1) (mn := m + n) (r := r) (gone := (ps (i + 1)).2.2) y2 y3 ht2 (yy_rw6 hm6 hn6) (by omega) (Nat.le_of_lt ok.2.2.1) T1 (fun k9 _ c hc => hB _ ht2 k9 c hc) hm6 hn6 rfl rfl rfl eo (by have := hdp _ ht2; omega) hB2 y4 (by rw [egone]; exact B1 r hr9)
    obtain ⟨tt, htt⟩ : ∃ tt, tt = (ps i).2.1 := ⟨_, rfl⟩
    obtain ⟨e, hee⟩ : ∃ e, e = (ps i).2.2 := ⟨_, rfl⟩
    obtain ⟨gg, hgg⟩ : ∃ gg, gg = (ps (i + 1)).2.2 := ⟨_, rfl⟩
    rw [← htt, ← hee, ← hgg] at c1
    rw [← htt, ← hee]
    have el : e < m + n := by rw [hee]; exact ok.2.2.1
    have gl : gg < m + n := by rw [hgg]; exact glt
    have tl : tt < 2 := by rw [htt]; exact ht2
    refine xx_clv (lv2 := [(0, .ref b), (1, .int (nI lb)), (2, .int (nI tt)), (3, .int (nI e)), (4, .int 1)]) rfl ?_
    refine xx_iload dX9_run_76 rfl ?_
    refine xx_if_eq (tgt := 153) dX9_run_78 (by decide) (fun h => absurd h (by decide)) (fun j78 => ?_)
    refine xx_aload_n dX9_run_81 rfl ?_
    refine xx_iload_n dX9_run_82 rfl ?_
    refine xx_iload_n dX9_run_83 rfl ?_
    refine xx_callV (N := mX9_enter) (vs := [.int (nI tt), .int (nI e)]) (b := b) (rest := []) (d2 := 4) (c2 := 0) (s2 := 0) (c3 := 0) (s3 := 0) dX9_run_84 wm_X9_173 wi_X9_enter wv_X9_enter (k := 9) rfl (by decide) y2 nX9_enter ⟨pX9_enter, Nat.le_of_ble_eq_true rfl, by decide, Nat.le_of_ble_eq_true rfl, by decide, by decide⟩ (c1) (fun v9 D hC => ?_) (fun E9 B9 hC => absurd hC.1 (by simp))
    obtain ⟨hv9, k1, ⟨N3, k2, k3, k4⟩, k5, k6⟩ := hC
    cases hv9
    refine xx_cst (st2 := [.int (nI gg)]) rfl ?_
    have b2 := (k6 b (by omega) (by omega) (by omega) (by omega) (by omega) (by omega)).trans y2
    have g8 := (k6 (b + 8) (by omega) (by omega) (by omega) (by omega) (by omega) (by omega)).trans y6
    have g9 := (k6 (b + 9) (by omega) (by omega) (by omega) (by omega) (by omega) (by omega)).trans y7
    have g10 := (k6 (b + 10) (by omega) (by omega) (by omega) (by omega) (by omega) (by omega)).trans y8
    refine xx_istore dX9_run_87 (by decide) ?_
    refine xx_clv (lv2 := [(0, .ref b), (1, .int (nI lb)), (2, .int (nI tt)), (3, .int (nI e)), (4, .int 1), (5, .int (nI gg))]) rfl ?_
    refine xx_aload_n dX9_run_89 rfl ?_
    refine xx_get xx_c9 dX9_run_90 wf_X9_36 (j := 12) (by decide) b2 rfl ?_
    refine xx_aload_n dX9_run_93 rfl ?_
    refine xx_get xx_c9 dX9_run_94 wf_X9_129 (j := 11) (by decide) b2 rfl ?_
    refine xx_iload_n dX9_run_97 rfl ?_
    refine xx_iast dX9_run_98 g8 (vp_in_nI (by omega) (by decide)) (xx_gu fun E1 z1 w1 o1 => ?_)
    rw [nI_clamp (by omega)] at w1
    have b3 := (o1 b (by omega)).trans b2
    refine xx_aload_n dX9_run_99 rfl ?_
    refine xx_get xx_c9 dX9_run_100 wf_X9_39 (j := 13) (by decide) b3 rfl ?_
    refine xx_aload_n dX9_run_103 rfl ?_
    refine xx_get xx_c9 dX9_run_104 wf_X9_129 (j := 11) (by decide) b3 rfl ?_
    refine xx_iload dX9_run_107 rfl ?_
    refine xx_iast dX9_run_109 ((o1 (b + 9) (by omega)).trans g9) (vp_in_nI (by omega) (by decide)) (xx_gu fun E2 z2 w2 o2 => ?_)
    rw [nI_clamp (by omega)] at w2
    have b4 := (o2 b (by omega)).trans b3
    refine xx_aload_n dX9_run_110 rfl ?_
    refine xx_get xx_c9 dX9_run_111 wf_X9_42 (j := 14) (by decide) b4 rfl ?_
    refine xx_aload_n dX9_run_114 rfl ?_
    refine xx_get xx_c9 dX9_run_115 wf_X9_129 (j := 11) (by decide) b4 rfl ?_
    refine xx_iload_n dX9_run_118 rfl ?_
    refine xx_iast dX9_run_119 ((o2 (b + 10) (by omega)).trans ((o1 (b + 10) (by omega)).trans g10)) (vp_in_nI (by omega) (by decide)) (xx_gu fun E3 z3 w3 o3 => ?_)
    rw [nI_clamp (by omega)] at w3
    have b5 := (o3 b (by omega)).trans b4
    refine xx_aload_n dX9_run_120 rfl ?_
    refine xx_dup dX9_run_121 rfl ?_
    refine xx_get xx_c9 dX9_run_122 wf_X9_129 (j := 11) (by decide) b5 rfl ?_
    refine xx_iconst (v := 1) dX9_run_125 (by decide) ?_
    refine xx_iadd dX9_run_126 ?_
    refine xx_eqi (y := nI (i + 1)) (nI_add i 1) ?_
    refine xx_put xx_c9 dX9_run_127 wf_X9_129 (j := 11) (by decide) rfl rfl rfl b5 (Nat.le_of_ble_eq_true rfl) (xx_gu fun E4 z4 w4 o4 => ?_)
    have w4 : E4.2 b = xx_o 9 (xx_mf b th (.int (nI m)) (.int (nI n)) hr (.int (nI (i + 1))) hl en tu) := w4
    refine xx_iload dX9_run_130 rfl ?_
    refine xx_iload_n dX9_run_132 rfl ?_
    refine xx_icmp_eq (tgt := 140) dX9_run_133 (by decide) (fun j133 => ?_) (fun j133 => ?_)
    · have j133 : gg = lb := (nI_eq (a := gg) (b := lb) (by omega) (by omega)).mp j133
      refine xx_iconst (v := 0) dX9_run_140 (by decide) ?_
      refine xx_istore dX9_run_141 (by decide) ?_
      refine xx_clv (lv2 := [(0, .ref b), (1, .int (nI lb)), (2, .int (nI tt)), (3, .int (nI e)), (4, .int 0), (5, .int (nI gg))]) rfl ?_
      refine xx_iload dX9_run_143 rfl ?_
      refine xx_istore_n dX9_run_145 (by decide) ?_
      refine xx_clv (lv2 := [(0, .ref b), (1, .int (nI lb)), (2, .int (nI tt)), (3, .int (nI gg)), (4, .int 0), (5, .int (nI gg))]) rfl ?_
      refine xx_iconst (v := 1) dX9_run_146 (by decide) ?_
      refine xx_iload_n dX9_run_147 rfl ?_
      refine xx_isub dX9_run_148 ?_
      refine xx_eqi (y := nI (1 - tt)) (pk_sub (a := 1) (b := tt) (by omega)) ?_
      refine xx_istore_n dX9_run_149 (by decide) ?_
      refine xx_clv (lv2 := [(0, .ref b), (1, .int (nI lb)), (2, .int (nI (1 - tt))), (3, .int (nI gg)), (4, .int 0), (5, .int (nI gg))]) rfl ?_
      refine xx_goto (tgt := 76) dX9_run_150 (by decide) ?_
      refine xx_less [0, 1, 2, 3, 4] ?_
      have hv : v = 0 := by
        apply Classical.byContradiction; intro z; exact hgo i (by omega) (by rw [← hgg]; exact j133)
      refine xx_clv (lv2 := [(0, .ref b), (1, .int (nI lb)), (2, .int (nI (ps (i + 1)).2.1)), (3, .int (nI (ps (i + 1)).2.2)), (4, .int (if v = 0 then 0 else 1))]) (by rw [if_pos hv, ett, ← hgg, ← htt]; rfl) ?_
      have fr : ∀ q, q ≠ b → q ≠ b + 8 → q ≠ b + 9 → q ≠ b + 10 → E4.2 q = D.2 q := fun q a1 a2 a3 a4 => (o4 q a1).trans ((o3 q a4).trans ((o2 q a3).trans (o1 q a2)))
      refine ih (i + 1) (by omega) E4 N3 _ _ _ _ (by omega) w4 (k2.to (fr _ (by omega) (by omega) (by omega) (by omega)) (fr _ (by omega) (by omega) (by omega) (by omega)) (fr _ (by omega) (by omega) (by omega) (by omega)) (fr _ (by omega) (by omega) (by omega) (by omega)) (fr _ (by omega) (by omega) (by omega) (by omega))) ((fr _ (by omega) (by omega) (by omega) (by omega)).trans k5) (fun t ht => ?_) ((o4 _ (by omega)).trans ((o3 _ (by omega)).trans ((o2 _ (by omega)).trans w1))) ((o4 _ (by omega)).trans ((o3 _ (by omega)).trans w2)) ((o4 _ (by omega)).trans w3) (fun j hj => ?_) (fun q hq => ?_) (fun q a0 a1 a2 a3 a8 a9 a10 a12 a17 a18 => (fr q a0 a8 a9 a10).trans ((k6 q a1 a2 a3 a12 a17 a18).trans (yb q a0 a1 a2 a3 a8 a9 a10 a12 a17 a18)))
      · have tb := yy_tb_b tt
        by_cases z : t = tt
        · have st1 : (ps (i + 1)).1 t = yy_ud ((ps i).1 t) r e := by rw [e1, z]; show (if tt = (ps i).2.1 then yy_ud ((ps i).1 tt) r (ps i).2.2 else (ps i).1 tt) = _; rw [if_pos htt, ← hee]
          subst z
          rw [st1]
          rw [← htt] at hr9
          have dp := hdp t ht
          refine ⟨⟨fun k9 a c b9 => ?_, ?_⟩, fun r9 hr => ?_⟩
          · rw [k3.1 k9 a c b9]; exact yh_step (by omega) hr9 a
          · rw [k3.2, yh_dn]
          · by_cases y : r9 = r
            · rw [y, pk_us, yy_ud_s]
            · rw [pk_un (by omega), yy_ud_n y]; exact (y5 t ht).2 r9 hr
        · have st1 : (ps (i + 1)).1 t = (ps i).1 t := by rw [e1]; show (if t = (ps i).2.1 then yy_ud ((ps i).1 t) r (ps i).2.2 else (ps i).1 t) = _; rw [if_neg (by omega)]
          rw [st1]
          obtain ⟨y51, y52⟩ := y5 t ht
          have rt6 := yy_rw6 (t := t) hm6 hn6
          have ttb : (yy_tb t + 78 ≤ yy_tb tt ∨ yy_tb tt + 78 ≤ yy_tb t) := by unfold yy_tb; split <;> split <;> omega
          have tb2 := yy_tb_b t
          have rtt6 := yy_rw6 (t := tt) hm6 hn6
          rw [← htt] at hr9
          refine ⟨⟨fun k9 a c b9 => ?_, ?_⟩, fun r9 hr => ?_⟩
          · rw [k4 _ (by omega) (by omega) (by omega) (by omega) (by omega)]; exact y51.1 k9 a c b9
          · rw [k4 _ (by omega) (by omega) (by omega) (by omega) (by omega)]; exact y51.2
          · rw [pk_un (by omega)]; exact y52 r9 hr
      · by_cases z : j = i
        · subst z
          rw [pk_us, pk_us, pk_us, ← hee, ← hgg, ← htt]
          exact ⟨rfl, rfl, rfl⟩
        · rw [pk_un z, pk_un z, pk_un z]; exact y9 j (by omega)
      · have tb := yy_tb_b tt
        rw [k4 q (by omega) (by omega) (by omega) (by omega) (by omega)]; exact ya q hq
    · have j133 : ¬ gg = lb := fun hq9 => j133 ((nI_eq (a := gg) (b := lb) (by omega) (by omega)).mpr hq9)
      refine xx_iconst (v := 1) dX9_run_136 (by decide) ?_
      refine xx_goto (tgt := 141) dX9_run_137 (by decide) ?_
      refine xx_istore dX9_run_141 (by decide) ?_
      refine xx_clv (lv2 := [(0, .ref b), (1, .int (nI lb)), (2, .int (nI tt)), (3, .int (nI e)), (4, .int 1), (5, .int (nI gg))]) rfl ?_
      refine xx_iload dX9_run_143 rfl ?_
      refine xx_istore_n dX9_run_145 (by decide) ?_
      refine xx_clv (lv2 := [(0, .ref b), (1, .int (nI lb)), (2, .int (nI tt)), (3, .int (nI gg)), (4, .int 1), (5, .int (nI gg))]) rfl ?_
      refine xx_iconst (v := 1) dX9_run_146 (by decide) ?_
      refine xx_iload_n dX9_run_147 rfl ?_
      refine xx_isub dX9_run_148 ?_
      refine xx_eqi (y := nI (1 - tt)) (pk_sub (a := 1) (b := tt) (by omega)) ?_
      refine xx_istore_n dX9_run_149 (by decide) ?_
      refine xx_clv (lv2 := [(0, .ref b), (1, .int (nI lb)), (2, .int (nI (1 - tt))), (3, .int (nI gg)), (4, .int 1), (5, .int (nI gg))]) rfl ?_
      refine xx_goto (tgt := 76) dX9_run_150 (by decide) ?_
      refine xx_less [0, 1, 2, 3, 4] ?_
      have hv : v ≠ 0 := by
        intro z; apply j133; rw [hgg, show i = q by omega]; exact hend
      refine xx_clv (lv2 := [(0, .ref b), (1, .int (nI lb)), (2, .int (nI (ps (i + 1)).2.1)), (3, .int (nI (ps (i + 1)).2.2)), (4, .int (if v = 0 then 0 else 1))]) (by rw [if_neg hv, ett, ← hgg, ← htt]; rfl) ?_
      have fr : ∀ q, q ≠ b → q ≠ b + 8 → q ≠ b + 9 → q ≠ b + 10 → E4.2 q = D.2 q := fun q a1 a2 a3 a4 => (o4 q a1).trans ((o3 q a4).trans ((o2 q a3).trans (o1 q a2)))
      refine ih (i + 1) (by omega) E4 N3 _ _ _ _ (by omega) w4 (k2.to (fr _ (by omega) (by omega) (by omega) (by omega)) (fr _ (by omega) (by omega) (by omega) (by omega)) (fr _ (by omega) (by omega) (by omega) (by omega)) (fr _ (by omega) (by omega) (by omega) (by omega)) (fr _ (by omega) (by omega) (by omega) (by omega))) ((fr _ (by omega) (by omega) (by omega) (by omega)).trans k5) (fun t ht => ?_) ((o4 _ (by omega)).trans ((o3 _ (by omega)).trans ((o2 _ (by omega)).trans w1))) ((o4 _ (by omega)).trans ((o3 _ (by omega)).trans w2)) ((o4 _ (by omega)).trans w3) (fun j hj => ?_) (fun q hq => ?_) (fun q a0 a1 a2 a3 a8 a9 a10 a12 a17 a18 => (fr q a0 a8 a9 a10).trans ((k6 q a1 a2 a3 a12 a17 a18).trans (yb q a0 a1 a2 a3 a8 a9 a10 a12 a17 a18)))
      · have tb := yy_tb_b tt
        by_cases z : t = tt
        · have st1 : (ps (i + 1)).1 t = yy_ud ((ps i).1 t) r e := by rw [e1, z]; show (if tt = (ps i).2.1 then yy_ud ((ps i).1 tt) r (ps i).2.2 else (ps i).1 tt) = _; rw [if_pos htt, ← hee]
          subst z
          rw [st1]
          rw [← htt] at hr9
          have dp := hdp t ht
          refine ⟨⟨fun k9 a c b9 => ?_, ?_⟩, fun r9 hr => ?_⟩
          · rw [k3.1 k9 a c b9]; exact yh_step (by omega) hr9 a
          · rw [k3.2, yh_dn]
          · by_cases y : r9 = r
            · rw [y, pk_us, yy_ud_s]
            · rw [pk_un (by omega), yy_ud_n y]; exact (y5 t ht).2 r9 hr
        · have st1 : (ps (i + 1)).1 t = (ps i).1 t := by rw [e1]; show (if t = (ps i).2.1 then yy_ud ((ps i).1 t) r (ps i).2.2 else (ps i).1 t) = _; rw [if_neg (by omega)]
          rw [st1]
          obtain ⟨y51, y52⟩ := y5 t ht
          have rt6 := yy_rw6 (t := t) hm6 hn6
          have ttb : (yy_tb t + 78 ≤ yy_tb tt ∨ yy_tb tt + 78 ≤ yy_tb t) := by unfold yy_tb; split <;> split <;> omega
          have tb2 := yy_tb_b t
          have rtt6 := yy_rw6 (t := tt) hm6 hn6
          rw [← htt] at hr9
          refine ⟨⟨fun k9 a c b9 => ?_, ?_⟩, fun r9 hr => ?_⟩
          · rw [k4 _ (by omega) (by omega) (by omega) (by omega) (by omega)]; exact y51.1 k9 a c b9
          · rw [k4 _ (by omega) (by omega) (by omega) (by omega) (by omega)]; exact y51.2
          · rw [pk_un (by omega)]; exact y52 r9 hr
      · by_cases z : j = i
        · subst z
          rw [pk_us, pk_us, pk_us, ← hee, ← hgg, ← htt]
          exact ⟨rfl, rfl, rfl⟩
        · rw [pk_un z, pk_un z, pk_un z]; exact y9 j (by omega)
      · have tb := yy_tb_b tt
        rw [k4 q (by omega) (by omega) (by omega) (by omega) (by omega)]; exact ya q hq
