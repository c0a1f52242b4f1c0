/-! ===== the loop of run ===== -/
def yt_t (b t : Nat) : Nat := if t = 0 then b + 20 else b + 123
theorem yt_t_b (b t : Nat) : b + 20 ≤ yt_t b t ∧ yt_t b t + 103 ≤ b + 226 := by unfold yt_t; split <;> omega
/-- a Table holds the table of a basis -/
def xx_tq (B : xx_H) (t m n tt : Nat) (a : Nat → Nat → Int) (bs : Nat → Nat) : Prop := ∃ rl cl P V, xx_tb B t (yy_rw m n tt) (yy_rw m n (1 - tt)) (yq_fl m tt) rl cl P V ∧ (∀ i, i < yy_rw m n tt → rl i = bs i) ∧ yt_v (yy_rw m n tt) (yy_rw m n (1 - tt)) (m + n) cl V (yh_T (yy_rw m n tt) a bs) (yh_d (yy_rw m n tt) a bs) ∧ (∀ i, i < 43 → (V i).natAbs < 2 ^ 200) ∧ (∀ c, c < m + n → (∃ p, p < yy_rw m n (1 - tt) ∧ cl p = c) ∨ ∃ i, i < yy_rw m n tt ∧ rl i = c) ∧ ∀ p, p < yy_rw m n (1 - tt) → cl p < m + n
theorem xx_tq.to {B C : xx_H} {t m n tt : Nat} {a : Nat → Nat → Int} {bs : Nat → Nat} (h : xx_tq B t m n tt a bs) (hq : ∀ q, t ≤ q → q < t + 103 → C.2 q = B.2 q) : xx_tq C t m n tt a bs := by
  obtain ⟨rl, cl, P, V, h1, h2⟩ := h
  exact ⟨rl, cl, P, V, h1.to hq, h2⟩
theorem yt_v.cg {R C sd : Nat} {cl : Nat → Nat} {V : Nat → Int} {T T2 : Nat → Nat → Int} {den den2 : Int} (h : yt_v R C sd cl V T den) (hT : ∀ k, k < R → ∀ c, T k c = T2 k c) (hd : den = den2) : yt_v R C sd cl V T2 den2 := ⟨fun k hk p hp => (h.1 k hk p hp).trans (hT k hk _), fun k hk => (h.2.1 k hk).trans (hT k hk _), h.2.2.trans hd⟩
theorem c_run_enter {G : xx_G} {l : Launch} {A : xx_H} {t m n label : Nat} {W : Nat → Nat → Nat → Int} {le : Nat → Int} {s : yq_S} {r : Nat} (hg : yg_ok m n W le) (ok : yq_ok m n (yg_a m n W le) s) (H : xx_tq A t m n s.2.1 (yg_a m n W le s.2.1) (s.1 s.2.1)) (hr : r < yy_rw m n s.2.1) (eo : yq_o m n (yg_a m n W le) s = some r) : xx_X G l mX5_enter 7 0 0 0 (lv_args 0 [.ref t, .int (nI s.2.2)]) [] A (fun z B => z = .inl (some (.int (nI (s.1 s.2.1 r)))) ∧ B.1 = A.1 ∧ xx_tq B t m n s.2.1 (yg_a m n W le s.2.1) (yy_ud (s.1 s.2.1) r s.2.2) ∧ ∀ z, (z < t ∨ t + 103 ≤ z) → B.2 z = A.2 z) := by
  obtain ⟨r9, _, eo9, _, hB, hB2, hdp⟩ := yg_at (label := label) hg ok
  have : r9 = r := by rw [eo] at eo9; injection eo9 with q; exact q.symm
  subst this
  obtain ⟨rl, cl, P, V, h1, h2, h3, h4, h5, h6⟩ := H
  have dpos := hdp _ ok.1
  have hk : yt_k (yy_rw m n s.2.1) rl (yh_T (yy_rw m n s.2.1) (yg_a m n W le s.2.1) (s.1 s.2.1)) (yh_d (yy_rw m n s.2.1) (yg_a m n W le s.2.1) (s.1 s.2.1)) := ⟨fun k hk => by rw [h2 k hk]; exact yh_Ts, fun k j hk hj hne => by rw [h2 j hj]; exact yh_To hk hj hne⟩
  have he : ∃ p, p < yy_rw m n (1 - s.2.1) ∧ cl p = s.2.2 := by
    rcases h5 s.2.2 ok.2.2.1 with q | ⟨i, q1, q2⟩
    · exact q
    · rw [h2 i q1] at q2; exact absurd q2 (ok.2.2.2 i q1)
  have own : ∀ i, i < yy_rw m n s.2.1 → yq_fl m s.2.1 + i < m + n := by
    intro i hi
    unfold yy_rw at hi
    unfold yq_fl
    by_cases e : s.2.1 = 0
    · rw [if_pos e] at hi ⊢; omega
    · rw [if_neg e] at hi ⊢; omega
  refine xx_mono (fun z B hq => ?_) (c_X5_enter (T := yh_T (yy_rw m n s.2.1) (yg_a m n W le s.2.1) (s.1 s.2.1)) (sd := m + n) (e := s.2.2) (r := r9) h1 h4 h3 hk dpos (fun i hi => h5 _ (own i hi)) he eo (fun k hk c hc => hB2 k hk c (by
    rcases hc with q | ⟨p, q1, q2⟩
    · omega
    · have := h6 p q1; omega)))
  obtain ⟨q1, q2, ⟨ce, P2, V2, c1, c2, c3, c4, c5⟩, q3⟩ := hq
  refine ⟨by rw [q1, h2 r9 hr], q2, ⟨_, _, P2, V2, c3, fun i hi => ?_, c4.cg (fun k hk c => yh_step (by omega) hr hk) yh_dn.symm, c5, fun c hc => ?_, fun p hp => ?_⟩, q3⟩
  · by_cases z : i = r9
    · rw [z, yy_ud_s, yy_ud_s]
    · rw [yy_ud_n z, yy_ud_n z]; exact h2 i hi
  · rcases h5 c hc with ⟨p, p1, p2⟩ | ⟨i, p1, p2⟩
    · by_cases z : p = ce
      · exact Or.inr ⟨r9, hr, by rw [yy_ud_s, ← p2, z, c2]⟩
      · exact Or.inl ⟨p, p1, by rw [yy_ud_n z]; exact p2⟩
    · by_cases z : i = r9
      · exact Or.inl ⟨ce, c1, by rw [yy_ud_s, ← p2, z]⟩
      · exact Or.inr ⟨i, p1, by rw [yy_ud_n z]; exact p2⟩
  · by_cases z : p = ce
    · rw [z, yy_ud_s, h2 r9 hr]; exact (ok.2.1 _ ok.1).2 r9 hr
    · rw [yy_ud_n z]; exact h6 p hp
set_option maxRecDepth 100000 in
theorem l_X8_run {G : xx_G} {l : Launch} {A : xx_H} {b m n : Nat} {u6 u7 u8 u10 u11 : Value} {ht hp : Nat → Option Nat} {W : Nat → Nat → Nat → Int} {le : Nat → Int} {ps : Nat → yq_S} {lb q : Nat} {Q : Option Value ⊕ String → xx_H → Prop} (hb : A.2 b = xx_o 8 [.ref (b + 1), .ref (b + 2), .ref (b + 11), .ref (b + 18), .ref (b + 19), .ref (b + 226), u6, u7, u8, .ref (b + 230), u10, u11, .ref (b + 233), .ref (b + 266), .ref (b + 279), .ref (b + 281), .ref (b + 283), .ref (b + 288)]) (htb : A.2 (b + 19) = xx_r 15 2 ht) (ht2 : ∀ t, t < 2 → ht t = some (yt_t b t)) (hpa : A.2 (b + 226) = xx_r 5 3 hp) (hp3 : ∀ j, j < 3 → hp j = some (b + 227 + j)) (hg : yg_ok m n W le) (hst : ∀ i, ps (i + 1) = yq_st m n (yg_a m n W le) (ps i)) (hok : ∀ i, i ≤ q → yq_ok m n (yg_a m n W le) (ps i)) (hq : q < 227) (hend : (ps (q + 1)).2.2 = lb) (hgo : ∀ i, i < q → (ps (i + 1)).2.2 ≠ lb) (hlb : lb < m + n) (k : ∀ (B : xx_H) (f8 f9 f10 : Nat → Int32), B.1 = A.1 → (∀ t, t < 2 → xx_tq B (yt_t b t) m n t (yg_a m n W le t) ((ps (q + 1)).1 t)) → B.2 (b + 227) = xx_i 256 f8 → B.2 (b + 228) = xx_i 256 f9 → B.2 (b + 229) = xx_i 256 f10 → (∀ j, j < (q + 1) → f8 j = nI (ps j).2.2 ∧ f9 j = nI (ps (j + 1)).2.2 ∧ f10 j = nI (ps j).2.1) → (∀ q, q < b + 20 ∨ b + 230 ≤ q ∨ q = b + 226 → B.2 q = A.2 q) → xx_X G l mX8_run 8 0 0 185 [(0, .ref b), (1, .int (nI lb)), (4, .int (nI (q + 1)))] [] B Q) :
    ∀ (v i : Nat), i + v = q + 1 → ∀ (B : xx_H) (f8 f9 f10 : Nat → Int32), B.1 = A.1 → (∀ t, t < 2 → xx_tq B (yt_t b t) m n t (yg_a m n W le t) ((ps i).1 t)) → B.2 (b + 227) = xx_i 256 f8 → B.2 (b + 228) = xx_i 256 f9 → B.2 (b + 229) = xx_i 256 f10 → (∀ j, j < i → f8 j = nI (ps j).2.2 ∧ f9 j = nI (ps (j + 1)).2.2 ∧ f10 j = nI (ps j).2.1) → (∀ q, q < b + 20 ∨ b + 230 ≤ q ∨ q = b + 226 → B.2 q = A.2 q) → xx_X G l mX8_run 8 0 0 103 [(0, .ref b), (1, .int (nI lb)), (2, .int (nI (ps i).2.1)), (3, .int (nI (ps i).2.2)), (4, .int (nI i)), (5, .int (if v = 0 then 1 else 0))] [] B Q := by
  intro v
  induction v with
  | zero =>
    intro i hi B f8 f9 f10 y1 y2 y3 y4 y5 y6 y7
    have : i = q + 1 := by omega
    subst this
    refine xx_clv (lv2 := [(0, .ref b), (1, .int (nI lb)), (2, .int (nI ((ps (q + 1)).2.1))), (3, .int (nI ((ps (q + 1)).2.2))), (4, .int (nI (q + 1))), (5, .int 1)]) rfl ?_
    refine xx_iload dX8_run_103 rfl ?_
    refine xx_if_ne (tgt := 185) dX8_run_105 (by decide) (fun j105 => ?_) (fun h => absurd h (by decide))
    refine xx_less [0, 1, 4] ?_
    refine xx_clv (lv2 := [(0, .ref b), (1, .int (nI lb)), (4, .int (nI (q + 1)))]) rfl ?_
    exact k B f8 f9 f10 y1 y2 y3 y4 y5 y6 y7
  | succ v ih =>
    intro i hi B f8 f9 f10 y1 y2 y3 y4 y5 y6 y7
    have ok := hok i (by omega)
    obtain ⟨r, hr9, eo, es, _⟩ := yg_at (label := lb) hg ok
    have e1 : (ps (i + 1)) = yq_put (ps i) r := (hst i).trans es
    have egone : (ps (i + 1)).2.2 = (ps i).1 (ps i).2.1 r := by rw [e1]; rfl
    have ett : (ps (i + 1)).2.1 = 1 - (ps i).2.1 := by rw [e1]; rfl
    have t2 := ok.1
    have glt : (ps (i + 1)).2.2 < m + n := by rw [egone]; exact (ok.2.1 _ t2).2 r hr9
    have hm6 := hg.2.1
    have hn6 := hg.2.2.2.1
    have c1 := c_run_enter (G := G) (l := l) (t := yt_t b (ps i).2.1) (label := lb) hg ok (y2 _ t2) hr9 eo
    rw [← egone] at c1
    have tbo := (y2 _ t2)
    obtain ⟨rl0, cl0, P0, V0, ⟨tob, _⟩, _⟩ := id tbo
    have hb2 := (y7 b (by omega)).trans hb
    have htb2 := (y7 (b + 19) (by omega)).trans htb
    obtain ⟨tt, htt⟩ : ∃ tt, tt = (ps i).2.1 := ⟨_, rfl⟩
    obtain ⟨e, hee⟩ : ∃ e, e = (ps i).2.2 := ⟨_, rfl⟩
    obtain ⟨gg, hgg⟩ : ∃ gg, gg = (ps (i + 1)).2.2 := ⟨_, rfl⟩
    rw [← htt, ← hee, ← hgg] at c1
    rw [← htt] at tob
    rw [← htt, ← hee]
    have el : e < m + n := by rw [hee]; exact ok.2.2.1
    have gl : gg < m + n := by rw [hgg]; exact glt
    have tl : tt < 2 := by rw [htt]; exact t2
    have tb := yt_t_b b tt
    refine xx_clv (lv2 := [(0, .ref b), (1, .int (nI lb)), (2, .int (nI tt)), (3, .int (nI e)), (4, .int (nI i)), (5, .int 0)]) rfl ?_
    refine xx_iload dX8_run_103 rfl ?_
    refine xx_if_ne (tgt := 185) dX8_run_105 (by decide) (fun h => absurd rfl h) (fun j105 => ?_)
    refine xx_iload dX8_run_108 rfl ?_
    refine xx_sipush (v := 256) dX8_run_110 (by decide) ?_
    refine xx_icmp_ge (tgt := 185) dX8_run_113 (by decide) (fun h => absurd h (nI_ge (a := i) (b := 256) (by omega) (by decide))) (fun j113 => ?_)
    refine xx_aload_n dX8_run_116 rfl ?_
    refine xx_get xx_c8 dX8_run_117 wf_X8_33 (j := 4) (by decide) hb2 rfl ?_
    refine xx_iload_n dX8_run_120 rfl ?_
    refine xx_aald (kd := 15) (b := yt_t b tt) dX8_run_121 (by decide) rfl htb2 (vp_in_nI (by omega) (by decide)) (by rw [nI_clamp (by omega)]; exact ht2 tt tl) ?_
    refine xx_iload_n dX8_run_122 rfl ?_
    refine xx_callV (N := mX5_enter) (vs := [.int (nI e)]) (b := (yt_t b tt)) (rest := []) (d2 := 7) (c2 := 0) (s2 := 0) (c3 := 0) (s3 := 0) dX8_run_123 wm_X8_140 wi_X5_enter wv_X5_enter (k := 5) rfl (by decide) tob nX5_enter ⟨pX5_enter, Nat.le_of_ble_eq_true rfl, by decide, Nat.le_of_ble_eq_true rfl, by decide, by decide⟩ (c1) (fun v9 D hC => ?_) (fun E9 B9 hC => absurd hC.1 (by simp))
    obtain ⟨hv9, k1, k2, k3⟩ := hC
    cases hv9
    refine xx_cst (st2 := [.int (nI gg)]) rfl ?_
    have b2 := (k3 b (by omega)).trans hb2
    have pa := (k3 (b + 226) (by omega)).trans ((y7 (b + 226) (by omega)).trans hpa)
    have g8 := (k3 (b + 227) (by omega)).trans y3
    have g9 := (k3 (b + 228) (by omega)).trans y4
    have g10 := (k3 (b + 229) (by omega)).trans y5
    refine xx_istore dX8_run_126 (by decide) ?_
    refine xx_clv (lv2 := [(0, .ref b), (1, .int (nI lb)), (2, .int (nI tt)), (3, .int (nI e)), (4, .int (nI i)), (5, .int 0), (6, .int (nI gg))]) rfl ?_
    refine xx_aload_n dX8_run_128 rfl ?_
    refine xx_get xx_c8 dX8_run_129 wf_X8_39 (j := 5) (by decide) b2 rfl ?_
    refine xx_iconst (v := 0) dX8_run_132 (by decide) ?_
    refine xx_aald (kd := 5) (b := b + 227 + 0) dX8_run_133 (by decide) rfl pa (by unfold vp_in; decide) (hp3 0 (by decide)) ?_
    refine xx_iload dX8_run_134 rfl ?_
    refine xx_iload_n dX8_run_136 rfl ?_
    refine xx_iast dX8_run_137 g8 (vp_in_nI (by omega) (by decide)) (xx_gu fun E1 z1 w1 o1 => ?_)
    rw [nI_clamp (by omega)] at w1
    have b3 := (o1 b (by omega)).trans b2
    have pa1 := (o1 (b + 226) (by omega)).trans pa
    refine xx_aload_n dX8_run_138 rfl ?_
    refine xx_get xx_c8 dX8_run_139 wf_X8_39 (j := 5) (by decide) b3 rfl ?_
    refine xx_iconst (v := 1) dX8_run_142 (by decide) ?_
    refine xx_aald (kd := 5) (b := b + 227 + 1) dX8_run_143 (by decide) rfl pa1 (by unfold vp_in; decide) (hp3 1 (by decide)) ?_
    refine xx_iload dX8_run_144 rfl ?_
    refine xx_iload dX8_run_146 rfl ?_
    refine xx_iast dX8_run_148 ((o1 (b + 228) (by omega)).trans g9) (vp_in_nI (by omega) (by decide)) (xx_gu fun E2 z2 w2 o2 => ?_)
    rw [nI_clamp (by omega)] at w2
    have b4 := (o2 b (by omega)).trans b3
    have pa2 := (o2 (b + 226) (by omega)).trans pa1
    refine xx_aload_n dX8_run_149 rfl ?_
    refine xx_get xx_c8 dX8_run_150 wf_X8_39 (j := 5) (by decide) b4 rfl ?_
    refine xx_iconst (v := 2) dX8_run_153 (by decide) ?_
    refine xx_aald (kd := 5) (b := b + 227 + 2) dX8_run_154 (by decide) rfl pa2 (by unfold vp_in; decide) (hp3 2 (by decide)) ?_
    refine xx_iload dX8_run_155 rfl ?_
    refine xx_iload_n dX8_run_157 rfl ?_
    refine xx_iast dX8_run_158 ((o2 (b + 229) (by omega)).trans ((o1 (b + 229) (by omega)).trans g10)) (vp_in_nI (by omega) (by decide)) (xx_gu fun E3 z3 w3 o3 => ?_)
    rw [nI_clamp (by omega)] at w3
    refine xx_iinc (v := nI (i + 1)) dX8_run_159 rfl (nI_add i 1) (by decide) ?_
    refine xx_clv (lv2 := [(0, .ref b), (1, .int (nI lb)), (2, .int (nI tt)), (3, .int (nI e)), (4, .int (nI (i + 1))), (5, .int 0), (6, .int (nI gg))]) rfl ?_
    refine xx_iload dX8_run_162 rfl ?_
    refine xx_iload_n dX8_run_164 rfl ?_
    refine xx_icmp_ne (tgt := 172) dX8_run_165 (by decide) (fun j165 => ?_) (fun j165 => ?_)
    · have j165 : ¬ gg = lb := fun hq9 => j165 ((nI_eq (a := gg) (b := lb) (by omega) (by omega)).mpr hq9)
      refine xx_iconst (v := 0) dX8_run_172 (by decide) ?_
      refine xx_istore dX8_run_173 (by decide) ?_
      refine xx_clv (lv2 := [(0, .ref b), (1, .int (nI lb)), (2, .int (nI tt)), (3, .int (nI e)), (4, .int (nI (i + 1))), (5, .int 0), (6, .int (nI gg))]) rfl ?_
      refine xx_iload dX8_run_175 rfl ?_
      refine xx_istore_n dX8_run_177 (by decide) ?_
      refine xx_clv (lv2 := [(0, .ref b), (1, .int (nI lb)), (2, .int (nI tt)), (3, .int (nI gg)), (4, .int (nI (i + 1))), (5, .int 0), (6, .int (nI gg))]) rfl ?_
      refine xx_iconst (v := 1) dX8_run_178 (by decide) ?_
      refine xx_iload_n dX8_run_179 rfl ?_
      refine xx_isub dX8_run_180 ?_
      refine xx_eqi (y := nI (1 - tt)) (pk_sub (a := 1) (b := tt) (by omega)) ?_
      refine xx_istore_n dX8_run_181 (by decide) ?_
      refine xx_clv (lv2 := [(0, .ref b), (1, .int (nI lb)), (2, .int (nI (1 - tt))), (3, .int (nI gg)), (4, .int (nI (i + 1))), (5, .int 0), (6, .int (nI gg))]) rfl ?_
      refine xx_goto (tgt := 103) dX8_run_182 (by decide) ?_
      refine xx_less [0, 1, 2, 3, 4, 5] ?_
      have hv : v ≠ 0 := by
        intro z; apply j165; rw [hgg, show i = q by omega]; exact hend
      refine xx_clv (lv2 := [(0, .ref b), (1, .int (nI lb)), (2, .int (nI (ps (i + 1)).2.1)), (3, .int (nI (ps (i + 1)).2.2)), (4, .int (nI (i + 1))), (5, .int (if v = 0 then 1 else 0))]) (by rw [if_neg hv, ett, ← hgg, ← htt]; rfl) ?_
      have fr : ∀ q, q ≠ b + 227 → q ≠ b + 228 → q ≠ b + 229 → E3.2 q = D.2 q := fun q a2 a3 a4 => (o3 q a4).trans ((o2 q a3).trans (o1 q a2))
      refine ih (i + 1) (by omega) E3 _ _ _ (by omega) (fun t ht => ?_) ((o3 _ (by omega)).trans ((o2 _ (by omega)).trans w1)) ((o3 _ (by omega)).trans w2) w3 (fun j hj => ?_) (fun q hq => (fr q (by omega) (by omega) (by omega)).trans ((k3 q (by omega)).trans (y7 q hq)))
      · have tb9 := yt_t_b b t
        by_cases z : t = tt
        · have st1 : (ps (i + 1)).1 t = yy_ud ((ps i).1 t) r e := by rw [e1, z]; show (if tt = (ps i).2.1 then yy_ud ((ps i).1 tt) r (ps i).2.2 else (ps i).1 tt) = _; rw [if_pos htt, ← hee]
          rw [st1, z]
          exact k2.to (fun q a1 a2 => fr q (by omega) (by omega) (by omega))
        · have st1 : (ps (i + 1)).1 t = (ps i).1 t := by rw [e1]; show (if t = (ps i).2.1 then yy_ud ((ps i).1 t) r (ps i).2.2 else (ps i).1 t) = _; rw [if_neg (by omega)]
          rw [st1]
          have dj : yt_t b t + 103 ≤ yt_t b tt ∨ yt_t b tt + 103 ≤ yt_t b t := by unfold yt_t; split <;> split <;> omega
          exact (y2 t ht).to (fun q a1 a2 => (fr q (by omega) (by omega) (by omega)).trans (k3 q (by omega)))
      · by_cases z : j = i
        · subst z
          rw [pk_us, pk_us, pk_us, ← hee, ← hgg, ← htt]
          exact ⟨rfl, rfl, rfl⟩
        · rw [pk_un z, pk_un z, pk_un z]; exact y6 j (by omega)
    · have j165 : gg = lb := (nI_eq (a := gg) (b := lb) (by omega) (by omega)).mp j165
      refine xx_iconst (v := 1) dX8_run_168 (by decide) ?_
      refine xx_goto (tgt := 173) dX8_run_169 (by decide) ?_
      refine xx_istore dX8_run_173 (by decide) ?_
      refine xx_clv (lv2 := [(0, .ref b), (1, .int (nI lb)), (2, .int (nI tt)), (3, .int (nI e)), (4, .int (nI (i + 1))), (5, .int 1), (6, .int (nI gg))]) rfl ?_
      refine xx_iload dX8_run_175 rfl ?_
      refine xx_istore_n dX8_run_177 (by decide) ?_
      refine xx_clv (lv2 := [(0, .ref b), (1, .int (nI lb)), (2, .int (nI tt)), (3, .int (nI gg)), (4, .int (nI (i + 1))), (5, .int 1), (6, .int (nI gg))]) rfl ?_
      refine xx_iconst (v := 1) dX8_run_178 (by decide) ?_
      refine xx_iload_n dX8_run_179 rfl ?_
      refine xx_isub dX8_run_180 ?_
      refine xx_eqi (y := nI (1 - tt)) (pk_sub (a := 1) (b := tt) (by omega)) ?_
      refine xx_istore_n dX8_run_181 (by decide) ?_
      refine xx_clv (lv2 := [(0, .ref b), (1, .int (nI lb)), (2, .int (nI (1 - tt))), (3, .int (nI gg)), (4, .int (nI (i + 1))), (5, .int 1), (6, .int (nI gg))]) rfl ?_
      refine xx_goto (tgt := 103) dX8_run_182 (by decide) ?_
      refine xx_less [0, 1, 2, 3, 4, 5] ?_
      have hv : v = 0 := by
        apply Classical.byContradiction; intro z; exact hgo i (by omega) (by rw [← hgg]; exact j165)
      refine xx_clv (lv2 := [(0, .ref b), (1, .int (nI lb)), (2, .int (nI (ps (i + 1)).2.1)), (3, .int (nI (ps (i + 1)).2.2)), (4, .int (nI (i + 1))), (5, .int (if v = 0 then 1 else 0))]) (by rw [if_pos hv, ett, ← hgg, ← htt]; rfl) ?_
      have fr : ∀ q, q ≠ b + 227 → q ≠ b + 228 → q ≠ b + 229 → E3.2 q = D.2 q := fun q a2 a3 a4 => (o3 q a4).trans ((o2 q a3).trans (o1 q a2))
      refine ih (i + 1) (by omega) E3 _ _ _ (by omega) (fun t ht => ?_) ((o3 _ (by omega)).trans ((o2 _ (by omega)).trans w1)) ((o3 _ (by omega)).trans w2) w3 (fun j hj => ?_) (fun q hq => (fr q (by omega) (by omega) (by omega)).trans ((k3 q (by omega)).trans (y7 q hq)))
      · have tb9 := yt_t_b b t
        by_cases z : t = tt
        · have st1 : (ps (i + 1)).1 t = yy_ud ((ps i).1 t) r e := by rw [e1, z]; show (if tt = (ps i).2.1 then yy_ud ((ps i).1 tt) r (ps i).2.2 else (ps i).1 tt) = _; rw [if_pos htt, ← hee]
          rw [st1, z]
          exact k2.to (fun q a1 a2 => fr q (by omega) (by omega) (by omega))
        · have st1 : (ps (i + 1)).1 t = (ps i).1 t := by rw [e1]; show (if t = (ps i).2.1 then yy_ud ((ps i).1 t) r (ps i).2.2 else (ps i).1 t) = _; rw [if_neg (by omega)]
          rw [st1]
          have dj : yt_t b t + 103 ≤ yt_t b tt ∨ yt_t b tt + 103 ≤ yt_t b t := by unfold yt_t; split <;> split <;> omega
          exact (y2 t ht).to (fun q a1 a2 => (fr q (by omega) (by omega) (by omega)).trans (k3 q (by omega)))
      · by_cases z : j = i
        · subst z
          rw [pk_us, pk_us, pk_us, ← hee, ← hgg, ← htt]
          exact ⟨rfl, rfl, rfl⟩
        · rw [pk_un z, pk_un z, pk_un z]; exact y6 j (by omega)
