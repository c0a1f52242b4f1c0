/-! ===== the reference's divide, to its end ===== -/
set_option maxRecDepth 100000 in
theorem c_X9_trim0 {G : xx_G} {l : Launch} {A : xx_H} {b : Nat} {u0 : Value} {us : List Value} {a n : Nat} {f g h : Nat → Int32} {D : Nat → Nat} {v : Int} (hb : A.2 b = xx_o 9 (u0 :: .ref (b + 1) :: .ref (b + 2) :: .ref (b + 3) :: us)) (hf : A.2 (b + 1) = xx_i 69600 f) (hg : A.2 (b + 2) = xx_i 1740 g) (hh : A.2 (b + 3) = xx_i 1740 h) (ha : a < 1740) (hn : n ≤ 40) (hD : ∀ i, i < n → D i < 65536 ∧ f (40 * a + i) = nI (D i)) (hv : v.natAbs = yy_val 65536 D n) (hs : v ≠ 0 → h a = iz v.sign) : xx_X G l mX9_trim 0 0 0 0 (lv_args 0 [.ref b, .int (nI a), .int (nI n)]) [] A (fun q B => q = .inl none ∧ B.1 = A.1 ∧ (∃ g2 h2, B.2 (b + 2) = xx_i 1740 g2 ∧ B.2 (b + 3) = xx_i 1740 h2 ∧ xx_nr f g2 h2 a v ∧ (∀ r, r ≠ a → g2 r = g r) ∧ (∀ r, r ≠ a → h2 r = h r)) ∧ ∀ q, q ≠ b + 2 → q ≠ b + 3 → B.2 q = A.2 q) := by
  refine xx_clv (lv2 := [(0, .ref b), (1, .int (nI a)), (2, .int (nI n))]) rfl ?_
  refine xx_iload_n dX9_trim_0 rfl ?_
  refine xx_istore_n dX9_trim_1 (by decide) ?_
  refine xx_clv (lv2 := [(0, .ref b), (1, .int (nI a)), (2, .int (nI n)), (3, .int (nI n))]) rfl ?_
  refine xx_less [0, 1, 3] ?_
  refine xx_clv (lv2 := [(0, .ref b), (1, .int (nI a)), (3, .int (nI n))]) rfl ?_
  refine l_X9_trim (V := yy_val 65536 D n) (lv2 := .null) hb ha hf (fun m m1 m2 m3 m4 => ?_) n hn hD rfl
  rw [← hv] at m3
  refine xx_aload_n dX9_trim_28 rfl ?_
  refine xx_get xx_c9 dX9_trim_29 wf_X9_14 (j := 2) (by decide) hb rfl ?_
  refine xx_iload_n dX9_trim_32 rfl ?_
  refine xx_iload_n dX9_trim_33 rfl ?_
  refine xx_iast dX9_trim_34 hg (vp_in_nI (by omega) (by decide)) (xx_gu fun B z1 h1 o1 => ?_)
  rw [nI_clamp (by omega)] at h1
  have hb2 := (o1 b (by omega)).trans hb
  have hh2 := (o1 (b + 3) (by omega)).trans hh
  refine xx_aload_n dX9_trim_35 rfl ?_
  refine xx_get xx_c9 dX9_trim_36 wf_X9_17 (j := 3) (by decide) hb2 rfl ?_
  refine xx_iload_n dX9_trim_39 rfl ?_
  refine xx_iload_n dX9_trim_40 rfl ?_
  refine xx_if_ne (tgt := 48) dX9_trim_41 (by decide) (fun j41 => ?_) (fun j41 => ?_)
  · have j41 : ¬ m = 0 := fun hq9 => j41 ((nI_eq (a := m) (b := 0) (by omega) (by omega)).mpr hq9)
    refine xx_aload_n dX9_trim_48 rfl ?_
    refine xx_get xx_c9 dX9_trim_49 wf_X9_17 (j := 3) (by decide) hb2 rfl ?_
    refine xx_iload_n dX9_trim_52 rfl ?_
    refine xx_iald dX9_trim_53 hh2 (vp_in_nI (by omega) (by decide)) ?_
    refine xx_eqi (y := h a) (by rw [nI_clamp (by omega)]) ?_
    refine xx_iast dX9_trim_54 hh2 (vp_in_nI (by omega) (by decide)) (xx_gu fun C z2 h2 o2 => ?_)
    rw [nI_clamp (by omega)] at h2
    refine xx_vret dX9_trim_55 rfl ⟨rfl, by omega, ⟨_, _, (o2 _ (by omega)).trans h1, h2, ?_, fun r e => pk_un e, fun r e => pk_un e⟩, fun q a1 a2 => (o2 q a2).trans (o1 q a1)⟩
    have hv0 : v ≠ 0 := by
      intro q; subst q
      obtain ⟨m0, rfl⟩ : ∃ m0, m = m0 + 1 := ⟨m - 1, by omega⟩
      have a1 := yy_val_top (β := 65536) (D := D) (n := m0) (m2 (by omega))
      rw [m3] at a1
      have a2 : 0 < 65536 ^ m0 := Nat.pow_pos (by decide)
      simp at a1
    exact ⟨pk_us.trans (hs hv0), m, pk_us, m1, D, m4, m2, m3.symm⟩
  · have j41 : m = 0 := (nI_eq (a := m) (b := 0) (by omega) (by omega)).mp j41
    refine xx_iconst (v := 0) dX9_trim_44 (by decide) ?_
    refine xx_goto (tgt := 54) dX9_trim_45 (by decide) ?_
    refine xx_iast dX9_trim_54 hh2 (vp_in_nI (by omega) (by decide)) (xx_gu fun C z2 h2 o2 => ?_)
    rw [nI_clamp (by omega)] at h2
    refine xx_vret dX9_trim_55 rfl ⟨rfl, by omega, ⟨_, _, (o2 _ (by omega)).trans h1, h2, ?_, fun r e => pk_un e, fun r e => pk_un e⟩, fun q a1 a2 => (o2 q a2).trans (o1 q a1)⟩
    have hv0 : v = 0 := by
      subst j41
      have : v.natAbs = 0 := m3.symm
      omega
    exact ⟨by rw [pk_us, hv0]; rfl, m, pk_us, m1, D, m4, m2, m3.symm⟩
set_option maxRecDepth 100000 in
theorem l_X9_dm {G : xx_G} {l : Launch} {A : xx_H} {b : Nat} {th m n hr st hl en tu : Value} {c d na nb sh pl NN : Nat} {sg : Int32} {f g : Nat → Int32} {X Y : Nat → Nat} {Q : Option Value ⊕ String → xx_H → Prop} (hb : A.2 b = xx_o 9 (xx_mf b th m n hr st hl en tu)) (hy : A.2 (b + 18) = xx_i 42 g) (hc : c < 1740) (hnb : 1 ≤ nb) (hp : pl + nb ≤ 41) (hp2 : pl ≤ 40) (hX : ∀ i, i < pl + nb → X i < 65536) (hY : ∀ i, i < nb → Y i < 65536 ∧ g i = nI (Y i)) (hn : 65536 ≤ 2 * Y (nb - 1)) (k : ∀ (B : xx_H) (fp f1 : Nat → Int32) (Wd Z : Nat → Nat), B.1 = A.1 → B.2 (b + 1) = xx_i 69600 fp → B.2 (b + 17) = xx_i 42 f1 → (∀ w, w < 0 → f1 w = nI (X w)) → (∀ w, w < nb → Wd w < 65536 ∧ f1 (0 + w) = nI (Wd w)) → (0 < pl → f1 (0 + nb) = nI 0) → yy_val 65536 Wd nb < yy_val 65536 Y nb → (∀ w, 0 ≤ w → w < pl → Z w < 65536 ∧ fp (40 * c + w) = nI (Z w)) → (∀ w, w < 40 * c ∨ 40 * c + 40 ≤ w → fp w = f w) → yy_val 65536 X 0 + 65536 ^ 0 * yy_val 65536 Wd nb + 65536 ^ 0 * yy_val 65536 (yy_sh Z 0) (pl - 0) * yy_val 65536 Y nb = NN → (∀ q, q ≠ b + 1 → q ≠ b + 17 → B.2 q = A.2 q) → xx_X G l mX9_divide 1 0 0 683 [(0, .ref b), (3, .int (nI c)), (4, .int (nI d)), (5, .int (nI na)), (6, .int (nI nb)), (7, .int sg), (8, .int (nI sh))] [] B Q) :
    ∀ (v : Nat), v ≤ pl → ∀ (B : xx_H) (fp f1 : Nat → Int32) (Wd Z : Nat → Nat), B.1 = A.1 → B.2 (b + 1) = xx_i 69600 fp → B.2 (b + 17) = xx_i 42 f1 → (∀ w, w < v → f1 w = nI (X w)) → (∀ w, w < nb → Wd w < 65536 ∧ f1 (v + w) = nI (Wd w)) → (v < pl → f1 (v + nb) = nI 0) → yy_val 65536 Wd nb < yy_val 65536 Y nb → (∀ w, v ≤ w → w < pl → Z w < 65536 ∧ fp (40 * c + w) = nI (Z w)) → (∀ w, w < 40 * c ∨ 40 * c + 40 ≤ w → fp w = f w) → yy_val 65536 X v + 65536 ^ v * yy_val 65536 Wd nb + 65536 ^ v * yy_val 65536 (yy_sh Z v) (pl - v) * yy_val 65536 Y nb = NN → (∀ q, q ≠ b + 1 → q ≠ b + 17 → B.2 q = A.2 q) → xx_X G l mX9_divide 1 0 0 285 [(0, .ref b), (3, .int (nI c)), (4, .int (nI d)), (5, .int (nI na)), (6, .int (nI nb)), (7, .int sg), (8, .int (nI sh)), (9, .int (nI v + (-1)))] [] B Q := by
  intro v
  induction v with
  | zero =>
    intro hv B fp f1 Wd Z y1 ya y2 y4 y5 y6 y7 y8 yo y9 y0
    refine xx_clv (lv2 := [(0, .ref b), (3, .int (nI c)), (4, .int (nI d)), (5, .int (nI na)), (6, .int (nI nb)), (7, .int sg), (8, .int (nI sh)), (9, .int (-1))]) rfl ?_
    refine xx_iload dX9_divide_285 rfl ?_
    refine xx_if_lt (tgt := 683) dX9_divide_287 (by decide) (fun j287 => ?_) (fun h => absurd (by decide) h)
    refine xx_less [0, 3, 4, 5, 6, 7, 8] ?_
    refine xx_clv (lv2 := [(0, .ref b), (3, .int (nI c)), (4, .int (nI d)), (5, .int (nI na)), (6, .int (nI nb)), (7, .int sg), (8, .int (nI sh))]) rfl ?_
    exact k B fp f1 Wd Z y1 ya y2 y4 y5 y6 y7 y8 yo y9 y0
  | succ v ih =>
    intro hv B fp f1 Wd Z y1 ya y2 y4 y5 y6 y7 y8 yo y9 y0
    have hb2 := (y0 b (by omega) (by omega)).trans hb
    have hy2 := (y0 (b + 18) (by omega) (by omega)).trans hy
    obtain ⟨Xs, hXs⟩ : ∃ Xs, Xs = yy_cs (X v) Wd := ⟨_, rfl⟩
    have wX : ∀ i, i ≤ nb → Xs i < 65536 ∧ f1 (v + i) = nI (Xs i) := by
      intro i hi
      rw [hXs]
      unfold yy_cs
      by_cases e : i = 0
      · subst e; rw [if_pos rfl]; exact ⟨hX v (by omega), y4 v (by omega)⟩
      · rw [if_neg e]
        have := y5 (i - 1) (by omega)
        rw [show v + 1 + (i - 1) = v + i by omega] at this
        exact this
    have wW : yy_val 65536 Xs (nb + 1) = X v + 65536 * yy_val 65536 Wd nb := by rw [hXs]; exact yy_cs_val nb
    have wV0 : 0 < yy_val 65536 Y nb := Nat.lt_of_le_of_lt (Nat.zero_le _) y7
    have wVP : yy_val 65536 Y nb < 65536 ^ nb := yy_val_lt (fun i hi => (hY i hi).1)
    have wL : yy_val 65536 Xs (nb + 1) < 65536 * yy_val 65536 Y nb := by
      rw [wW]
      have a1 : 65536 * (yy_val 65536 Wd nb + 1) ≤ 65536 * yy_val 65536 Y nb := Nat.mul_le_mul_left _ y7
      have a2 := hX v (by omega)
      omega
    obtain ⟨lead, hlead⟩ : ∃ lead, lead = Y (nb - 1) := ⟨_, rfl⟩
    have pl0 : lead < 65536 := by rw [hlead]; exact (hY (nb - 1) (by omega)).1
    have ql0 : g (nb - 1) = nI lead := by rw [hlead]; exact (hY (nb - 1) (by omega)).2
    have hn2 : 65536 ≤ 2 * lead := by rw [hlead]; exact hn
    obtain ⟨pt, qt⟩ := wX nb (Nat.le_refl _)
    obtain ⟨pu, qu⟩ := wX (nb - 1) (by omega)
    obtain ⟨tt, htt⟩ : ∃ tt, tt = Xs nb * 65536 + Xs (nb - 1) := ⟨_, rfl⟩
    have hqb : tt / lead ≤ tt := Nat.div_le_self _ _
    have hrb : tt % lead < lead := Nat.mod_lt _ (by omega)
    -- what both ways end in
    have J : ∀ s2 x2 : Nat, (1 < nb → s2 = Y (nb - 2) ∧ x2 = Xs (nb - 2)) → (¬ 1 < nb → s2 = 0 ∧ x2 = 0) → xx_X G l mX9_divide 1 0 0 373 [(0, .ref b), (3, .int (nI c)), (4, .int (nI d)), (5, .int (nI na)), (6, .int (nI nb)), (7, .int sg), (8, .int (nI sh)), (9, .int (nI v)), (12, .long (lN (tt / lead))), (14, .long (lN (tt % lead))), (16, .long (lN s2))] [] B Q := by
      intro s2 x2 c1 c2
      have b2 : s2 < 65536 := by
        by_cases e : 1 < nb
        · rw [(c1 e).1]; exact (hY (nb - 2) (by omega)).1
        · rw [(c2 e).1]; decide
      have b3 : x2 < 65536 := by
        by_cases e : 1 < nb
        · rw [(c1 e).2]; exact (wX (nb - 2) (by omega)).1
        · rw [(c2 e).2]; decide
      obtain ⟨g1, g2, g3⟩ := yy_gw2 (s2 := s2) (x2 := x2) hnb (fun i hi => (wX i hi).1) (fun i hi => (hY i hi).1) hn wL c1 c2
      rw [← hlead, ← htt] at g1 g2 g3
      refine l_X9_gu (j := v) (lead := lead) (x2 := x2) hb2 y2 hy2 hnb (by omega) ql0 pl0 b2 b3 (fun e => by rw [(c1 e).2]; exact (wX (nb - 2) (by omega)).2) (fun e => (c2 e).2) ?_ 3 _ _ (by omega) (by omega) (by omega) rfl
      generalize (yy_gr 65536 lead s2 x2 3 (tt / lead, tt % lead)).1 = Gd at g1 g2 g3
      refine c_X9_dg (X := Xs) (Y := Y) hb2 y2 hy2 (by omega) g3 wX hY hnb wV0 g1 g2 (fun C f2 R k1 k2 k3 k4 k5 k6 => ?_)
      have hb3 := (k6 b (by omega)).trans hb2
      have ha3 := (k6 (b + 1) (by omega)).trans ya
      have hqb : yy_val 65536 Xs (nb + 1) / yy_val 65536 Y nb < 65536 := Nat.div_lt_of_lt_mul (by rw [Nat.mul_comm (yy_val 65536 Y nb)]; exact wL)
      have hml := Nat.mod_lt (yy_val 65536 Xs (nb + 1)) wV0
      obtain ⟨r1, r2⟩ := yy_tz (β := 65536) (D := R) (n := nb) (by rw [k5]; omega)
      have hdm := Nat.div_add_mod (yy_val 65536 Xs (nb + 1)) (yy_val 65536 Y nb)
      rw [r2] at k5
      rw [← k5] at hdm hml
      generalize yy_val 65536 Xs (nb + 1) / yy_val 65536 Y nb = q0 at hqb hdm ⊢
      rw [wW] at hdm
      refine xx_aload_n dX9_divide_662 rfl ?_
      refine xx_get xx_c9 dX9_divide_663 wf_X9_8 (j := 1) (by decide) hb3 rfl ?_
      refine xx_bipush (v := 40) dX9_divide_666 (by decide) ?_
      refine xx_iload_n dX9_divide_668 rfl ?_
      refine xx_imul dX9_divide_669 ?_
      refine xx_eqi (y := nI (40 * c)) (pk_mul 40 c) ?_
      refine xx_iload dX9_divide_670 rfl ?_
      refine xx_iadd dX9_divide_672 ?_
      refine xx_eqi (y := nI (40 * c + v)) (nI_add (40 * c) v) ?_
      refine xx_lload dX9_divide_673 rfl ?_
      refine xx_l2i dX9_divide_675 ?_
      refine xx_eqi (y := nI q0) (lN_i _) ?_
      refine xx_iast dX9_divide_676 ha3 (vp_in_nI (by omega) (by decide)) (xx_gu fun D z1 h1 o1 => ?_)
      rw [nI_clamp (by omega)] at h1
      refine xx_iinc (v := nI v + (-1)) dX9_divide_677 rfl rfl (by decide) ?_
      refine xx_goto (tgt := 285) dX9_divide_680 (by decide) ?_
      refine xx_less [0, 3, 4, 5, 6, 7, 8, 9] ?_
      refine xx_clv (lv2 := [(0, .ref b), (3, .int (nI c)), (4, .int (nI d)), (5, .int (nI na)), (6, .int (nI nb)), (7, .int sg), (8, .int (nI sh)), (9, .int (nI v + (-1)))]) rfl ?_
      refine ih (by omega) D _ f2 R (yy_ud Z v q0) (by omega) h1 ((o1 _ (by omega)).trans k2) (fun w hw => (k4 w (by omega)).trans (y4 w (by omega))) (fun w hw => k3 w (by omega)) (fun _ => by rw [(k3 nb (Nat.le_refl _)).2, r1]) hml (fun w h5 h6 => ?_) (fun w hw => (pk_un (by omega)).trans (yo w hw)) ?_ (fun q h5 h6 => (o1 q h5).trans ((k6 q h6).trans (y0 q h5 h6)))
      · by_cases e9 : w = v
        · subst e9; rw [pk_us, yy_ud_s]; exact ⟨hqb, rfl⟩
        · rw [pk_un (by omega), yy_ud_n e9]; exact y8 w (by omega) h6
      · have e1 : pl - v = pl - (v + 1) + 1 := by omega
        rw [e1, yy_sh_cons, yy_ud_s]
        have e2 : yy_val 65536 (yy_sh (yy_ud Z v q0) (v + 1)) (pl - (v + 1)) = yy_val 65536 (yy_sh Z (v + 1)) (pl - (v + 1)) := yy_val_ext (fun i _ => yy_ud_n (by omega))
        rw [e2]
        have e3 : yy_val 65536 X (v + 1) = yy_val 65536 X v + X v * 65536 ^ v := rfl
        rw [e3, Nat.pow_succ] at y9
        exact yy_wstep (n := 0) (m := 0) y9 (by rw [Nat.mul_comm q0]; exact hdm.symm)
    refine xx_clv (lv2 := [(0, .ref b), (3, .int (nI c)), (4, .int (nI d)), (5, .int (nI na)), (6, .int (nI nb)), (7, .int sg), (8, .int (nI sh)), (9, .int (nI v))]) (by rw [pk_m1]) ?_
    refine xx_iload dX9_divide_285 rfl ?_
    refine xx_if_lt (tgt := 683) dX9_divide_287 (by decide) (fun h => absurd h (nI_pos (by omega))) (fun j287 => ?_)
    refine xx_aload_n dX9_divide_290 rfl ?_
    refine xx_get xx_c9 dX9_divide_291 wf_X9_65 (j := 23) (by decide) hb2 rfl ?_
    refine xx_iload dX9_divide_294 rfl ?_
    refine xx_iload dX9_divide_296 rfl ?_
    refine xx_iadd dX9_divide_298 ?_
    refine xx_eqi (y := nI (v + nb)) (nI_add v nb) ?_
    refine xx_iald dX9_divide_299 y2 (vp_in_nI (by omega) (by decide)) ?_
    refine xx_eqi (y := nI (Xs nb)) (by rw [nI_clamp (by omega)]; exact qt) ?_
    refine xx_i2l dX9_divide_300 ?_
    refine xx_eql (y := lN (Xs nb)) (nI_l (by omega)) ?_
    refine xx_ldc2 (v := 65536) dX9_divide_301 wk_X9_102 ?_
    refine xx_lmul dX9_divide_304 ?_
    refine xx_eql (y := lN ((Xs nb) * 65536)) (lN_mul (Xs nb) 65536) ?_
    refine xx_aload_n dX9_divide_305 rfl ?_
    refine xx_get xx_c9 dX9_divide_306 wf_X9_65 (j := 23) (by decide) hb2 rfl ?_
    refine xx_iload dX9_divide_309 rfl ?_
    refine xx_iload dX9_divide_311 rfl ?_
    refine xx_iadd dX9_divide_313 ?_
    refine xx_eqi (y := nI (v + nb)) (nI_add v nb) ?_
    refine xx_iconst (v := 1) dX9_divide_314 (by decide) ?_
    refine xx_isub dX9_divide_315 ?_
    refine xx_eqi (y := nI ((v + nb) - 1)) (pk_sub (a := v + nb) (b := 1) (by omega)) ?_
    refine xx_eqi (y := nI (v + (nb - 1))) (by rw [show v + nb - 1 = v + (nb - 1) by omega]) ?_
    refine xx_iald dX9_divide_316 y2 (vp_in_nI (by omega) (by decide)) ?_
    refine xx_eqi (y := nI (Xs (nb - 1))) (by rw [nI_clamp (by omega)]; exact qu) ?_
    refine xx_i2l dX9_divide_317 ?_
    refine xx_eql (y := lN (Xs (nb - 1))) (nI_l (by omega)) ?_
    refine xx_ladd dX9_divide_318 ?_
    refine xx_eql (y := lN tt) (by rw [htt]; exact lN_add _ _) ?_
    refine xx_lstore dX9_divide_319 (by decide) ?_
    refine xx_clv (lv2 := [(0, .ref b), (3, .int (nI c)), (4, .int (nI d)), (5, .int (nI na)), (6, .int (nI nb)), (7, .int sg), (8, .int (nI sh)), (9, .int (nI v)), (10, .long (lN tt))]) rfl ?_
    refine xx_lload dX9_divide_321 rfl ?_
    refine xx_aload_n dX9_divide_323 rfl ?_
    refine xx_get xx_c9 dX9_divide_324 wf_X9_68 (j := 24) (by decide) hb2 rfl ?_
    refine xx_iload dX9_divide_327 rfl ?_
    refine xx_iconst (v := 1) dX9_divide_329 (by decide) ?_
    refine xx_isub dX9_divide_330 ?_
    refine xx_eqi (y := nI (nb - 1)) (pk_sub (a := nb) (b := 1) (by omega)) ?_
    refine xx_iald dX9_divide_331 hy2 (vp_in_nI (by omega) (by decide)) ?_
    refine xx_eqi (y := nI lead) (by rw [nI_clamp (by omega)]; exact ql0) ?_
    refine xx_i2l dX9_divide_332 ?_
    refine xx_eql (y := lN lead) (nI_l (by omega)) ?_
    refine xx_ldiv dX9_divide_333 (yy_lne0 (n := lead) (by omega) (by omega)) ?_
    refine xx_eql (y := lN (tt / lead)) (pk_lDiv (by omega) (by omega) (by omega)) ?_
    refine xx_lstore dX9_divide_334 (by decide) ?_
    refine xx_clv (lv2 := [(0, .ref b), (3, .int (nI c)), (4, .int (nI d)), (5, .int (nI na)), (6, .int (nI nb)), (7, .int sg), (8, .int (nI sh)), (9, .int (nI v)), (10, .long (lN tt)), (12, .long (lN (tt / lead)))]) rfl ?_
    refine xx_lload dX9_divide_336 rfl ?_
    refine xx_aload_n dX9_divide_338 rfl ?_
    refine xx_get xx_c9 dX9_divide_339 wf_X9_68 (j := 24) (by decide) hb2 rfl ?_
    refine xx_iload dX9_divide_342 rfl ?_
    refine xx_iconst (v := 1) dX9_divide_344 (by decide) ?_
    refine xx_isub dX9_divide_345 ?_
    refine xx_eqi (y := nI (nb - 1)) (pk_sub (a := nb) (b := 1) (by omega)) ?_
    refine xx_iald dX9_divide_346 hy2 (vp_in_nI (by omega) (by decide)) ?_
    refine xx_eqi (y := nI lead) (by rw [nI_clamp (by omega)]; exact ql0) ?_
    refine xx_i2l dX9_divide_347 ?_
    refine xx_eql (y := lN lead) (nI_l (by omega)) ?_
    refine xx_lrem dX9_divide_348 (yy_lne0 (n := lead) (by omega) (by omega)) ?_
    refine xx_eql (y := lN (tt % lead)) (pk_lRem (by omega) (by omega) (by omega)) ?_
    refine xx_lstore dX9_divide_349 (by decide) ?_
    refine xx_clv (lv2 := [(0, .ref b), (3, .int (nI c)), (4, .int (nI d)), (5, .int (nI na)), (6, .int (nI nb)), (7, .int sg), (8, .int (nI sh)), (9, .int (nI v)), (10, .long (lN tt)), (12, .long (lN (tt / lead))), (14, .long (lN (tt % lead)))]) rfl ?_
    refine xx_iload dX9_divide_351 rfl ?_
    refine xx_iconst (v := 1) dX9_divide_353 (by decide) ?_
    refine xx_icmp_le (tgt := 370) dX9_divide_354 (by decide) (fun j354 => ?_) (fun j354 => ?_)
    · have j354 : nb ≤ 1 := (nI_leI (a := nb) (b := 1) (by omega) (by omega)).mp j354
      refine xx_lconst (v := 0) dX9_divide_370 (by decide) ?_
      refine xx_lstore dX9_divide_371 (by decide) ?_
      refine xx_clv (lv2 := [(0, .ref b), (3, .int (nI c)), (4, .int (nI d)), (5, .int (nI na)), (6, .int (nI nb)), (7, .int sg), (8, .int (nI sh)), (9, .int (nI v)), (10, .long (lN tt)), (12, .long (lN (tt / lead))), (14, .long (lN (tt % lead))), (16, .long 0)]) rfl ?_
      refine xx_less [0, 3, 4, 5, 6, 7, 8, 9, 12, 14, 16] ?_
      refine xx_clv (lv2 := [(0, .ref b), (3, .int (nI c)), (4, .int (nI d)), (5, .int (nI na)), (6, .int (nI nb)), (7, .int sg), (8, .int (nI sh)), (9, .int (nI v)), (12, .long (lN (tt / lead))), (14, .long (lN (tt % lead))), (16, .long (lN 0))]) rfl ?_
      exact J 0 0 (fun h => absurd h (by omega)) (fun _ => ⟨rfl, rfl⟩)
    · have j354 : ¬ nb ≤ 1 := fun hq9 => j354 ((nI_leI (a := nb) (b := 1) (by omega) (by omega)).mpr hq9)
      refine xx_aload_n dX9_divide_357 rfl ?_
      refine xx_get xx_c9 dX9_divide_358 wf_X9_68 (j := 24) (by decide) hb2 rfl ?_
      refine xx_iload dX9_divide_361 rfl ?_
      refine xx_iconst (v := 2) dX9_divide_363 (by decide) ?_
      refine xx_isub dX9_divide_364 ?_
      refine xx_eqi (y := nI (nb - 2)) (pk_sub (a := nb) (b := 2) (by omega)) ?_
      refine xx_iald dX9_divide_365 hy2 (vp_in_nI (by omega) (by decide)) ?_
      refine xx_eqi (y := nI (Y (nb - 2))) (by rw [nI_clamp (by omega)]; exact (hY (nb - 2) (by omega)).2) ?_
      have pY2 := (hY (nb - 2) (by omega)).1
      refine xx_i2l dX9_divide_366 ?_
      refine xx_eql (y := lN (Y (nb - 2))) (nI_l (by omega)) ?_
      refine xx_goto (tgt := 371) dX9_divide_367 (by decide) ?_
      refine xx_lstore dX9_divide_371 (by decide) ?_
      refine xx_clv (lv2 := [(0, .ref b), (3, .int (nI c)), (4, .int (nI d)), (5, .int (nI na)), (6, .int (nI nb)), (7, .int sg), (8, .int (nI sh)), (9, .int (nI v)), (10, .long (lN tt)), (12, .long (lN (tt / lead))), (14, .long (lN (tt % lead))), (16, .long (lN (Y (nb - 2))))]) rfl ?_
      refine xx_less [0, 3, 4, 5, 6, 7, 8, 9, 12, 14, 16] ?_
      refine xx_clv (lv2 := [(0, .ref b), (3, .int (nI c)), (4, .int (nI d)), (5, .int (nI na)), (6, .int (nI nb)), (7, .int sg), (8, .int (nI sh)), (9, .int (nI v)), (12, .long (lN (tt / lead))), (14, .long (lN (tt % lead))), (16, .long (lN (Y (nb - 2))))]) rfl ?_
      exact J _ _ (fun _ => ⟨rfl, rfl⟩) (fun h => absurd h (by omega))
set_option maxRecDepth 100000 in
theorem l_X9_us {G : xx_G} {l : Launch} {A : xx_H} {b : Nat} {th m n hr st hl en tu : Value} {c d na nb sh : Nat} {sg : Int32} {f fp : Nat → Int32} {X : Nat → Nat} {Q : Option Value ⊕ String → xx_H → Prop} (hb : A.2 b = xx_o 9 (xx_mf b th m n hr st hl en tu)) (hr : A.2 (b + 17) = xx_i 42 f) (hd : d < 1740) (hnb : nb ≤ 40) (hsh : sh ≤ 15) (hX : ∀ i, i ≤ nb → X i < 65536 ∧ f i = nI (X i)) (k : ∀ (B : xx_H) (fq : Nat → Int32), B.1 = A.1 → B.2 (b + 1) = xx_i 69600 fq → (∀ w, w < nb → fq (40 * d + w) = nI ((X (w + 1) * 2 ^ (16 - sh) + X w / 2 ^ sh) % 65536)) → (∀ w, w < 40 * d ∨ 40 * d + 40 ≤ w → fq w = fp w) → (∀ q, q ≠ b + 1 → B.2 q = A.2 q) → xx_X G l mX9_divide 1 0 0 741 [(0, .ref b), (3, .int (nI c)), (4, .int (nI d)), (5, .int (nI na)), (6, .int (nI nb)), (7, .int sg), (8, .int (nI sh))] [] B Q) :
    ∀ (t i : Nat), i + t = nb → ∀ (B : xx_H) (fq : Nat → Int32), B.1 = A.1 → B.2 (b + 1) = xx_i 69600 fq → (∀ w, w < i → fq (40 * d + w) = nI ((X (w + 1) * 2 ^ (16 - sh) + X w / 2 ^ sh) % 65536)) → (∀ w, w < 40 * d ∨ 40 * d + 40 ≤ w → fq w = fp w) → (∀ q, q ≠ b + 1 → B.2 q = A.2 q) → xx_X G l mX9_divide 1 0 0 686 [(0, .ref b), (3, .int (nI c)), (4, .int (nI d)), (5, .int (nI na)), (6, .int (nI nb)), (7, .int sg), (8, .int (nI sh)), (9, .int (nI i))] [] B Q := by
  intro t
  induction t with
  | zero =>
    intro i hi B fq y1 y2 y3 y4 y5
    have : i = nb := by omega
    subst this
    refine xx_iload dX9_divide_686 rfl ?_
    refine xx_iload dX9_divide_688 rfl ?_
    refine xx_icmp_ge (tgt := 741) dX9_divide_690 (by decide) (fun j690 => ?_) (fun h => absurd (Int32.le_refl _) h)
    refine xx_less [0, 3, 4, 5, 6, 7, 8] ?_
    refine xx_clv (lv2 := [(0, .ref b), (3, .int (nI c)), (4, .int (nI d)), (5, .int (nI na)), (6, .int (nI i)), (7, .int sg), (8, .int (nI sh))]) rfl ?_
    exact k B fq y1 y2 y3 y4 y5
  | succ t ih =>
    intro i hi B fq y1 y2 y3 y4 y5
    have hb2 := (y5 b (by omega)).trans hb
    have hr2 := (y5 (b + 17) (by omega)).trans hr
    obtain ⟨p1, q1⟩ := hX i (by omega)
    obtain ⟨p2, q2⟩ := hX (i + 1) (by omega)
    have e16 : 2 ^ sh * 2 ^ (16 - sh) = 65536 := by rw [← Nat.pow_add, show sh + (16 - sh) = 16 by omega]
    have hlo : X i / 2 ^ sh < 2 ^ (16 - sh) := Nat.div_lt_of_lt_mul (by rw [e16]; exact p1)
    refine xx_iload dX9_divide_686 rfl ?_
    refine xx_iload dX9_divide_688 rfl ?_
    refine xx_icmp_ge (tgt := 741) dX9_divide_690 (by decide) (fun h => absurd h (nI_ge (by omega) (by omega))) (fun j690 => ?_)
    refine xx_aload_n dX9_divide_693 rfl ?_
    refine xx_get xx_c9 dX9_divide_694 wf_X9_8 (j := 1) (by decide) hb2 rfl ?_
    refine xx_bipush (v := 40) dX9_divide_697 (by decide) ?_
    refine xx_iload dX9_divide_699 rfl ?_
    refine xx_imul dX9_divide_701 ?_
    refine xx_eqi (y := nI (40 * d)) (pk_mul 40 d) ?_
    refine xx_iload dX9_divide_702 rfl ?_
    refine xx_iadd dX9_divide_704 ?_
    refine xx_eqi (y := nI (40 * d + i)) (nI_add (40 * d) i) ?_
    refine xx_aload_n dX9_divide_705 rfl ?_
    refine xx_get xx_c9 dX9_divide_706 wf_X9_65 (j := 23) (by decide) hb2 rfl ?_
    refine xx_iload dX9_divide_709 rfl ?_
    refine xx_iald dX9_divide_711 hr2 (vp_in_nI (by omega) (by decide)) ?_
    refine xx_eqi (y := nI (X i)) (by rw [nI_clamp (by omega)]; exact q1) ?_
    refine xx_iload dX9_divide_712 rfl ?_
    refine xx_ishr dX9_divide_714 ?_
    refine xx_eqi (y := nI (X i / 2 ^ sh)) (yy_ishr (by omega) (by omega)) ?_
    refine xx_aload_n dX9_divide_715 rfl ?_
    refine xx_get xx_c9 dX9_divide_716 wf_X9_65 (j := 23) (by decide) hb2 rfl ?_
    refine xx_iload dX9_divide_719 rfl ?_
    refine xx_iconst (v := 1) dX9_divide_721 (by decide) ?_
    refine xx_iadd dX9_divide_722 ?_
    refine xx_eqi (y := nI (i + 1)) (nI_add i 1) ?_
    refine xx_iald dX9_divide_723 hr2 (vp_in_nI (by omega) (by decide)) ?_
    refine xx_eqi (y := nI (X (i + 1))) (by rw [nI_clamp (by omega)]; exact q2) ?_
    refine xx_bipush (v := 16) dX9_divide_724 (by decide) ?_
    refine xx_iload dX9_divide_726 rfl ?_
    refine xx_isub dX9_divide_728 ?_
    refine xx_eqi (y := nI (16 - sh)) (pk_sub (a := 16) (b := sh) (by omega)) ?_
    refine xx_ishl dX9_divide_729 ?_
    refine xx_ior dX9_divide_730 ?_
    refine xx_ldc (v := 65535) dX9_divide_731 wk_X9_93 ?_
    refine xx_iand dX9_divide_733 ?_
    refine xx_eqi (y := nI ((X (i + 1) * 2 ^ (16 - sh) + X i / 2 ^ sh) % 65536)) (yy_or16 hlo (by omega) p2) ?_
    refine xx_iast dX9_divide_734 y2 (vp_in_nI (by omega) (by decide)) (xx_gu fun C z1 h1 o1 => ?_)
    rw [nI_clamp (by omega)] at h1
    refine xx_iinc (v := nI (i + 1)) dX9_divide_735 rfl (nI_1 i) (by decide) ?_
    refine xx_goto (tgt := 686) dX9_divide_738 (by decide) ?_
    refine xx_less [0, 3, 4, 5, 6, 7, 8, 9] ?_
    refine xx_clv (lv2 := [(0, .ref b), (3, .int (nI c)), (4, .int (nI d)), (5, .int (nI na)), (6, .int (nI nb)), (7, .int sg), (8, .int (nI sh)), (9, .int (nI (i + 1)))]) rfl ?_
    refine ih (i + 1) (by omega) C _ (by omega) h1 (fun w hw => ?_) (fun w hw => (pk_un (by omega)).trans (y4 w hw)) (fun q hq => (o1 q hq).trans (y5 q hq))
    by_cases e : w = i
    · subst e; rw [pk_us]
    · rw [pk_un (by omega)]; exact y3 w (by omega)
