/-! ===== the reference's solve, whole ===== -/
def yi_s (a : Nat → Nat → Int) (S U : Nat) : Int := yd_s (yb_c S) (fun c => yk_n a S U c)
/-- all weights have the sign of their sum -/
def yi_g (a : Nat → Nat → Int) (S U : Nat) : Prop := yi_s a S U ≠ 0 ∧ ∀ j, j < yb_c S → 0 < yk_n a S U j * yi_s a S U
set_option maxRecDepth 100000 in
theorem l_X9_s8 {G : xx_G} {l : Launch} {A : xx_H} {b : Nat} {th hr st hl en tu : Value} {m n : Nat} {k9 to9 : Nat} {N : Nat → Int} {r : Nat} {gd : Bool} {Q : Option Value ⊕ String → xx_H → Prop} (hb : A.2 b = xx_o 9 (xx_mf b th (.int (nI m)) (.int (nI n)) hr st hl en tu)) (hN : xx_rw A b N) (h6 : k9 ≤ 6) (hr9 : r ≤ k9) (kC : ∀ gd2 : Bool, (gd2 = true ↔ gd = true ∧ (r = k9 ∨ 0 < N (31 + r) * N 29)) → xx_X G l mX9_solve 5 0 0 409 [(0, .ref b), (4, .int (nI to9)), (5, .int (nI k9)), (7, .int (if gd2 then 1 else 0)), (8, .int (nI r))] [] A Q) : xx_X G l mX9_solve 5 0 0 369 [(0, .ref b), (4, .int (nI to9)), (5, .int (nI k9)), (7, .int (if gd then 1 else 0)), (8, .int (nI r))] [] A Q := by
  obtain ⟨h9, s1, s2⟩ := hN.sg
  cases gd
  · refine xx_clv (lv2 := [(0, .ref b), (4, .int (nI to9)), (5, .int (nI k9)), (7, .int 0), (8, .int (nI r))]) rfl ?_
    refine xx_iload dX9_solve_369 rfl ?_
    refine xx_if_eq (tgt := 406) dX9_solve_371 (by decide) (fun j371 => ?_) (fun h => absurd (by decide) h)
    refine xx_iconst (v := 0) dX9_solve_406 (by decide) ?_
    refine xx_istore dX9_solve_407 (by decide) ?_
    refine xx_clv (lv2 := [(0, .ref b), (4, .int (nI to9)), (5, .int (nI k9)), (7, .int 0), (8, .int (nI r))]) rfl ?_
    refine xx_clv (lv2 := [(0, .ref b), (4, .int (nI to9)), (5, .int (nI k9)), (7, .int (if false then 1 else 0)), (8, .int (nI r))]) rfl ?_
    exact kC false ⟨fun q => absurd q (by decide), fun q => absurd q.1 (by decide)⟩
  · refine xx_clv (lv2 := [(0, .ref b), (4, .int (nI to9)), (5, .int (nI k9)), (7, .int 1), (8, .int (nI r))]) rfl ?_
    refine xx_iload dX9_solve_369 rfl ?_
    refine xx_if_eq (tgt := 406) dX9_solve_371 (by decide) (fun h => absurd h (by decide)) (fun j371 => ?_)
    refine xx_iload dX9_solve_374 rfl ?_
    refine xx_iload dX9_solve_376 rfl ?_
    refine xx_icmp_eq (tgt := 402) dX9_solve_378 (by decide) (fun j378 => ?_) (fun j378 => ?_)
    · have j378 : r = k9 := (nI_eq (a := r) (b := k9) (by omega) (by omega)).mp j378
      refine xx_iconst (v := 1) dX9_solve_402 (by decide) ?_
      refine xx_goto (tgt := 407) dX9_solve_403 (by decide) ?_
      refine xx_istore dX9_solve_407 (by decide) ?_
      refine xx_clv (lv2 := [(0, .ref b), (4, .int (nI to9)), (5, .int (nI k9)), (7, .int 1), (8, .int (nI r))]) rfl ?_
      refine xx_clv (lv2 := [(0, .ref b), (4, .int (nI to9)), (5, .int (nI k9)), (7, .int (if true then 1 else 0)), (8, .int (nI r))]) rfl ?_
      exact kC true ⟨fun _ => ⟨rfl, Or.inl j378⟩, fun _ => rfl⟩
    · have j378 : ¬ r = k9 := fun hq9 => j378 ((nI_eq (a := r) (b := k9) (by omega) (by omega)).mpr hq9)
      refine xx_aload_n dX9_solve_381 rfl ?_
      refine xx_get xx_c9 dX9_solve_382 wf_X9_17 (j := 3) (by decide) hb rfl ?_
      refine xx_bipush (v := 31) dX9_solve_385 (by decide) ?_
      refine xx_iload dX9_solve_387 rfl ?_
      refine xx_iadd dX9_solve_389 ?_
      refine xx_eqi (y := nI (31 + r)) (nI_add 31 r) ?_
      refine xx_iald dX9_solve_390 s1 (vp_in_nI (by omega) (by decide)) ?_
      refine xx_eqi (y := iz (N (31 + r)).sign) (by rw [nI_clamp (by omega)]; exact s2 _ (by omega)) ?_
      refine xx_aload_n dX9_solve_391 rfl ?_
      refine xx_get xx_c9 dX9_solve_392 wf_X9_17 (j := 3) (by decide) hb rfl ?_
      refine xx_bipush (v := 29) dX9_solve_395 (by decide) ?_
      refine xx_iald dX9_solve_397 s1 (by unfold vp_in; decide) ?_
      refine xx_eqi (y := iz (N 29).sign) (s2 29 (by decide)) ?_
      refine xx_imul dX9_solve_398 ?_
      refine xx_if_le (tgt := 406) dX9_solve_399 (by decide) (fun j399 => ?_) (fun j399 => ?_)
      · refine xx_iconst (v := 0) dX9_solve_406 (by decide) ?_
        refine xx_istore dX9_solve_407 (by decide) ?_
        refine xx_clv (lv2 := [(0, .ref b), (4, .int (nI to9)), (5, .int (nI k9)), (7, .int 0), (8, .int (nI r))]) rfl ?_
        refine xx_clv (lv2 := [(0, .ref b), (4, .int (nI to9)), (5, .int (nI k9)), (7, .int (if false then 1 else 0)), (8, .int (nI r))]) rfl ?_
        exact kC false ⟨fun q => absurd q (by decide), fun q => absurd q.2 (fun z => z.elim j378 (fun z => yi_pp.mpr z j399))⟩
      · refine xx_iconst (v := 1) dX9_solve_402 (by decide) ?_
        refine xx_goto (tgt := 407) dX9_solve_403 (by decide) ?_
        refine xx_istore dX9_solve_407 (by decide) ?_
        refine xx_clv (lv2 := [(0, .ref b), (4, .int (nI to9)), (5, .int (nI k9)), (7, .int 1), (8, .int (nI r))]) rfl ?_
        refine xx_clv (lv2 := [(0, .ref b), (4, .int (nI to9)), (5, .int (nI k9)), (7, .int (if true then 1 else 0)), (8, .int (nI r))]) rfl ?_
        exact kC true ⟨fun _ => ⟨rfl, Or.inr (yi_pp.mp j399)⟩, fun _ => rfl⟩
set_option maxRecDepth 100000 in
theorem l_X9_s7 {G : xx_G} {l : Launch} {A : xx_H} {b : Nat} {th hr st hl en tu : Value} {m n : Nat} {k9 to9 : Nat} {N : Nat → Int} {M : Nat → Nat → Int} {s : Int} {X9 : Nat → Int} {Q : Option Value ⊕ String → xx_H → Prop} (hb : A.2 b = xx_o 9 (xx_mf b th (.int (nI m)) (.int (nI n)) hr st hl en tu)) (h6 : k9 ≤ 6) (hs : s = 1 ∨ s = -1) (hM : ∀ c r, (M c r).natAbs ≤ 554344561) (hrow : ∀ r, r < k9 + 1 → yj_r (k9 + 1) (k9 + 2) M r N) (h29 : N 29 = s * yj_D (k9 + 1) M) (hX : ∀ j, j < k9 + 1 → X9 j = yh_T (k9 + 1) (yj_a M) (fun i => i) j (k9 + 1)) (kC : ∀ (B : xx_H) (N2 : Nat → Int) (gd : Bool), B.1 = A.1 → xx_rw B b N2 → (∀ j, 0 ≤ j → j < k9 + 1 → N2 (31 + j) = s * X9 j) → (gd = true ↔ ∀ j, 0 ≤ j → j < k9 → 0 < X9 j * yj_D (k9 + 1) M) → (∀ q, q ≠ 10 → q ≠ 11 → q ≠ 12 → (q < 31 ∨ 38 ≤ q) → N2 q = N q) → (∀ q, q ≠ b + 1 → q ≠ b + 2 → q ≠ b + 3 → q ≠ b + 17 → q ≠ b + 18 → B.2 q = A.2 q) → xx_X G l mX9_solve 5 0 0 415 [(0, .ref b), (4, .int (nI to9)), (5, .int (nI k9)), (7, .int (if gd then 1 else 0))] [] B Q) :
    ∀ (v : Nat), v ≤ k9 + 1 → ∀ (B : xx_H) (N2 : Nat → Int) (gd : Bool), B.1 = A.1 → xx_rw B b N2 → (∀ j, v ≤ j → j < k9 + 1 → N2 (31 + j) = s * X9 j) → (gd = true ↔ ∀ j, v ≤ j → j < k9 → 0 < X9 j * yj_D (k9 + 1) M) → (∀ q, q ≠ 10 → q ≠ 11 → q ≠ 12 → (q < 31 ∨ 38 ≤ q) → N2 q = N q) → (∀ q, q ≠ b + 1 → q ≠ b + 2 → q ≠ b + 3 → q ≠ b + 17 → q ≠ b + 18 → B.2 q = A.2 q) → xx_X G l mX9_solve 5 0 0 245 [(0, .ref b), (4, .int (nI to9)), (5, .int (nI k9)), (7, .int (if gd then 1 else 0)), (8, .int (nI v + -1))] [] B Q := by
  have bX9 : ∀ j, j < k9 + 1 → (X9 j).natAbs < 2 ^ 216 := fun j hj => by rw [hX j hj]; exact (yj_bd hM (by omega) _ _ _).1
  have bD : (s * yj_D (k9 + 1) M).natAbs < 2 ^ 216 := by
    rw [yj_sa hs, ← yj_id (by omega) (fun i _ => (rfl : (fun i : Nat => i) i = i))]
    exact (yj_bd hM (by omega) _ 0 0).2
  intro v
  induction v with
  | zero =>
    intro h9i B N2 gd y1 y2 y3 y6 y4 y5
    refine xx_clv (lv2 := [(0, .ref b), (4, .int (nI to9)), (5, .int (nI k9)), (7, .int (if gd then 1 else 0)), (8, .int (-1))]) rfl ?_
    refine xx_iload dX9_solve_245 rfl ?_
    refine xx_if_lt (tgt := 415) dX9_solve_247 (by decide) (fun j247 => ?_) (fun h => absurd (by decide) h)
    refine xx_less [0, 4, 5, 7] ?_
    refine xx_clv (lv2 := [(0, .ref b), (4, .int (nI to9)), (5, .int (nI k9)), (7, .int (if gd then 1 else 0))]) rfl ?_
    exact kC B N2 gd y1 y2 y3 y6 y4 y5
  | succ v ih =>
    intro h9i B N2 gd y1 y2 y3 y6 y4 y5
    have hb2 := (y5 b (by omega) (by omega) (by omega) (by omega) (by omega)).trans hb
    obtain ⟨bs, s8, q1, q2, q3, q4⟩ := hrow v (by omega)
    have ea : ∀ c, c < k9 + 2 → N2 (240 + 8 * v + c) = N (240 + 8 * v + c) := fun c hc => y4 _ (by omega) (by omega) (by omega) (by omega)
    have ba : ∀ c, v ≤ c → c < k9 + 2 → (N (240 + 8 * v + c)).natAbs < 2 ^ 216 := fun c a1 a2 => by rw [q3 c a1 a2, yj_sa q1]; exact (yj_bd hM (by omega) _ _ _).1
    have e29 : N2 29 = s * yj_D (k9 + 1) M := (y4 29 (by omega) (by omega) (by omega) (by omega)).trans h29
    have pv : N (240 + 8 * v + v) ≠ 0 := by rw [q3 v (Nat.le_refl _) (by omega)]; exact (yj_s0 q1).mpr q4
    have bk := yi_back (hrow v (by omega)) hs (by omega) (by omega) (show k9 + 1 < k9 + 2 by omega) (by omega) (by omega) hX
    refine xx_clv (lv2 := [(0, .ref b), (4, .int (nI to9)), (5, .int (nI k9)), (7, .int (if gd then 1 else 0)), (8, .int (nI v))]) (by rw [yi_dn v (by omega)]) ?_
    refine xx_iload dX9_solve_245 rfl ?_
    refine xx_if_lt (tgt := 415) dX9_solve_247 (by decide) (fun h => absurd h (nI_pos (by omega))) (fun j247 => ?_)
    refine xx_aload_n dX9_solve_250 rfl ?_
    refine xx_aload_n dX9_solve_251 rfl ?_
    refine xx_iload dX9_solve_252 rfl ?_
    refine xx_iload dX9_solve_254 rfl ?_
    refine xx_iconst (v := 1) dX9_solve_256 (by decide) ?_
    refine xx_iadd dX9_solve_257 ?_
    refine xx_eqi (y := nI (k9 + 1)) (nI_add k9 1) ?_
    refine xx_callV (N := mX9_at) (vs := [.int (nI v), .int (nI (k9 + 1))]) (b := b) (rest := [.ref b]) (d2 := 0) (c2 := 0) (s2 := 0) (c3 := 0) (s3 := 0) dX9_solve_258 wm_X9_199 wi_X9_at wv_X9_at (k := 9) rfl (by decide) hb2 nX9_at ⟨pX9_at, Nat.le_of_ble_eq_true rfl, by decide, Nat.le_of_ble_eq_true rfl, by decide, by decide⟩ (c_X9_at (r := v) (c := k9 + 1)) (fun v9 B9 hC => ?_) (fun E9 B9 hC => absurd hC.1 (by simp))
    obtain ⟨hv9, e9⟩ := hC
    cases hv9
    refine xx_cst (st2 := [.int (nI (240 + 8 * v + (k9 + 1))), .ref b]) rfl ?_
    rw [e9]
    refine xx_bipush (v := 29) dX9_solve_261 (by decide) ?_
    refine xx_bipush (v := 10) dX9_solve_263 (by decide) ?_
    have g1 := ea (k9 + 1) (by omega)
    refine xx_callV (N := mX9_times) (vs := [.int (nI (240 + 8 * v + (k9 + 1))), .int 29, .int 10]) (b := b) (rest := []) (d2 := 1) (c2 := 0) (s2 := 0) (c3 := 0) (s3 := 0) dX9_solve_265 wm_X9_104 wi_X9_times wv_X9_times (k := 9) rfl (by decide) hb2 nX9_times ⟨pX9_times, Nat.le_of_ble_eq_true rfl, by decide, Nat.le_of_ble_eq_true rfl, by decide, by decide⟩ (w_X9_times hb2 y2 (x := 240 + 8 * v + (k9 + 1)) (y := 29) (c := 10) (p := 14) (q := 26) (by omega) (by omega) (by omega) (by omega) (by omega) (by decide) (by rw [g1]; exact yi_p14 (ba _ (by omega) (by omega))) (by rw [e29]; exact yi_p26 bD)) (fun v9 Eq1 hC => ?_) (fun E9 B9 hC => absurd hC.1 (by simp))
    obtain ⟨hv9, zq1, ⟨Nq1, hNq1, vq1, fq1⟩, oq1⟩ := hC
    cases hv9
    refine xx_cst (st2 := []) rfl ?_
    have hbq1 := (oq1 b (by omega) (by omega) (by omega) (by omega) (by omega)).trans hb2
    refine xx_iload dX9_solve_268 rfl ?_
    refine xx_iconst (v := 1) dX9_solve_270 (by decide) ?_
    refine xx_iadd dX9_solve_271 ?_
    refine xx_eqi (y := nI (v + 1)) (nI_add v 1) ?_
    refine xx_istore dX9_solve_272 (by decide) ?_
    refine xx_clv (lv2 := [(0, .ref b), (4, .int (nI to9)), (5, .int (nI k9)), (7, .int (if gd then 1 else 0)), (8, .int (nI v)), (9, .int (nI (v + 1)))]) rfl ?_
    have f1 : ∀ q, q ≠ 10 → Nq1 q = N2 q := fq1
    refine xx_clv (lv2 := [(0, .ref b), (4, .int (nI to9)), (5, .int (nI k9)), (7, .int (if gd then 1 else 0)), (8, .int (nI v)), (9, .int (nI (v + 1)))]) rfl ?_
    refine l_X9_s4 (A := Eq1) (N := Nq1) (r := v) hbq1 h6 (by omega) (fun c a1 a2 => by rw [f1 _ (by omega), ea c a2]; exact ba c a1 a2) (fun c a1 a2 => by rw [f1 _ (by omega), y3 c (by omega) (by omega), yj_sa hs]; exact bX9 c (by omega)) (by rw [f1 29 (by omega), e29]; exact bD) (fun D N3 w1 w0 w2 w3 w4 w5 => ?_) (k9 - v) (v + 1) (by omega) Eq1 Nq1 rfl (by omega) hNq1 ?_ (fun q _ _ => rfl) (fun q _ _ _ _ _ => rfl)
    rotate_left
    · rw [yd_s_zero (fun j hj => if_neg (by omega)), Int.sub_zero, f1 (240 + 8 * v + (k9 + 1)) (by omega), f1 29 (by omega)]; exact vq1
    have e10 : N3 10 = (s * X9 v) * N (240 + 8 * v + v) := by
      rw [w3, ← bk, f1 _ (by omega), f1 29 (by omega), ea _ (by omega), e29]
      congr 1
      refine yd_s_ext (fun j hj => ?_)
      by_cases z : v < j
      · rw [if_pos z, if_pos z, f1 _ (by omega), f1 _ (by omega), ea j (by omega), y3 j (by omega) hj]
      · rw [if_neg z, if_neg z]
    have hb3 := (w5 b (by omega) (by omega) (by omega) (by omega) (by omega)).trans hbq1
    obtain ⟨h9, s1, s2⟩ := w2.sg
    have w4b : ∀ q, q ≠ 10 → q ≠ 11 → N3 q = N2 q := fun q a1 a2 => (w4 q a1 a2).trans (f1 q a1)
    refine xx_aload_n dX9_solve_317 rfl ?_
    refine xx_get xx_c9 dX9_solve_318 wf_X9_17 (j := 3) (by decide) hb3 rfl ?_
    refine xx_bipush (v := 10) dX9_solve_321 (by decide) ?_
    refine xx_iald dX9_solve_323 s1 (by unfold vp_in; decide) ?_
    refine xx_eqi (y := iz (N3 10).sign) (s2 10 (by decide)) ?_
    refine xx_if_ne (tgt := 340) dX9_solve_324 (by decide) (fun j324 => ?_) (fun j324 => ?_)
    · refine xx_aload_n dX9_solve_340 rfl ?_
      refine xx_bipush (v := 10) dX9_solve_341 (by decide) ?_
      refine xx_aload_n dX9_solve_343 rfl ?_
      refine xx_iload dX9_solve_344 rfl ?_
      refine xx_iload dX9_solve_346 rfl ?_
      refine xx_callV (N := mX9_at) (vs := [.int (nI v), .int (nI v)]) (b := b) (rest := [.int 10, .ref b]) (d2 := 0) (c2 := 0) (s2 := 0) (c3 := 0) (s3 := 0) dX9_solve_348 wm_X9_199 wi_X9_at wv_X9_at (k := 9) rfl (by decide) hb3 nX9_at ⟨pX9_at, Nat.le_of_ble_eq_true rfl, by decide, Nat.le_of_ble_eq_true rfl, by decide, by decide⟩ (c_X9_at (r := v) (c := v)) (fun v9 B9 hC => ?_) (fun E9 B9 hC => absurd hC.1 (by simp))
      obtain ⟨hv9, e9⟩ := hC
      cases hv9
      refine xx_cst (st2 := [.int (nI (240 + 8 * v + v)), .int 10, .ref b]) rfl ?_
      rw [e9]
      refine xx_bipush (v := 11) dX9_solve_351 (by decide) ?_
      refine xx_bipush (v := 12) dX9_solve_353 (by decide) ?_
      have ev : N3 (240 + 8 * v + v) = N (240 + 8 * v + v) := (w4b _ (by omega) (by omega)).trans (ea v (by omega))
      refine xx_callV (N := mX9_divide) (vs := [.int 10, .int (nI (240 + 8 * v + v)), .int 11, .int 12]) (b := b) (rest := []) (d2 := 1) (c2 := 0) (s2 := 0) (c3 := 0) (s3 := 0) dX9_solve_355 wm_X9_112 wi_X9_divide wv_X9_divide (k := 9) rfl (by decide) hb3 nX9_divide ⟨pX9_divide, Nat.le_of_ble_eq_true rfl, by decide, Nat.le_of_ble_eq_true rfl, by decide, by decide⟩ (w_X9_div9 (x := 10) (y := 240 + 8 * v + v) (c := 11) (d := 12) hb3 w2 (by omega) (by omega) (by omega) (by omega) (by omega) (by omega) (by omega) (by omega) (by omega) (by rw [ev]; exact pv)) (fun v9 Eqa1 hC => ?_) (fun E9 B9 hC => absurd hC.1 (by simp))
      obtain ⟨hv9, zqa1, ⟨Nqa1, hNqa1, vqa1, fqa1⟩, oqa1⟩ := hC
      cases hv9
      refine xx_cst (st2 := []) rfl ?_
      rw [ev, e10, yy_qt_mul pv] at vqa1
      have hbqa1 := (oqa1 b (by omega) (by omega) (by omega) (by omega) (by omega)).trans hb3
      refine xx_aload_n dX9_solve_358 rfl ?_
      refine xx_bipush (v := 11) dX9_solve_359 (by decide) ?_
      refine xx_bipush (v := 31) dX9_solve_361 (by decide) ?_
      refine xx_iload dX9_solve_363 rfl ?_
      refine xx_iadd dX9_solve_365 ?_
      refine xx_eqi (y := nI (31 + v)) (nI_add 31 v) ?_
      refine xx_callV (N := mX9_copy) (vs := [.int 11, .int (nI (31 + v))]) (b := b) (rest := []) (d2 := 0) (c2 := 0) (s2 := 0) (c3 := 0) (s3 := 0) dX9_solve_366 wm_X9_98 wi_X9_copy wv_X9_copy (k := 9) rfl (by decide) hbqa1 nX9_copy ⟨pX9_copy, Nat.le_of_ble_eq_true rfl, by decide, Nat.le_of_ble_eq_true rfl, by decide, by decide⟩ (w_X9_copy hbqa1 hNqa1 (x := 11) (a := 31 + v) (by omega) (by omega) (by omega)) (fun v9 Eqa2 hC => ?_) (fun E9 B9 hC => absurd hC.1 (by simp))
      obtain ⟨hv9, zqa2, ⟨Nqa2, hNqa2, vqa2, fqa2⟩, oqa2⟩ := hC
      cases hv9
      refine xx_cst (st2 := []) rfl ?_
      have hbqa2 := (oqa2 b (by omega) (by omega) (by omega) (by omega) (by omega)).trans hbqa1
      rw [vqa1] at vqa2
      have fqz : ∀ q, q ≠ 11 → q ≠ 12 → q ≠ 31 + v → Nqa2 q = N3 q := fun q a1 a2 a3 => (fqa2 q a3).trans (fqa1 q a1 a2)
      have oqz := fun q a1 a2 a3 a4 a5 => (oqa2 q a1 a2 a3 a4 a5).trans (oqa1 q a1 a2 a3 a4 a5)
      have g29 : Nqa2 29 = s * yj_D (k9 + 1) M := (fqz 29 (by omega) (by omega) (by omega)).trans ((w4b 29 (by omega) (by omega)).trans e29)
      refine xx_less [0, 4, 5, 7, 8] ?_
      refine xx_clv (lv2 := [(0, .ref b), (4, .int (nI to9)), (5, .int (nI k9)), (7, .int (if gd then 1 else 0)), (8, .int (nI v))]) rfl ?_
      refine l_X9_s8 hbqa2 hNqa2 h6 (by omega) (fun gd2 hg2 => ?_)
      rw [vqa2, g29, yj_ss hs] at hg2
      refine xx_iinc (v := nI v + -1) dX9_solve_409 rfl rfl (by decide) ?_
      refine xx_clv (lv2 := [(0, .ref b), (4, .int (nI to9)), (5, .int (nI k9)), (7, .int (if gd2 then 1 else 0)), (8, .int (nI v + -1))]) rfl ?_
      refine xx_goto (tgt := 245) dX9_solve_412 (by decide) ?_
      refine ih (by omega) Eqa2 Nqa2 gd2 (by omega) hNqa2 (fun j a1 a2 => ?_) ?_ (fun q a1 a2 a3 a4 => (fqz q a2 a3 (by omega)).trans ((w4b q a1 a2).trans (y4 q a1 a2 a3 a4))) (fun q a1 a2 a3 a4 a5 => (oqz q a1 a2 a3 a4 a5).trans ((w5 q a1 a2 a3 a4 a5).trans ((oq1 q a1 a2 a3 a4 a5).trans (y5 q a1 a2 a3 a4 a5))))
      · by_cases z : j = v
        · rw [z]; exact vqa2
        · rw [fqz _ (by omega) (by omega) (by omega), w4b _ (by omega) (by omega)]; exact y3 j (by omega) a2
      · rw [hg2, y6]
        constructor
        · rintro ⟨g1, g2⟩ j a1 a2
          by_cases z : j = v
          · rw [z] at a2 ⊢
            exact g2.resolve_left (by omega)
          · exact g1 j (by omega) a2
        · intro g
          refine ⟨fun j a1 a2 => g j (by omega) a2, ?_⟩
          by_cases z : v = k9
          · exact Or.inl z
          · exact Or.inr (g v (Nat.le_refl _) (by omega))
    · refine xx_aload_n dX9_solve_327 rfl ?_
      refine xx_bipush (v := 31) dX9_solve_328 (by decide) ?_
      refine xx_iload dX9_solve_330 rfl ?_
      refine xx_iadd dX9_solve_332 ?_
      refine xx_eqi (y := nI (31 + v)) (nI_add 31 v) ?_
      refine xx_lconst (v := 0) dX9_solve_333 (by decide) ?_
      refine xx_eql (y := lz 0) (by decide) ?_
      refine xx_callV (N := mX9_set) (vs := [.int (nI (31 + v)), .long (lz 0)]) (b := b) (rest := []) (d2 := 0) (c2 := 0) (s2 := 0) (c3 := 0) (s3 := 0) dX9_solve_334 wm_X9_80 wi_X9_set wv_X9_set (k := 9) rfl (by decide) hb3 nX9_set ⟨pX9_set, Nat.le_of_ble_eq_true rfl, by decide, Nat.le_of_ble_eq_true rfl, by decide, by decide⟩ (w_X9_set hb3 w2 (a := 31 + v) (v := 0) (by omega) (by decide) (by decide)) (fun v9 Eqa1 hC => ?_) (fun E9 B9 hC => absurd hC.1 (by simp))
      obtain ⟨hv9, zqa1, ⟨Nqa1, hNqa1, vqa1, fqa1⟩, oqa1⟩ := hC
      cases hv9
      refine xx_cst (st2 := []) rfl ?_
      have hbqa1 := (oqa1 b (by omega) (by omega) (by omega) (by omega) (by omega)).trans hb3
      have z10 := yk_sg0.mp j324
      rw [e10] at z10
      have zx : s * X9 v = 0 := (Int.mul_eq_zero.mp z10).resolve_right pv
      rw [← zx] at vqa1
      have fqz : ∀ q, q ≠ 11 → q ≠ 12 → q ≠ 31 + v → Nqa1 q = N3 q := fun q _ _ a3 => fqa1 q a3
      refine xx_goto (tgt := 369) dX9_solve_337 (by decide) ?_
      have g29 : Nqa1 29 = s * yj_D (k9 + 1) M := (fqz 29 (by omega) (by omega) (by omega)).trans ((w4b 29 (by omega) (by omega)).trans e29)
      refine xx_less [0, 4, 5, 7, 8] ?_
      refine xx_clv (lv2 := [(0, .ref b), (4, .int (nI to9)), (5, .int (nI k9)), (7, .int (if gd then 1 else 0)), (8, .int (nI v))]) rfl ?_
      refine l_X9_s8 hbqa1 hNqa1 h6 (by omega) (fun gd2 hg2 => ?_)
      rw [vqa1, g29, yj_ss hs] at hg2
      refine xx_iinc (v := nI v + -1) dX9_solve_409 rfl rfl (by decide) ?_
      refine xx_clv (lv2 := [(0, .ref b), (4, .int (nI to9)), (5, .int (nI k9)), (7, .int (if gd2 then 1 else 0)), (8, .int (nI v + -1))]) rfl ?_
      refine xx_goto (tgt := 245) dX9_solve_412 (by decide) ?_
      refine ih (by omega) Eqa1 Nqa1 gd2 (by omega) hNqa1 (fun j a1 a2 => ?_) ?_ (fun q a1 a2 a3 a4 => (fqz q a2 a3 (by omega)).trans ((w4b q a1 a2).trans (y4 q a1 a2 a3 a4))) (fun q a1 a2 a3 a4 a5 => (oqa1 q a1 a2 a3 a4 a5).trans ((w5 q a1 a2 a3 a4 a5).trans ((oq1 q a1 a2 a3 a4 a5).trans (y5 q a1 a2 a3 a4 a5))))
      · by_cases z : j = v
        · rw [z]; exact vqa1
        · rw [fqz _ (by omega) (by omega) (by omega), w4b _ (by omega) (by omega)]; exact y3 j (by omega) a2
      · rw [hg2, y6]
        constructor
        · rintro ⟨g1, g2⟩ j a1 a2
          by_cases z : j = v
          · rw [z] at a2 ⊢
            exact g2.resolve_left (by omega)
          · exact g1 j (by omega) a2
        · intro g
          refine ⟨fun j a1 a2 => g j (by omega) a2, ?_⟩
          by_cases z : v = k9
          · exact Or.inl z
          · exact Or.inr (g v (Nat.le_refl _) (by omega))
set_option maxRecDepth 100000 in
theorem c_X9_solve {G : xx_G} {l : Launch} {A : xx_H} {b : Nat} {th hr st hl en tu : Value} {m n : Nat} {p9 S U to9 : Nat} {N : Nat → Int} {W : Nat → Nat → Nat → Int} {le : Nat → Int} {mu : Nat → Nat} {gu gs : Nat → Int32} (hb : A.2 b = xx_o 9 (xx_mf b th (.int (nI m)) (.int (nI n)) hr st hl en tu)) (hN : xx_rw A b N) (hg : yg_ok m n W le) (hP : xx_rp A b m n W le mu) (hp : p9 < 2) (hch : A.2 (b + 19) = xx_i 6 gu) (hot : A.2 (b + 20) = xx_i 6 gs) (hS : S < 2 ^ yy_cn m n (1 - p9)) (hU : U < 2 ^ yy_cn m n p9) (hc : yb_c U = yb_c S) (hc0 : 0 < yb_c S) (ht : 330 ≤ to9) (ht2 : to9 + 6 ≤ 1740) : xx_X G l mX9_solve 5 0 0 0 (lv_args 0 [.ref b, .int (nI p9), .int (nI U), .int (nI S), .int (nI to9)]) [] A (fun z B => B.1 = A.1 ∧ (∃ tu2, B.2 b = xx_o 9 (xx_mf b th (.int (nI m)) (.int (nI n)) hr st hl en tu2)) ∧ (∃ g, B.2 (b + 19) = xx_i 6 g) ∧ (∃ g, B.2 (b + 20) = xx_i 6 g) ∧ (∃ N2, xx_rw B b N2 ∧ (∀ q, 14 ≤ q → q ≠ 19 → q ≠ 28 → q ≠ 29 → (q < 31 ∨ 38 ≤ q) → (q < 240 ∨ 296 ≤ q) → (q < to9 ∨ to9 + 6 ≤ q) → N2 q = N q) ∧ ((yi_g (yn_a W le (1 - p9)) S U ∧ z = .inl (some (.int 1)) ∧ (∀ j, j < 6 → N2 (to9 + j) = yn_w (yn_a W le (1 - p9)) S U j) ∧ (N2 29).natAbs = (yi_s (yn_a W le (1 - p9)) S U).natAbs ∧ N2 29 ≠ 0) ∨ (¬ yi_g (yn_a W le (1 - p9)) S U ∧ z = .inl (some (.int 0))))) ∧ ∀ q, q ≠ b → q ≠ b + 1 → q ≠ b + 2 → q ≠ b + 3 → q ≠ b + 17 → q ≠ b + 18 → q ≠ b + 19 → q ≠ b + 20 → B.2 q = A.2 q) := by
  have hm := hg.2.1
  have hn := hg.2.2.2.1
  have c1 : yy_cn m n (1 - p9) ≤ 6 := by unfold yy_cn; split <;> assumption
  have c2 : yy_cn m n p9 ≤ 6 := by unfold yy_cn; split <;> assumption
  have S64 : S < 64 := Nat.lt_of_lt_of_le hS (yk_pw c1)
  have U64 : U < 64 := Nat.lt_of_lt_of_le hU (yk_pw c2)
  have ha : ∀ i, i < yy_cn m n (1 - p9) → ∀ j, j < yy_cn m n p9 → (yn_a W le (1 - p9) i j).natAbs ≤ 554344561 := fun i hi j hj => (yn_a_b hg (p := 1 - p9) (by omega) i hi j (by rw [show 1 - (1 - p9) = p9 by omega]; exact hj)).2
  have hMb := yi_M_b (a := yn_a W le (1 - p9)) S64 U64 c1 c2 hS hU hc ha
  have eS := yk_le S S64 _ c1 hS
  have eU := yk_le U U64 _ c2 hU
  have hX := fun j (hj : j < yb_c S + 1) => (yi_T (a := yn_a W le (1 - p9)) (S := S) (U := U) (c := j) (yb_c6 S S64) hj).symm
  have eD := yi_D (yn_a W le (1 - p9)) S U
  have h6 := yb_c6 S S64
  obtain ⟨k9, hk9⟩ : ∃ k, k = yb_c S := ⟨_, rfl⟩
  have hkU : yb_c U = k9 := by omega
  have hkS : yb_c S = k9 := hk9.symm
  have gg : yi_g (yn_a W le (1 - p9)) S U ↔ yj_D (k9 + 1) (yi_M (yn_a W le (1 - p9)) S U k9) ≠ 0 ∧ ∀ j, 0 ≤ j → j < k9 → 0 < yi_X (yn_a W le (1 - p9)) S U j * yj_D (k9 + 1) (yi_M (yn_a W le (1 - p9)) S U k9) := by
    rw [hk9, eD]
    unfold yi_g yi_s
    constructor
    · rintro ⟨g1, g2⟩
      exact ⟨g1, fun j _ hj => by unfold yi_X; rw [if_pos hj]; exact g2 j hj⟩
    · rintro ⟨g1, g2⟩
      exact ⟨g1, fun j hj => by have := g2 j (Nat.zero_le j) hj; unfold yi_X at this; rw [if_pos hj] at this; exact this⟩
  have xx9 : ∀ j, j < k9 → yi_X (yn_a W le (1 - p9)) S U j = yk_n (yn_a W le (1 - p9)) S U j := fun j hj => if_pos (by omega)
  have es9 : yj_D (k9 + 1) (yi_M (yn_a W le (1 - p9)) S U k9) = yi_s (yn_a W le (1 - p9)) S U := by rw [hk9]; exact eD
  rw [hkS] at hMb eS hX h6 hc0
  rw [hkU] at eU
  refine xx_clv (lv2 := [(0, .ref b), (1, .int (nI p9)), (2, .int (nI U)), (3, .int (nI S)), (4, .int (nI to9))]) rfl ?_
  refine xx_iload_n dX9_solve_0 rfl ?_
  refine xx_aload_n dX9_solve_1 rfl ?_
  refine xx_get xx_c9 dX9_solve_2 wf_X9_71 (j := 25) (by decide) hb rfl ?_
  refine xx_callS (N := mX9_bitsOf) (vs := [.int (nI U), .ref (b + 19)]) (rest := []) (d2 := 0) (c2 := 0) (s2 := 0) (c3 := 0) (s3 := 0) dX9_solve_5 wm_X9_205 ws_X9_bitsOf wz_X9 (by decide) nX9_bitsOf ⟨pX9_bitsOf, Nat.le_of_ble_eq_true rfl, by decide, Nat.le_of_ble_eq_true rfl, by decide, by decide⟩ (c_X9_bitsOf U64 hch) (fun v9 Eb1 hC => ?_) (fun E9 B9 hC => absurd hC.1 (by simp))
  obtain ⟨hv9, zb1, ⟨g1, hg1, gu1⟩, ob1⟩ := hC
  cases hv9
  refine xx_cst (st2 := [.int (nI (yb_c U))]) rfl ?_
  rw [hkU] at gu1 ⊢
  have hbb1 := (ob1 b (by omega)).trans hb
  refine xx_istore dX9_solve_8 (by decide) ?_
  refine xx_clv (lv2 := [(0, .ref b), (1, .int (nI p9)), (2, .int (nI U)), (3, .int (nI S)), (4, .int (nI to9)), (5, .int (nI k9))]) rfl ?_
  refine xx_iload_n dX9_solve_10 rfl ?_
  refine xx_aload_n dX9_solve_11 rfl ?_
  refine xx_get xx_c9 dX9_solve_12 wf_X9_74 (j := 26) (by decide) hbb1 rfl ?_
  refine xx_callS (N := mX9_bitsOf) (vs := [.int (nI S), .ref (b + 20)]) (rest := []) (d2 := 0) (c2 := 0) (s2 := 0) (c3 := 0) (s3 := 0) dX9_solve_15 wm_X9_205 ws_X9_bitsOf wz_X9 (by decide) nX9_bitsOf ⟨pX9_bitsOf, Nat.le_of_ble_eq_true rfl, by decide, Nat.le_of_ble_eq_true rfl, by decide, by decide⟩ (c_X9_bitsOf S64 ((ob1 _ (by omega)).trans hot)) (fun v9 Eb2 hC => ?_) (fun E9 B9 hC => absurd hC.1 (by simp))
  obtain ⟨hv9, zb2, ⟨g2, hg2, gs2⟩, ob2⟩ := hC
  cases hv9
  refine xx_cst (st2 := [.int (nI (yb_c S))]) rfl ?_
  rw [hkS] at gs2 ⊢
  have hbb2 := (ob2 b (by omega)).trans hbb1
  refine xx_istore dX9_solve_18 (by decide) ?_
  refine xx_clv (lv2 := [(0, .ref b), (1, .int (nI p9)), (2, .int (nI U)), (3, .int (nI S)), (4, .int (nI to9)), (5, .int (nI k9)), (6, .int (nI k9))]) rfl ?_
  refine xx_iconst (v := 0) dX9_solve_20 (by decide) ?_
  refine xx_istore dX9_solve_21 (by decide) ?_
  refine xx_clv (lv2 := [(0, .ref b), (1, .int (nI p9)), (2, .int (nI U)), (3, .int (nI S)), (4, .int (nI to9)), (5, .int (nI k9)), (6, .int (nI k9)), (7, .int 0)]) rfl ?_
  have obz : ∀ q, q ≠ b + 19 → q ≠ b + 20 → Eb2.2 q = A.2 q := fun q a1 a2 => (ob2 q a2).trans (ob1 q a1)
  have hN2 : xx_rw Eb2 b N := hN.to (obz _ (by omega) (by omega)) (obz _ (by omega) (by omega)) (obz _ (by omega) (by omega)) (obz _ (by omega) (by omega)) (obz _ (by omega) (by omega))
  have hch2 := (ob2 (b + 19) (by omega)).trans hg1
  refine xx_less [0, 1, 4, 5, 7] ?_
  refine xx_clv (lv2 := [(0, .ref b), (1, .int (nI p9)), (4, .int (nI to9)), (5, .int (nI k9)), (7, .int (nI 0))]) rfl ?_
  refine l_X9_s2 (A := Eb2) (N := N) (S := S) (U := U) hbb2 hm hn hp h6 hch2 gu1 hg2 gs2 (hP.to (obz _ (by omega) (by omega)) (obz _ (by omega) (by omega)) (obz _ (by omega) (by omega))) eS eU (fun B N3 y1 y2 y3 y4 y5 => ?_) k9 0 (by omega) Eb2 N rfl hN2 (fun r hr => absurd hr (Nat.not_lt_zero r)) (fun q _ => rfl) (fun q _ _ _ _ _ => rfl)
  have hb3 := (y5 b (by omega) (by omega) (by omega) (by omega) (by omega)).trans hbb2
  refine xx_iconst (v := 0) dX9_solve_143 (by decide) ?_
  refine xx_istore dX9_solve_144 (by decide) ?_
  refine xx_clv (lv2 := [(0, .ref b), (4, .int (nI to9)), (5, .int (nI k9)), (7, .int 0)]) rfl ?_
  refine xx_clv (lv2 := [(0, .ref b), (4, .int (nI to9)), (5, .int (nI k9)), (7, .int (nI 0))]) rfl ?_
  refine l_X9_s3 (A := B) (N := N3) hb3 h6 (fun D N4 v1 v2 v3 v4 v5 => ?_) k9 0 (by omega) B N3 rfl y2 (fun c hc => absurd hc (Nat.not_lt_zero c)) (fun q _ => rfl) (fun q _ _ _ _ _ => rfl)
  have hb4 := (v5 b (by omega) (by omega) (by omega) (by omega) (by omega)).trans hb3
  refine xx_aload_n dX9_solve_172 rfl ?_
  refine xx_aload_n dX9_solve_173 rfl ?_
  refine xx_iload dX9_solve_174 rfl ?_
  refine xx_iload dX9_solve_176 rfl ?_
  refine xx_callV (N := mX9_at) (vs := [.int (nI k9), .int (nI k9)]) (b := b) (rest := [.ref b]) (d2 := 0) (c2 := 0) (s2 := 0) (c3 := 0) (s3 := 0) dX9_solve_178 wm_X9_199 wi_X9_at wv_X9_at (k := 9) rfl (by decide) hb4 nX9_at ⟨pX9_at, Nat.le_of_ble_eq_true rfl, by decide, Nat.le_of_ble_eq_true rfl, by decide, by decide⟩ (c_X9_at (r := k9) (c := k9)) (fun v9 B9 hC => ?_) (fun E9 B9 hC => absurd hC.1 (by simp))
  obtain ⟨hv9, e9⟩ := hC
  cases hv9
  refine xx_cst (st2 := [.int (nI (240 + 8 * k9 + k9)), .ref b]) rfl ?_
  rw [e9]
  refine xx_lconst (v := 0) dX9_solve_181 (by decide) ?_
  refine xx_eql (y := lz 0) (by decide) ?_
  refine xx_callV (N := mX9_set) (vs := [.int (nI (240 + 8 * k9 + k9)), .long (lz 0)]) (b := b) (rest := []) (d2 := 0) (c2 := 0) (s2 := 0) (c3 := 0) (s3 := 0) dX9_solve_182 wm_X9_80 wi_X9_set wv_X9_set (k := 9) rfl (by decide) hb4 nX9_set ⟨pX9_set, Nat.le_of_ble_eq_true rfl, by decide, Nat.le_of_ble_eq_true rfl, by decide, by decide⟩ (w_X9_set hb4 v2 (a := 240 + 8 * k9 + k9) (v := 0) (by omega) (by decide) (by decide)) (fun v9 Eq1 hC => ?_) (fun E9 B9 hC => absurd hC.1 (by simp))
  obtain ⟨hv9, zq1, ⟨Nq1, hNq1, vq1, fq1⟩, oq1⟩ := hC
  cases hv9
  refine xx_cst (st2 := []) rfl ?_
  have hbq1 := (oq1 b (by omega) (by omega) (by omega) (by omega) (by omega)).trans hb4
  refine xx_aload_n dX9_solve_185 rfl ?_
  refine xx_aload_n dX9_solve_186 rfl ?_
  refine xx_iload dX9_solve_187 rfl ?_
  refine xx_iload dX9_solve_189 rfl ?_
  refine xx_iconst (v := 1) dX9_solve_191 (by decide) ?_
  refine xx_iadd dX9_solve_192 ?_
  refine xx_eqi (y := nI (k9 + 1)) (nI_add k9 1) ?_
  refine xx_callV (N := mX9_at) (vs := [.int (nI k9), .int (nI (k9 + 1))]) (b := b) (rest := [.ref b]) (d2 := 0) (c2 := 0) (s2 := 0) (c3 := 0) (s3 := 0) dX9_solve_193 wm_X9_199 wi_X9_at wv_X9_at (k := 9) rfl (by decide) hbq1 nX9_at ⟨pX9_at, Nat.le_of_ble_eq_true rfl, by decide, Nat.le_of_ble_eq_true rfl, by decide, by decide⟩ (c_X9_at (r := k9) (c := k9 + 1)) (fun v9 B9 hC => ?_) (fun E9 B9 hC => absurd hC.1 (by simp))
  obtain ⟨hv9, e9⟩ := hC
  cases hv9
  refine xx_cst (st2 := [.int (nI (240 + 8 * k9 + (k9 + 1))), .ref b]) rfl ?_
  rw [e9]
  refine xx_lconst (v := 1) dX9_solve_196 (by decide) ?_
  refine xx_eql (y := lz 1) (by decide) ?_
  refine xx_callV (N := mX9_set) (vs := [.int (nI (240 + 8 * k9 + (k9 + 1))), .long (lz 1)]) (b := b) (rest := []) (d2 := 0) (c2 := 0) (s2 := 0) (c3 := 0) (s3 := 0) dX9_solve_197 wm_X9_80 wi_X9_set wv_X9_set (k := 9) rfl (by decide) hbq1 nX9_set ⟨pX9_set, Nat.le_of_ble_eq_true rfl, by decide, Nat.le_of_ble_eq_true rfl, by decide, by decide⟩ (w_X9_set hbq1 hNq1 (a := 240 + 8 * k9 + (k9 + 1)) (v := 1) (by omega) (by decide) (by decide)) (fun v9 Eq2 hC => ?_) (fun E9 B9 hC => absurd hC.1 (by simp))
  obtain ⟨hv9, zq2, ⟨Nq2, hNq2, vq2, fq2⟩, oq2⟩ := hC
  cases hv9
  refine xx_cst (st2 := []) rfl ?_
  have hbq2 := (oq2 b (by omega) (by omega) (by omega) (by omega) (by omega)).trans hbq1
  refine xx_aload_n dX9_solve_200 rfl ?_
  refine xx_iload dX9_solve_201 rfl ?_
  refine xx_iconst (v := 1) dX9_solve_203 (by decide) ?_
  refine xx_iadd dX9_solve_204 ?_
  refine xx_eqi (y := nI (k9 + 1)) (nI_add k9 1) ?_
  refine xx_iload dX9_solve_205 rfl ?_
  refine xx_iconst (v := 2) dX9_solve_207 (by decide) ?_
  refine xx_iadd dX9_solve_208 ?_
  refine xx_eqi (y := nI (k9 + 2)) (nI_add k9 2) ?_
  have mat : ∀ r, r < k9 + 1 → ∀ c, c < k9 + 2 → Nq2 (240 + 8 * r + c) = yi_M (yn_a W le (1 - p9)) S U k9 c r := by
    intro r hr c hc3
    by_cases z : r = k9
    · subst z
      unfold yi_M
      by_cases c1 : c < r
      · rw [if_pos c1, if_neg (by omega), if_pos rfl, fq2 _ (by omega), fq1 _ (by omega)]; exact v3 c c1
      · by_cases c2 : c = r
        · rw [if_neg c1, if_pos c2, if_neg (by omega), fq2 _ (by omega), c2]; exact vq1
        · rw [if_neg c1, if_neg c2, if_pos (by omega), if_pos rfl, show c = r + 1 by omega]; exact vq2
    · rw [fq2 _ (by omega), fq1 _ (by omega), v4 _ (by omega)]; exact y3 r (by omega) c hc3
  refine xx_callV (N := mX9_triangle) (vs := [.int (nI (k9 + 1)), .int (nI (k9 + 2))]) (b := b) (rest := []) (d2 := 4) (c2 := 0) (s2 := 0) (c3 := 0) (s3 := 0) dX9_solve_209 wm_X9_211 wi_X9_triangle wv_X9_triangle (k := 9) rfl (by decide) hbq2 nX9_triangle ⟨pX9_triangle, Nat.le_of_ble_eq_true rfl, by decide, Nat.le_of_ble_eq_true rfl, by decide, by decide⟩ (c_X9_triangle (R := k9 + 1) (C := k9 + 2) (M := (yi_M (yn_a W le (1 - p9)) S U k9)) hbq2 (by omega) (by omega) (by omega) hMb hNq2 (by omega) mat) (fun v9 Et hC => ?_) (fun E9 B9 hC => absurd hC.1 (by simp))
  obtain ⟨hv9, zt, ⟨tu2, hbt⟩, ⟨Nt, s, hNt, hs, e28, hD, ft⟩, ot⟩ := hC
  cases hv9
  refine xx_cst (st2 := []) rfl ?_
  obtain ⟨h9, s1, s2⟩ := hNt.sg
  have fz : ∀ q, q ≠ b → q ≠ b + 1 → q ≠ b + 2 → q ≠ b + 3 → q ≠ b + 17 → q ≠ b + 18 → Et.2 q = Eb2.2 q := fun q a0 a1 a2 a3 a4 a5 => (ot q a0 a1 a2 a3 a4 a5).trans ((oq2 q a1 a2 a3 a4 a5).trans ((oq1 q a1 a2 a3 a4 a5).trans ((v5 q a1 a2 a3 a4 a5).trans (y5 q a1 a2 a3 a4 a5))))
  have fn : ∀ q, 14 ≤ q → q ≠ 19 → q ≠ 28 → (q < 240 ∨ 296 ≤ q) → Nt q = N q := fun q a1 a2 a3 a4 => (ft q (by omega) (by omega) a2 a3 a4).trans ((fq2 q (by omega)).trans ((fq1 q (by omega)).trans ((v4 q (by omega)).trans (y4 q (by omega)))))
  have hcht := (fz (b + 19) (by omega) (by omega) (by omega) (by omega) (by omega) (by omega)).trans hch2
  have hott := (fz (b + 20) (by omega) (by omega) (by omega) (by omega) (by omega) (by omega)).trans hg2
  refine xx_aload_n dX9_solve_212 rfl ?_
  refine xx_get xx_c9 dX9_solve_213 wf_X9_17 (j := 3) (by decide) hbt rfl ?_
  refine xx_bipush (v := 28) dX9_solve_216 (by decide) ?_
  refine xx_iald dX9_solve_218 s1 (by unfold vp_in; decide) ?_
  refine xx_eqi (y := iz (Nt 28).sign) (s2 28 (by decide)) ?_
  refine xx_if_ne (tgt := 224) dX9_solve_219 (by decide) (fun j219 => ?_) (fun j219 => ?_)
  · refine xx_aload_n dX9_solve_224 rfl ?_
    refine xx_aload_n dX9_solve_225 rfl ?_
    refine xx_iload dX9_solve_226 rfl ?_
    refine xx_iload dX9_solve_228 rfl ?_
    refine xx_callV (N := mX9_at) (vs := [.int (nI k9), .int (nI k9)]) (b := b) (rest := [.ref b]) (d2 := 0) (c2 := 0) (s2 := 0) (c3 := 0) (s3 := 0) dX9_solve_230 wm_X9_199 wi_X9_at wv_X9_at (k := 9) rfl (by decide) hbt nX9_at ⟨pX9_at, Nat.le_of_ble_eq_true rfl, by decide, Nat.le_of_ble_eq_true rfl, by decide, by decide⟩ (c_X9_at (r := k9) (c := k9)) (fun v9 B9 hC => ?_) (fun E9 B9 hC => absurd hC.1 (by simp))
    obtain ⟨hv9, e9⟩ := hC
    cases hv9
    refine xx_cst (st2 := [.int (nI (240 + 8 * k9 + k9)), .ref b]) rfl ?_
    rw [e9]
    have D0 : yj_D (k9 + 1) (yi_M (yn_a W le (1 - p9)) S U k9) ≠ 0 := fun z => j219 (yk_sg0.mpr (e28.trans z))
    obtain ⟨ekk, hrow⟩ := hD D0
    rw [Nat.add_sub_cancel] at ekk
    refine xx_bipush (v := 29) dX9_solve_233 (by decide) ?_
    refine xx_callV (N := mX9_copy) (vs := [.int (nI (240 + 8 * k9 + k9)), .int 29]) (b := b) (rest := []) (d2 := 0) (c2 := 0) (s2 := 0) (c3 := 0) (s3 := 0) dX9_solve_235 wm_X9_98 wi_X9_copy wv_X9_copy (k := 9) rfl (by decide) hbt nX9_copy ⟨pX9_copy, Nat.le_of_ble_eq_true rfl, by decide, Nat.le_of_ble_eq_true rfl, by decide, by decide⟩ (w_X9_copy hbt hNt (x := 240 + 8 * k9 + k9) (a := 29) (by omega) (by omega) (by omega)) (fun v9 Eq5 hC => ?_) (fun E9 B9 hC => absurd hC.1 (by simp))
    obtain ⟨hv9, zq5, ⟨Nq5, hNq5, vq5, fq5⟩, oq5⟩ := hC
    cases hv9
    refine xx_cst (st2 := []) rfl ?_
    have hbq5 := (oq5 b (by omega) (by omega) (by omega) (by omega) (by omega)).trans hbt
    refine xx_iconst (v := 1) dX9_solve_238 (by decide) ?_
    refine xx_istore dX9_solve_239 (by decide) ?_
    refine xx_clv (lv2 := [(0, .ref b), (4, .int (nI to9)), (5, .int (nI k9)), (7, .int 1)]) rfl ?_
    refine xx_iload dX9_solve_241 rfl ?_
    refine xx_istore dX9_solve_243 (by decide) ?_
    refine xx_clv (lv2 := [(0, .ref b), (4, .int (nI to9)), (5, .int (nI k9)), (7, .int 1), (8, .int (nI k9))]) rfl ?_
    rw [ekk] at vq5
    refine xx_less [0, 4, 5, 7, 8] ?_
    refine xx_clv (lv2 := [(0, .ref b), (4, .int (nI to9)), (5, .int (nI k9)), (7, .int (if true then 1 else 0)), (8, .int (nI (k9 + 1) + -1))]) (by rw [yi_dn k9 (by omega)]; rfl) ?_
    refine l_X9_s7 (A := Eq5) (N := Nq5) (M := (yi_M (yn_a W le (1 - p9)) S U k9)) (X9 := yi_X (yn_a W le (1 - p9)) S U) hbq5 h6 hs hMb (fun r hr => ?_) vq5 hX (fun B2 N6 gd t1 t2 t3 t6 t4 t5 => ?_) (k9 + 1) (Nat.le_refl _) Eq5 Nq5 true rfl hNq5 (fun j a1 a2 => absurd a1 (by omega)) ⟨fun _ j a1 a2 => absurd a1 (by omega), fun _ => rfl⟩ (fun q _ _ _ _ => rfl) (fun q _ _ _ _ _ => rfl)
    · obtain ⟨b2, s3, q1, q2, q3, q4⟩ := hrow r hr
      exact ⟨b2, s3, q1, q2, fun c a1 a2 => by rw [fq5 _ (by omega)]; exact q3 c a1 a2, q4⟩
    have hb6 := (t5 b (by omega) (by omega) (by omega) (by omega) (by omega)).trans hbq5
    refine xx_iconst (v := 0) dX9_solve_415 (by decide) ?_
    refine xx_istore dX9_solve_416 (by decide) ?_
    refine xx_clv (lv2 := [(0, .ref b), (4, .int (nI to9)), (5, .int (nI k9)), (7, .int (if gd then 1 else 0)), (8, .int 0)]) rfl ?_
    refine xx_clv (lv2 := [(0, .ref b), (4, .int (nI to9)), (5, .int (nI k9)), (7, .int (if gd then 1 else 0)), (8, .int (nI 0))]) rfl ?_
    refine l_X9_s5 (A := B2) (N := N6) hb6 ht ht2 (fun B3 N7 u1 u2 u3 u4 u5 => ?_) 6 0 (by omega) B2 N6 rfl t2 (fun c hc => absurd hc (Nat.not_lt_zero c)) (fun q _ => rfl) (fun q _ _ _ _ _ => rfl)
    have hb7 := (u5 b (by omega) (by omega) (by omega) (by omega) (by omega)).trans hb6
    refine xx_iconst (v := 0) dX9_solve_441 (by decide) ?_
    refine xx_istore dX9_solve_442 (by decide) ?_
    refine xx_clv (lv2 := [(0, .ref b), (4, .int (nI to9)), (5, .int (nI k9)), (7, .int (if gd then 1 else 0)), (8, .int 0)]) rfl ?_
    refine xx_clv (lv2 := [(0, .ref b), (4, .int (nI to9)), (5, .int (nI k9)), (7, .int (if gd then 1 else 0)), (8, .int (nI 0))]) rfl ?_
    have hch6 := (u5 (b + 19) (by omega) (by omega) (by omega) (by omega) (by omega)).trans ((t5 (b + 19) (by omega) (by omega) (by omega) (by omega) (by omega)).trans ((oq5 (b + 19) (by omega) (by omega) (by omega) (by omega) (by omega)).trans hcht))
    have hot6 := (u5 (b + 20) (by omega) (by omega) (by omega) (by omega) (by omega)).trans ((t5 (b + 20) (by omega) (by omega) (by omega) (by omega) (by omega)).trans ((oq5 (b + 20) (by omega) (by omega) (by omega) (by omega) (by omega)).trans hott))
    refine l_X9_s6 (A := B3) (N := N7) (U := U) hb7 h6 ht ht2 hch6 gu1 U64 hkU (fun B4 N8 r1 r2 r3 r4 r5 => ?_) k9 0 (by omega) B3 N7 rfl u2 (fun j hj => ?_) (fun q _ => rfl) (fun q _ _ _ _ _ => rfl)
    rotate_left
    · rw [if_neg (fun q => absurd q.2 (Nat.not_lt_zero _))]; exact u3 j hj
    have fw : ∀ q, q ≠ b + 1 → q ≠ b + 2 → q ≠ b + 3 → q ≠ b + 17 → q ≠ b + 18 → B4.2 q = Et.2 q := fun q a1 a2 a3 a4 a5 => (r5 q a1 a2 a3 a4 a5).trans ((u5 q a1 a2 a3 a4 a5).trans ((t5 q a1 a2 a3 a4 a5).trans (oq5 q a1 a2 a3 a4 a5)))
    have fv : ∀ q, q ≠ 10 → q ≠ 11 → q ≠ 12 → q ≠ 29 → (q < 31 ∨ 38 ≤ q) → (q < to9 ∨ to9 + 6 ≤ q) → N8 q = Nt q := fun q a1 a2 a3 a4 a5 a6 => (r4 q a6).trans ((u4 q a6).trans ((t4 q a1 a2 a3 a5).trans (fq5 q a4)))
    have f31 : ∀ j, j < k9 + 1 → N7 (31 + j) = s * yi_X (yn_a W le (1 - p9)) S U j := fun j hj => (u4 _ (by omega)).trans (t3 j (Nat.zero_le j) hj)
    have f29 : N8 29 = s * yj_D (k9 + 1) (yi_M (yn_a W le (1 - p9)) S U k9) := (r4 29 (by omega)).trans ((u4 29 (by omega)).trans ((t4 29 (by omega) (by omega) (by omega) (by omega)).trans vq5))
    have gd9 : gd = true ↔ yi_g (yn_a W le (1 - p9)) S U := by rw [t6, gg]; exact ⟨fun q => ⟨D0, q⟩, fun q => q.2⟩
    have wts : ∀ j, j < 6 → N8 (to9 + j) = yn_w (yn_a W le (1 - p9)) S U j := by
      intro j hj
      rw [r3 j hj]
      unfold yn_w
      by_cases z : Nat.testBit U j = true
      · have xl := yk_xl U U64 j hj z
        rw [if_pos ⟨z, by omega⟩, if_pos z, f31 _ (by omega), yj_sa hs, xx9 _ (by omega)]
      · rw [if_neg (fun q => z q.1), if_neg z]
    have base : ∀ (z : Option Value ⊕ String), ((yi_g (yn_a W le (1 - p9)) S U ∧ z = .inl (some (.int 1)) ∧ (∀ j, j < 6 → N8 (to9 + j) = yn_w (yn_a W le (1 - p9)) S U j) ∧ (N8 29).natAbs = (yi_s (yn_a W le (1 - p9)) S U).natAbs ∧ N8 29 ≠ 0) ∨ (¬ yi_g (yn_a W le (1 - p9)) S U ∧ z = .inl (some (.int 0)))) → (B4.1 = A.1 ∧ (∃ tu2, B4.2 b = xx_o 9 (xx_mf b th (.int (nI m)) (.int (nI n)) hr st hl en tu2)) ∧ (∃ g, B4.2 (b + 19) = xx_i 6 g) ∧ (∃ g, B4.2 (b + 20) = xx_i 6 g) ∧ (∃ N2, xx_rw B4 b N2 ∧ (∀ q, 14 ≤ q → q ≠ 19 → q ≠ 28 → q ≠ 29 → (q < 31 ∨ 38 ≤ q) → (q < 240 ∨ 296 ≤ q) → (q < to9 ∨ to9 + 6 ≤ q) → N2 q = N q) ∧ ((yi_g (yn_a W le (1 - p9)) S U ∧ z = .inl (some (.int 1)) ∧ (∀ j, j < 6 → N2 (to9 + j) = yn_w (yn_a W le (1 - p9)) S U j) ∧ (N2 29).natAbs = (yi_s (yn_a W le (1 - p9)) S U).natAbs ∧ N2 29 ≠ 0) ∨ (¬ yi_g (yn_a W le (1 - p9)) S U ∧ z = .inl (some (.int 0))))) ∧ ∀ q, q ≠ b → q ≠ b + 1 → q ≠ b + 2 → q ≠ b + 3 → q ≠ b + 17 → q ≠ b + 18 → q ≠ b + 19 → q ≠ b + 20 → B4.2 q = A.2 q) := fun z hz => ⟨by omega, ⟨tu2, (fw b (by omega) (by omega) (by omega) (by omega) (by omega)).trans hbt⟩, ⟨_, (fw _ (by omega) (by omega) (by omega) (by omega) (by omega)).trans hcht⟩, ⟨_, (fw _ (by omega) (by omega) (by omega) (by omega) (by omega)).trans hott⟩, ⟨N8, r2, fun q a1 a2 a3 a4 a5 a6 a7 => (fv q (by omega) (by omega) (by omega) a4 a5 a7).trans (fn q a1 a2 a3 a6), hz⟩, fun q a0 a1 a2 a3 a4 a5 a6 a7 => (fw q a1 a2 a3 a4 a5).trans ((fz q a0 a1 a2 a3 a4 a5).trans (obz q a6 a7))⟩
    refine xx_iload dX9_solve_509 rfl ?_
    cases gd
    · exact xx_zret dX9_solve_511 rfl rfl (base _ (Or.inr ⟨fun q => absurd (gd9.mpr q) (by decide), rfl⟩))
    · exact xx_zret dX9_solve_511 rfl rfl (base _ (Or.inl ⟨gd9.mp rfl, rfl, wts, by rw [f29, yj_sa hs, es9], by rw [f29]; exact (yj_s0 hs).mpr D0⟩))
  · refine xx_iconst (v := 0) dX9_solve_222 (by decide) ?_
    have D0 := e28.symm.trans (yk_sg0.mp j219)
    exact xx_zret dX9_solve_223 rfl rfl ⟨by omega, ⟨tu2, hbt⟩, ⟨_, hcht⟩, ⟨_, hott⟩, ⟨Nt, hNt, fun q a1 a2 a3 a4 a5 a6 a7 => fn q a1 a2 a3 a6, Or.inr ⟨fun q => (gg.mp q).1 D0, rfl⟩⟩, fun q a0 a1 a2 a3 a4 a5 a6 a7 => (fz q a0 a1 a2 a3 a4 a5).trans (obz q a6 a7)⟩
