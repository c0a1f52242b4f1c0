/-! ===== the full table's step; Table.enter ===== -/
def yt_n (T : Nat → Nat → Int) (den : Int) (r e : Nat) : Nat → Nat → Int := fun k c => if k = r then T r c else yy_qt (T k c * T r e - T k e * T r c) den
theorem yy_qt_mul {a d : Int} (hd : d ≠ 0) : yy_qt (a * d) d = a := by
  unfold yy_qt
  have hs : d.sign * d.sign = 1 := by
    rcases yy_sgn d with ⟨h, e⟩ | ⟨h, e⟩ | ⟨h, e⟩
    · rw [e]; rfl
    · exact absurd h hd
    · rw [e]; rfl
  rw [Int.sign_mul, Int.mul_assoc a.sign, hs, Int.mul_one, Int.natAbs_mul, Nat.mul_div_cancel _ (by omega)]
  exact yy_sna a
theorem yy_qt_z (d : Int) : yy_qt 0 d = 0 := (yy_q0 0 d (Or.inl (by simp))).1
theorem yt_k.step {R : Nat} {rl : Nat → Nat} {T : Nat → Nat → Int} {den : Int} (h : yt_k R rl T den) (hd : den ≠ 0) {r e : Nat} (hr : r < R) : yt_k R (yy_ud rl r e) (yt_n T den r e) (T r e) := by
  obtain ⟨h1, h2⟩ := h
  constructor
  · intro k hk
    unfold yt_n
    by_cases a : k = r
    · subst a; rw [yy_ud_s, if_pos rfl]
    · rw [yy_ud_n a, if_neg a, h1 k hk, h2 r k hr hk (by omega), Int.mul_zero, Int.sub_zero, Int.mul_comm]
      exact yy_qt_mul hd
  · intro k j hk hj hkj
    unfold yt_n
    by_cases a : j = r
    · subst a
      rw [yy_ud_s, if_neg hkj, Int.sub_self]; exact yy_qt_z den
    · rw [yy_ud_n a]
      by_cases b : k = r
      · subst b; rw [if_pos rfl]; exact h2 k j hk hj hkj
      · rw [if_neg b, h2 k j hk hj hkj, h2 r j hr hj (by omega), Int.zero_mul, Int.mul_zero, Int.sub_self]; exact yy_qt_z den
theorem xx_tb.lab {A B : xx_H} {t R C fl : Nat} {rl cl P rl2 cl2 : Nat → Nat} {V : Nat → Int} (H : xx_tb A t R C fl rl cl P V) (h1 : ∃ f, B.2 (t + 1) = xx_i 6 f ∧ ∀ i, i < R → f i = nI (rl2 i)) (h2 : ∃ f, B.2 (t + 2) = xx_i 6 f ∧ ∀ i, i < C → f i = nI (cl2 i)) (b1 : ∀ i, i < R → rl2 i < 100) (b2 : ∀ i, i < C → cl2 i < 100) (hq : ∀ q, q ≠ t + 1 → q ≠ t + 2 → B.2 q = A.2 q) : xx_tb B t R C fl rl2 cl2 P V := by
  obtain ⟨ob, r6, c6, _, _, rll, cll, fll, ⟨hc, hc1, hc2⟩, rng, inj, big, ⟨ls, lef⟩, ⟨rs, rig⟩, ⟨dc, dvd⟩⟩ := H
  refine ⟨(hq _ (by omega) (by omega)).trans ob, r6, c6, h1, h2, b1, b2, fll, ⟨hc, (hq _ (by omega) (by omega)).trans hc1, hc2⟩, rng, inj, fun i hi => ?_, ⟨ls, lef.to (hq _ (by omega) (by omega)) (hq _ (by omega) (by omega))⟩, ⟨rs, rig.to (hq _ (by omega) (by omega)) (hq _ (by omega) (by omega))⟩, ⟨dc, dvd.to (fun q a b => hq q (by omega) (by omega))⟩⟩
  obtain ⟨a1, a2, a3⟩ := rng i hi
  exact (big i hi).to (hq _ (by omega) (by omega)) (hq _ (by omega) (by omega))
/-- what the pivot lays is the full table's step -/
theorem yt_v.step {R C sd : Nat} {rl cl : Nat → Nat} {V V2 : Nat → Int} {T : Nat → Nat → Int} {den : Int} (hv : yt_v R C sd cl V T den) (hk : yt_k R rl T den) (hd : den ≠ 0) {r ce e : Nat} (hr : r < R) (hC : C ≤ 6) (hce : ce < C) (he : cl ce = e) (hi : ∀ p, p < C → p ≠ ce → cl p ≠ e ∨ True)
    (h1 : V2 42 = V (r * 7 + ce)) (h2 : V2 (r * 7 + ce) = V 42) (h3 : ∀ p, p < 7 → p ≠ ce → V2 (r * 7 + p) = V (r * 7 + p)) (h4 : ∀ k, k < R → k ≠ r → ∀ p, p < 7 → V2 (k * 7 + p) = yp_n C V r ce k p) : yt_v R C sd (yy_ud cl ce (rl r)) V2 (yt_n T den r e) (T r e) := by
  obtain ⟨v1, v2, v3⟩ := hv
  obtain ⟨k1, k2⟩ := hk
  refine ⟨fun k hkR p hp => ?_, fun k hkR => ?_, ?_⟩
  · by_cases a : p = ce
    · subst a
      rw [yy_ud_s]
      by_cases b : k = r
      · subst b; rw [h2, v3]; unfold yt_n; rw [if_pos rfl, k1 k hr]
      · rw [h4 k hkR b p (by omega)]
        unfold yp_n yt_n
        rw [if_pos rfl, if_neg b, v1 k hkR p hp, he, k2 k r hkR hr b, k1 r hr, Int.zero_mul, Int.zero_sub, ← Int.neg_mul]
        exact (yy_qt_mul hd).symm
    · rw [yy_ud_n a]
      by_cases b : k = r
      · subst b; rw [h3 p (by omega) a, v1 k hkR p hp]; unfold yt_n; rw [if_pos rfl]
      · rw [h4 k hkR b p (by omega)]
        unfold yp_n yt_n
        rw [if_neg a, if_pos (Or.inl hp), if_neg b, v1 k hkR p hp, v1 r hr ce hce, v1 k hkR ce hce, v1 r hr p hp, v3, he]
  · by_cases b : k = r
    · subst b; rw [h3 6 (by decide) (by omega), v2 k hkR]; unfold yt_n; rw [if_pos rfl]
    · rw [h4 k hkR b 6 (by decide)]
      unfold yp_n yt_n
      rw [if_neg (by omega), if_pos (Or.inr rfl), if_neg b, v2 k hkR, v1 r hr ce hce, v1 k hkR ce hce, v2 r hr, v3, he]
  · rw [h1, v1 r hr ce hce, he]
set_option maxRecDepth 100000 in
theorem c_X5_enter {G : xx_G} {l : Launch} {A : xx_H} {t R C fl : Nat} {rl cl P : Nat → Nat} {V : Nat → Int} {T : Nat → Nat → Int} {den : Int} {sd e r : Nat} (H : xx_tb A t R C fl rl cl P V) (hV : ∀ i, i < 43 → (V i).natAbs < 2 ^ 200) (hv : yt_v R C sd cl V T den) (hk : yt_k R rl T den) (hd : 0 < den) (hlab : ∀ i, i < R → (∃ p, p < C ∧ cl p = fl + i) ∨ (∃ k, k < R ∧ rl k = fl + i)) (he : ∃ p, p < C ∧ cl p = e) (hrow : yo_r T e sd fl R R = some r) (hB : ∀ k, k < R → ∀ c, (c = sd ∨ ∃ p, p < C ∧ cl p = c) → (yt_n T den r e k c).natAbs < 2 ^ 200) : xx_X G l mX5_enter 7 0 0 0 (lv_args 0 [.ref t, .int (nI e)]) [] A (fun z B => z = .inl (some (.int (nI (rl r)))) ∧ B.1 = A.1 ∧ (∃ ce P2 V2, ce < C ∧ cl ce = e ∧ xx_tb B t R C fl (yy_ud rl r e) (yy_ud cl ce (rl r)) P2 V2 ∧ yt_v R C sd (yy_ud cl ce (rl r)) V2 (yt_n T den r e) (T r e) ∧ ∀ i, i < 43 → (V2 i).natAbs < 2 ^ 200) ∧ ∀ z, (z < t ∨ t + 103 ≤ z) → B.2 z = A.2 z) := by
  obtain ⟨ob, r6, c6, ⟨rf, rl1, rl2⟩, ⟨cf, cl1, cl2⟩, rll, cll, fll, ⟨hc, hc1, hc2⟩, rng, inj, big, ⟨ls, lef⟩, ⟨rs, rig⟩, ⟨dc, dvd⟩⟩ := id H
  obtain ⟨pe, pe1, pe2⟩ := he
  have he100 : e < 100 := by rw [← pe2]; exact cll pe pe1
  obtain ⟨hr, hre⟩ := yo_r_lt hrow
  refine xx_clv (lv2 := [(0, .ref t), (1, .int (nI e))]) rfl ?_
  refine xx_aload_n dX5_enter_0 rfl ?_
  refine xx_get xx_c5 dX5_enter_1 wf_X5_25 (j := 4) (by decide) ob rfl ?_
  refine xx_aload_n dX5_enter_4 rfl ?_
  refine xx_get xx_c5 dX5_enter_5 wf_X5_15 (j := 1) (by decide) ob rfl ?_
  refine xx_iload_n dX5_enter_8 rfl ?_
  refine xx_callS (N := mX5_find) (vs := [.ref (t + 2), .int (nI C), .int (nI e)]) (rest := []) (d2 := 0) (c2 := 0) (s2 := 0) (c3 := 0) (s3 := 0) dX5_enter_9 wm_X5_72 ws_X5_find wz_X5 (by decide) nX5_find ⟨pX5_find, Nat.le_of_ble_eq_true rfl, by decide, Nat.le_of_ble_eq_true rfl, by decide, by decide⟩ (c_X5_find (lb := cl) cl1 c6 (by omega) cl2 (fun j hj => by have := cll j hj; omega)) (fun v9 B9 hC => ?_) (fun E9 B9 hC => by obtain ⟨_, ⟨_, _, _, _, h⟩ | ⟨_, h⟩⟩ := hC <;> cases h)
  obtain ⟨e9, hC⟩ := hC
  rw [e9]
  rcases hC with ⟨ce, x1, x2, x3, hv9⟩ | ⟨x1, hv9⟩
  rotate_left
  · exact absurd pe2 (x1 pe pe1)
  cases hv9
  refine xx_cst (st2 := [.int (nI ce)]) rfl ?_
  subst x2
  refine xx_istore_n dX5_enter_12 (by decide) ?_
  refine xx_clv (lv2 := [(0, .ref t), (1, .int (nI (cl ce))), (2, .int (nI ce))]) rfl ?_
  refine xx_iload_n dX5_enter_13 rfl ?_
  refine xx_if_ge (tgt := 21) dX5_enter_14 (by decide) (fun j14 => ?_) (fun h => absurd (nI_pos' (by omega)) h)
  refine xx_aload_n dX5_enter_21 rfl ?_
  refine xx_iload_n dX5_enter_22 rfl ?_
  have c1 := c_X5_leavingRow (G := G) (l := l) (T := T) (sd := sd) H hV hv hk hd hlab x1
  rw [hrow] at c1
  refine xx_callV (N := mX5_leavingRow) (vs := [.int (nI ce)]) (b := t) (rest := []) (d2 := 5) (c2 := 0) (s2 := 0) (c3 := 0) (s3 := 0) dX5_enter_23 wm_X5_76 wi_X5_leavingRow wv_X5_leavingRow (k := 5) rfl (by decide) ob nX5_leavingRow ⟨pX5_leavingRow, Nat.le_of_ble_eq_true rfl, by decide, Nat.le_of_ble_eq_true rfl, by decide, by decide⟩ (c1) (fun v9 B hC => ?_) (fun E9 B9 hC => absurd hC.1 (by simp))
  obtain ⟨hv8, k1, k2, k3⟩ := hC
  cases hv8
  refine xx_cst (st2 := [.int (nI r)]) rfl ?_
  have ob2 := (k3 t (by omega)).trans ob
  refine xx_istore_n dX5_enter_26 (by decide) ?_
  refine xx_clv (lv2 := [(0, .ref t), (1, .int (nI (cl ce))), (2, .int (nI ce)), (3, .int (nI r))]) rfl ?_
  refine xx_iload_n dX5_enter_27 rfl ?_
  refine xx_if_ge (tgt := 33) dX5_enter_28 (by decide) (fun j28 => ?_) (fun h => absurd (nI_pos' (by omega)) h)
  refine xx_aload_n dX5_enter_33 rfl ?_
  refine xx_iload_n dX5_enter_34 rfl ?_
  refine xx_iload_n dX5_enter_35 rfl ?_
  have hnn : ∀ k, k < 6 → k ≠ r → k < R → ∀ p, p < 7 → (yp_n C V r ce k p).natAbs < 2 ^ 200 := by
    intro k a1 a2 a3 p a4
    unfold yp_n
    by_cases b1 : p = ce
    · rw [if_pos b1, Int.natAbs_neg]; exact hV _ (by omega)
    · rw [if_neg b1]
      by_cases b2 : p < C ∨ p = 6
      · rw [if_pos b2]
        rcases b2 with b2 | b2
        · have := hB k a3 (cl p) (Or.inr ⟨p, b2, rfl⟩)
          unfold yt_n at this
          rw [if_neg a2] at this
          rw [hv.1 k a3 p b2, hv.1 r hr ce x1, hv.1 k a3 ce x1, hv.1 r hr p b2, hv.2.2]; exact this
        · have := hB k a3 sd (Or.inl rfl)
          unfold yt_n at this
          rw [if_neg a2] at this
          rw [b2, hv.2.1 k a3, hv.1 r hr ce x1, hv.1 k a3 ce x1, hv.2.1 r hr, hv.2.2]; exact this
      · rw [if_neg b2]; exact hV _ (by omega)
  refine xx_callV (N := mX5_pivot) (vs := [.int (nI r), .int (nI ce)]) (b := t) (rest := []) (d2 := 6) (c2 := 0) (s2 := 0) (c3 := 0) (s3 := 0) dX5_enter_36 wm_X5_80 wi_X5_pivot wv_X5_pivot (k := 5) rfl (by decide) ob2 nX5_pivot ⟨pX5_pivot, Nat.le_of_ble_eq_true rfl, by decide, Nat.le_of_ble_eq_true rfl, by decide, by decide⟩ (c_X5_pivot k2 hr x1 hV hnn) (fun v9 D hC => ?_) (fun E9 B9 hC => absurd hC.1 (by simp))
  obtain ⟨hv7, m1, ⟨P2, V2, m2, m3, m4, m5, m6, m8⟩, m7⟩ := hC
  cases hv7
  refine xx_cst (st2 := []) rfl ?_
  obtain ⟨ob3, r6, c6, ⟨rfb, rl1b, rl2b⟩, ⟨cfb, cl1b, cl2b⟩, rllb, cllb, fll, ⟨hc, hc1b, hc2b⟩, rngb, injb, big2, ⟨ls, lef2⟩, ⟨rs, rig2⟩, ⟨dc, dvd2⟩⟩ := id m2
  refine xx_aload_n dX5_enter_39 rfl ?_
  refine xx_get xx_c5 dX5_enter_40 wf_X5_21 (j := 3) (by decide) ob3 rfl ?_
  refine xx_iload_n dX5_enter_43 rfl ?_
  refine xx_iald dX5_enter_44 rl1b (vp_in_nI (by omega) (by decide)) ?_
  refine xx_eqi (y := nI (rl r)) (by rw [nI_clamp (by omega)]; exact rl2b r hr) ?_
  refine xx_istore dX5_enter_45 (by decide) ?_
  refine xx_clv (lv2 := [(0, .ref t), (1, .int (nI (cl ce))), (2, .int (nI ce)), (3, .int (nI r)), (4, .int (nI (rl r)))]) rfl ?_
  refine xx_aload_n dX5_enter_47 rfl ?_
  refine xx_get xx_c5 dX5_enter_48 wf_X5_21 (j := 3) (by decide) ob3 rfl ?_
  refine xx_iload_n dX5_enter_51 rfl ?_
  refine xx_iload_n dX5_enter_52 rfl ?_
  refine xx_iast dX5_enter_53 rl1b (vp_in_nI (by omega) (by decide)) (xx_gu fun E z1 h1 o1 => ?_)
  rw [nI_clamp (by omega)] at h1
  have ob4 := (o1 t (by omega)).trans ob3
  have cl1d := (o1 (t + 2) (by omega)).trans cl1b
  refine xx_aload_n dX5_enter_54 rfl ?_
  refine xx_get xx_c5 dX5_enter_55 wf_X5_25 (j := 4) (by decide) ob4 rfl ?_
  refine xx_iload_n dX5_enter_58 rfl ?_
  refine xx_iload dX5_enter_59 rfl ?_
  refine xx_iast dX5_enter_61 cl1d (vp_in_nI (by omega) (by decide)) (xx_gu fun F z2 h2 o2 => ?_)
  rw [nI_clamp (by omega)] at h2
  refine xx_iload dX5_enter_62 rfl ?_
  have tb := m2.lab (B := F) (rl2 := yy_ud rl r (cl ce)) (cl2 := yy_ud cl ce (rl r)) ⟨_, (o2 _ (by omega)).trans h1, fun i hi => ?_⟩ ⟨_, h2, fun i hi => ?_⟩ (fun i hi => ?_) (fun i hi => ?_) (fun q a1 a2 => (o2 q a2).trans (o1 q a1))
  rotate_left
  · by_cases a : i = r
    · subst a; rw [pk_us, yy_ud_s]
    · rw [pk_un a, yy_ud_n a]; exact rl2b i hi
  · by_cases a : i = ce
    · subst a; rw [pk_us, yy_ud_s]
    · rw [pk_un a, yy_ud_n a]; exact cl2b i hi
  · by_cases a : i = r
    · subst a; rw [yy_ud_s]; exact he100
    · rw [yy_ud_n a]; exact rll i hi
  · by_cases a : i = ce
    · subst a; rw [yy_ud_s]; exact rll r hr
    · rw [yy_ud_n a]; exact cll i hi
  refine xx_iret dX5_enter_64 rfl ⟨rfl, by omega, ⟨ce, P2, V2, x1, rfl, tb, hv.step hk (by omega) hr c6 x1 rfl (fun _ _ _ => Or.inr trivial) m3 m4 m5 m6, fun i hi => ?_⟩, fun z hz => (o2 z (by omega)).trans ((o1 z (by omega)).trans ((m7 z hz).trans (k3 z (by omega))))⟩
  by_cases a : i = 42
  · rw [a, m3]; exact hV _ (by omega)
  · have e2 : i = i / 7 * 7 + i % 7 := by omega
    by_cases b : R ≤ i / 7
    · rw [e2, m8 _ b (by omega) _ (by omega)]; exact hV _ (by omega)
    · rw [e2]
      by_cases d : i / 7 = r
      · rw [d]
        by_cases f : i % 7 = ce
        · rw [f, m4]; exact hV 42 (by decide)
        · rw [m5 _ (by omega) f]; exact hV _ (by omega)
      · rw [m6 _ (by omega) d _ (by omega)]; exact hnn _ (by omega) d (by omega) _ (by omega)
