/-! ===== pay of the reference ===== -/
/-- the reference's payoffs as they were paid -/
def xx_rpf (B : xx_H) (b : Nat) (ra : Nat → Nat → Int) (rd : Nat → Nat → Nat) : Prop := (∃ f, B.2 (b + 4) = xx_i 72 f ∧ ∀ p, p < 2 → ∀ k, k < 36 → f (36 * p + k) = iz (ra p k)) ∧ (∃ f, B.2 (b + 5) = xx_i 72 f ∧ ∀ p, p < 2 → ∀ k, k < 36 → f (36 * p + k) = nI (rd p k))
theorem xx_rpf.to {B C : xx_H} {b : Nat} {ra : Nat → Nat → Int} {rd : Nat → Nat → Nat} (h : xx_rpf B b ra rd) (h1 : C.2 (b + 4) = B.2 (b + 4)) (h2 : C.2 (b + 5) = B.2 (b + 5)) : xx_rpf C b ra rd := by
  obtain ⟨⟨f, a1, a2⟩, ⟨g, a3, a4⟩⟩ := h
  exact ⟨⟨f, h1.trans a1, a2⟩, ⟨g, h2.trans a3, a4⟩⟩
theorem xx_rp.cg {B : xx_H} {b m n : Nat} {W W2 : Nat → Nat → Nat → Int} {le le2 : Nat → Int} {mu mu2 : Nat → Nat} (h : xx_rp B b m n W le mu) (e : ∀ p, p < 2 → mu p = mu2 p ∧ le p = le2 p ∧ ∀ i, i < m → ∀ j, j < n → W p i j = W2 p i j) : xx_rp B b m n W2 le2 mu2 := by
  obtain ⟨⟨f, a1, a2⟩, ⟨g, a3, a4⟩, ⟨h, a5, a6⟩, a7, a8⟩ := h
  exact ⟨⟨f, a1, fun p hp i hi j hj => by rw [a2 p hp i hi j hj, (e p hp).2.2 i hi j hj]⟩, ⟨g, a3, fun p hp => by rw [a4 p hp, (e p hp).2.1]⟩, ⟨h, a5, fun p hp => by rw [a6 p hp, (e p hp).1]⟩, fun p hp i hi j hj => by rw [← (e p hp).2.2 i hi j hj]; exact a7 p hp i hi j hj, fun p hp => by rw [← (e p hp).2.1]; exact a8 p hp⟩
/-- what changed() makes of them -/
theorem yl_changed {B : xx_H} {b m n : Nat} {ra : Nat → Nat → Int} {rd : Nat → Nat → Nat} {af bf : Nat → Int32} {mu9 wh9 le9 : Nat → Int64} (hm1 : 1 ≤ m) (hm : m ≤ 6) (hn1 : 1 ≤ n) (hn : n ≤ 6) (hr : yl_raw ra rd) (hf : ∀ p, p < 2 → ∀ k, k < 36 → af (36 * p + k) = iz (ra p k)) (hg : ∀ p, p < 2 → ∀ k, k < 36 → bf (36 * p + k) = nI (rd p k)) (h1 : B.2 (b + 14) = xx_l 2 (vp_updL (vp_updL mu9 0 (yy_rl af bf 0 36)) 1 (yy_rl af bf 1 36))) (h2 : B.2 (b + 15) = xx_l 72 (yy_ro af bf (yy_rl af bf 1 36) 1 n m ((yy_ro af bf (yy_rl af bf 0 36) 0 n m (wh9, 9223372036854775807)).1, 9223372036854775807)).1) (h3 : B.2 (b + 16) = xx_l 2 (vp_updL (vp_updL le9 0 (yy_ro af bf (yy_rl af bf 0 36) 0 n m (wh9, 9223372036854775807)).2) 1 (yy_ro af bf (yy_rl af bf 1 36) 1 n m ((yy_ro af bf (yy_rl af bf 0 36) 0 n m (wh9, 9223372036854775807)).1, 9223372036854775807)).2)) : ∃ W le mu, yl_st m n ra rd W le mu ∧ xx_rp B b m n W le mu := by
  have hh : ∀ p, p < 2 → ∀ k, k < 36 → (ra p k).natAbs ≤ 9999 ∧ 1 ≤ rd p k ∧ rd p k ≤ 12 ∧ af (36 * p + k) = iz (ra p k) ∧ bf (36 * p + k) = nI (rd p k) := fun p hp k hk => ⟨(hr p hp k hk).1, (hr p hp k hk).2.1, (hr p hp k hk).2.2, hf p hp k hk, hg p hp k hk⟩
  obtain ⟨m0, l0, a1, a2, a3, a4, a5, a6, a7, a8⟩ := yl_ref (p := 0) (f := wh9) hm1 hm hn1 hn (hh 0 (by decide))
  obtain ⟨m1, l1, b1, b2, b3, b4, b5, b6, b7, b8⟩ := yl_ref (p := 1) (f := (yy_ro af bf (yy_rl af bf 0 36) 0 n m (wh9, 9223372036854775807)).1) hm1 hm hn1 hn (hh 1 (by decide))
  refine ⟨fun p i j => yl_A (ra p (6 * i + j)) (rd p (6 * i + j)) * (((if p = 0 then m0 else m1) / yl_D (ra p (6 * i + j)) (rd p (6 * i + j)) : Nat) : Int), fun p => if p = 0 then l0 else l1, fun p => if p = 0 then m0 else m1, ?_, ?_⟩
  · intro p hp
    rcases (show p = 0 ∨ p = 1 by omega) with z | z
    · subst z; exact ⟨a2, fun i _ j _ => rfl, a4⟩
    · subst z; exact ⟨b2, fun i _ j _ => rfl, b4⟩
  · refine ⟨⟨_, h2, fun p hp i hi j hj => ?_⟩, ⟨_, h3, fun p hp => ?_⟩, ⟨_, h1, fun p hp => ?_⟩, fun p hp i hi j hj => ?_, fun p hp => ?_⟩
    · rcases (show p = 0 ∨ p = 1 by omega) with z | z
      · subst z
        rw [show 36 * 0 + 6 * i + j = 36 * 0 + 6 * i + j from rfl, b8 _ (fun i2 j2 _ _ => by omega)]
        exact (a7 i hi j hj).1
      · subst z; exact (b7 i hi j hj).1
    · rcases (show p = 0 ∨ p = 1 by omega) with z | z
      · subst z; rw [pk_uLn (by decide), pk_uLs, a5]; rfl
      · subst z; rw [pk_uLs, b5]; rfl
    · rcases (show p = 0 ∨ p = 1 by omega) with z | z
      · subst z; rw [pk_uLn (by decide), pk_uLs, a1]; rfl
      · subst z; rw [pk_uLs, b1]; rfl
    · rcases (show p = 0 ∨ p = 1 by omega) with z | z
      · subst z; exact (a7 i hi j hj).2
      · subst z; exact (b7 i hi j hj).2
    · rcases (show p = 0 ∨ p = 1 by omega) with z | z
      · subst z; exact a6
      · subst z; exact b6
theorem yl_up72 {f : Nat → Int32} {v : Int32} {p k0 : Nat} {q k : Nat} (hk0 : k0 < 36) (hk : k < 36) : upd f (36 * p + k0) v (36 * q + k) = if q = p ∧ k = k0 then v else f (36 * q + k) := by
  by_cases z : q = p ∧ k = k0
  · rw [if_pos z, z.1, z.2, pk_us]
  · rw [if_neg z, pk_un (by omega)]
set_option maxRecDepth 100000 in
theorem c_X9_pay {G : xx_G} {l : Launch} {A : xx_H} {b : Nat} {th hr st hl en tu : Value} {m n : Nat} {ra : Nat → Nat → Int} {rd : Nat → Nat → Nat} {W : Nat → Nat → Nat → Int} {le : Nat → Int} {mu : Nat → Nat} {xp xr xc xa xd : Int32} (hb : A.2 b = xx_o 9 (xx_mf b th (.int (nI m)) (.int (nI n)) hr st hl en tu)) (hm1 : 1 ≤ m) (hm : m ≤ 6) (hn1 : 1 ≤ n) (hn : n ≤ 6) (P : xx_rp A b m n W le mu) (C : xx_rpf A b ra rd) (hraw : yl_raw ra rd) (hth : ∃ f, A.2 (b + 13) = xx_z 12 f) : xx_X G l mX9_pay 2 0 0 0 (lv_args 0 [.ref b, .int xp, .int xr, .int xc, .int xa, .int xd]) [] A (fun z B => z = .inl none ∧ B.1 = A.1 ∧ (((yy_in xp 2 ∧ yy_in xr m ∧ yy_in xc n ∧ yy_ii xa (-9999) 9999 ∧ yy_ii xd 1 12) ∧ (∃ p r c x d, p < 2 ∧ r < m ∧ c < n ∧ x.natAbs ≤ 9999 ∧ 1 ≤ d ∧ d ≤ 12 ∧ xp = nI p ∧ xr = nI r ∧ xc = nI c ∧ xa = iz x ∧ xd = nI d ∧ (∃ W2 le2 mu2, yl_st m n (yl_ua ra p (6 * r + c) x) (yl_ud rd p (6 * r + c) d) W2 le2 mu2 ∧ xx_rp B b m n W2 le2 mu2) ∧ xx_rpf B b (yl_ua ra p (6 * r + c) x) (yl_ud rd p (6 * r + c) d)) ∧ B.2 b = xx_o 9 (xx_mf b (.int 0) (.int (nI m)) (.int (nI n)) (.int (-1)) (.int 0) (.int 0) (.int 0) tu) ∧ B.2 (b + 13) = xx_z 12 (fun _ => 1) ∧ ∀ q, q ≠ b → q ≠ b + 4 → q ≠ b + 5 → (q < b + 13 ∨ b + 17 ≤ q) → B.2 q = A.2 q) ∨ (¬ (yy_in xp 2 ∧ yy_in xr m ∧ yy_in xc n ∧ yy_ii xa (-9999) 9999 ∧ yy_ii xd 1 12) ∧ B.2 b = xx_o 9 (xx_mf b (.int 2) (.int (nI m)) (.int (nI n)) hr st hl en tu) ∧ ∀ q, q ≠ b → B.2 q = A.2 q))) := by
  obtain ⟨⟨fa, a1, a2⟩, ⟨fb, b1, b2⟩⟩ := id C
  obtain ⟨tf, ht9⟩ := hth
  obtain ⟨⟨wf, w1, _⟩, ⟨lf, l1, _⟩, ⟨mf9, m1, _⟩, _⟩ := id P
  by_cases g : (yy_in xp 2 ∧ yy_in xr m ∧ yy_in xc n ∧ yy_ii xa (-9999) 9999 ∧ yy_ii xd 1 12)
  · obtain ⟨⟨p, hp, ep⟩, ⟨r, hrm, er⟩, ⟨c, hcn, ec⟩, ia, id9⟩ := id g
    obtain ⟨x, hx, ex⟩ := yl_ii9 ia
    obtain ⟨d, hd1, hd, ed⟩ := yy_ii_n (lo := 1) (hi := 12) (by decide) (by decide) id9
    subst ep
    subst er
    subst ec
    subst ex
    subst ed
    have i1 : xx_inn (nI p) 0 1 = 1 := xx_inn1 (k := 1) (by decide) ⟨p, hp, rfl⟩
    have i2 : xx_inn (nI r) 0 (nI (m - 1)) = 1 := xx_inn1 (by omega) ⟨r, by omega, rfl⟩
    have i3 : xx_inn (nI c) 0 (nI (n - 1)) = 1 := xx_inn1 (by omega) ⟨c, by omega, rfl⟩
    have i4 : xx_inn (iz x) (-9999) 9999 = 1 := xx_ii1 ia
    have i5 : xx_inn (nI d) 1 12 = 1 := xx_ii1 id9
    refine xx_clv (lv2 := [(0, .ref b), (1, .int (nI p)), (2, .int (nI r)), (3, .int (nI c)), (4, .int (iz x)), (5, .int (nI d))]) rfl ?_
    refine xx_iload_n dX9_pay_0 rfl ?_
    refine xx_iconst (v := 0) dX9_pay_1 (by decide) ?_
    refine xx_iconst (v := 1) dX9_pay_2 (by decide) ?_
    refine xx_callS (N := mX9_in) (vs := [.int (nI p), .int 0, .int 1]) (rest := []) (d2 := 0) (c2 := 0) (s2 := 0) (c3 := 0) (s3 := 0) dX9_pay_3 wm_X9_116 ws_X9_in wz_X9 (by decide) nX9_in ⟨pX9_in, Nat.le_of_ble_eq_true rfl, by decide, Nat.le_of_ble_eq_true rfl, by decide, by decide⟩ c_X9_in (fun v9 B9 hC => ?_) (fun E9 B9 hC => absurd hC.1 (by simp))
    obtain ⟨hv9, e9⟩ := hC
    cases hv9
    rw [e9]
    refine xx_cst (st2 := [.int 1]) (by rw [i1]; rfl) ?_
    refine xx_if_eq (tgt := 66) dX9_pay_6 (by decide) (fun h => absurd h (by decide)) (fun j6 => ?_)
    refine xx_iload_n dX9_pay_9 rfl ?_
    refine xx_iconst (v := 0) dX9_pay_10 (by decide) ?_
    refine xx_aload_n dX9_pay_11 rfl ?_
    refine xx_get xx_c9 dX9_pay_12 wf_X9_120 (j := 4) (by decide) hb rfl ?_
    refine xx_iconst (v := 1) dX9_pay_15 (by decide) ?_
    refine xx_isub dX9_pay_16 ?_
    refine xx_eqi (y := nI (m - 1)) (pk_sub (a := m) (b := 1) (by omega)) ?_
    refine xx_callS (N := mX9_in) (vs := [.int (nI r), .int 0, .int (nI (m - 1))]) (rest := []) (d2 := 0) (c2 := 0) (s2 := 0) (c3 := 0) (s3 := 0) dX9_pay_17 wm_X9_116 ws_X9_in wz_X9 (by decide) nX9_in ⟨pX9_in, Nat.le_of_ble_eq_true rfl, by decide, Nat.le_of_ble_eq_true rfl, by decide, by decide⟩ c_X9_in (fun v9 B9 hC => ?_) (fun E9 B9 hC => absurd hC.1 (by simp))
    obtain ⟨hv9, e9⟩ := hC
    cases hv9
    rw [e9]
    refine xx_cst (st2 := [.int 1]) (by rw [i2]; rfl) ?_
    refine xx_if_eq (tgt := 66) dX9_pay_20 (by decide) (fun h => absurd h (by decide)) (fun j20 => ?_)
    refine xx_iload_n dX9_pay_23 rfl ?_
    refine xx_iconst (v := 0) dX9_pay_24 (by decide) ?_
    refine xx_aload_n dX9_pay_25 rfl ?_
    refine xx_get xx_c9 dX9_pay_26 wf_X9_123 (j := 5) (by decide) hb rfl ?_
    refine xx_iconst (v := 1) dX9_pay_29 (by decide) ?_
    refine xx_isub dX9_pay_30 ?_
    refine xx_eqi (y := nI (n - 1)) (pk_sub (a := n) (b := 1) (by omega)) ?_
    refine xx_callS (N := mX9_in) (vs := [.int (nI c), .int 0, .int (nI (n - 1))]) (rest := []) (d2 := 0) (c2 := 0) (s2 := 0) (c3 := 0) (s3 := 0) dX9_pay_31 wm_X9_116 ws_X9_in wz_X9 (by decide) nX9_in ⟨pX9_in, Nat.le_of_ble_eq_true rfl, by decide, Nat.le_of_ble_eq_true rfl, by decide, by decide⟩ c_X9_in (fun v9 B9 hC => ?_) (fun E9 B9 hC => absurd hC.1 (by simp))
    obtain ⟨hv9, e9⟩ := hC
    cases hv9
    rw [e9]
    refine xx_cst (st2 := [.int 1]) (by rw [i3]; rfl) ?_
    refine xx_if_eq (tgt := 66) dX9_pay_34 (by decide) (fun h => absurd h (by decide)) (fun j34 => ?_)
    refine xx_iload dX9_pay_37 rfl ?_
    refine xx_sipush (v := (-9999)) dX9_pay_39 (by decide) ?_
    refine xx_sipush (v := 9999) dX9_pay_42 (by decide) ?_
    refine xx_callS (N := mX9_in) (vs := [.int (iz x), .int (-9999), .int 9999]) (rest := []) (d2 := 0) (c2 := 0) (s2 := 0) (c3 := 0) (s3 := 0) dX9_pay_45 wm_X9_116 ws_X9_in wz_X9 (by decide) nX9_in ⟨pX9_in, Nat.le_of_ble_eq_true rfl, by decide, Nat.le_of_ble_eq_true rfl, by decide, by decide⟩ c_X9_in (fun v9 B9 hC => ?_) (fun E9 B9 hC => absurd hC.1 (by simp))
    obtain ⟨hv9, e9⟩ := hC
    cases hv9
    rw [e9]
    refine xx_cst (st2 := [.int 1]) (by rw [i4]; rfl) ?_
    refine xx_if_eq (tgt := 66) dX9_pay_48 (by decide) (fun h => absurd h (by decide)) (fun j48 => ?_)
    refine xx_iload dX9_pay_51 rfl ?_
    refine xx_iconst (v := 1) dX9_pay_53 (by decide) ?_
    refine xx_bipush (v := 12) dX9_pay_54 (by decide) ?_
    refine xx_callS (N := mX9_in) (vs := [.int (nI d), .int 1, .int 12]) (rest := []) (d2 := 0) (c2 := 0) (s2 := 0) (c3 := 0) (s3 := 0) dX9_pay_56 wm_X9_116 ws_X9_in wz_X9 (by decide) nX9_in ⟨pX9_in, Nat.le_of_ble_eq_true rfl, by decide, Nat.le_of_ble_eq_true rfl, by decide, by decide⟩ c_X9_in (fun v9 B9 hC => ?_) (fun E9 B9 hC => absurd hC.1 (by simp))
    obtain ⟨hv9, e9⟩ := hC
    cases hv9
    rw [e9]
    refine xx_cst (st2 := [.int 1]) (by rw [i5]; rfl) ?_
    refine xx_if_eq (tgt := 66) dX9_pay_59 (by decide) (fun h => absurd h (by decide)) (fun j59 => ?_)
    refine xx_iconst (v := 1) dX9_pay_62 (by decide) ?_
    refine xx_goto (tgt := 67) dX9_pay_63 (by decide) ?_
    refine xx_istore dX9_pay_67 (by decide) ?_
    refine xx_clv (lv2 := [(0, .ref b), (1, .int (nI p)), (2, .int (nI r)), (3, .int (nI c)), (4, .int (iz x)), (5, .int (nI d)), (6, .int 1)]) rfl ?_
    refine xx_aload_n dX9_pay_69 rfl ?_
    refine xx_aload_n dX9_pay_70 rfl ?_
    refine xx_get xx_c9 dX9_pay_71 wf_X9_120 (j := 4) (by decide) hb rfl ?_
    refine xx_if_ne (tgt := 81) dX9_pay_74 (by decide) (fun j74 => ?_) (fun h => absurd h (nI_ne0 (n := m) (by omega) (by omega)))
    refine xx_iload dX9_pay_81 rfl ?_
    refine xx_if_ne (tgt := 90) dX9_pay_83 (by decide) (fun j83 => ?_) (fun h => absurd h (by decide))
    refine xx_iconst (v := 0) dX9_pay_90 (by decide) ?_
    refine xx_put xx_c9 dX9_pay_91 wf_X9_84 (j := 0) (by decide) rfl rfl rfl hb (Nat.le_of_ble_eq_true rfl) (xx_gu fun Eq1 zq1 hbq1 oq1 => ?_)
    have hbq1 : Eq1.2 b = xx_o 9 (xx_mf b (.int 0) (.int (nI m)) (.int (nI n)) hr st hl en tu) := hbq1
    refine xx_aload_n dX9_pay_94 rfl ?_
    refine xx_get xx_c9 dX9_pay_95 wf_X9_84 (j := 0) (by decide) hbq1 rfl ?_
    refine xx_if_le (tgt := 102) dX9_pay_98 (by decide) (fun j98 => ?_) (fun h => absurd (by decide) h)
    refine xx_aload_n dX9_pay_102 rfl ?_
    refine xx_get xx_c9 dX9_pay_103 wf_X9_20 (j := 6) (by decide) hbq1 rfl ?_
    refine xx_bipush (v := 36) dX9_pay_106 (by decide) ?_
    refine xx_iload_n dX9_pay_108 rfl ?_
    refine xx_imul dX9_pay_109 ?_
    refine xx_eqi (y := nI (36 * p)) (pk_mul 36 p) ?_
    refine xx_bipush (v := 6) dX9_pay_110 (by decide) ?_
    refine xx_iload_n dX9_pay_112 rfl ?_
    refine xx_imul dX9_pay_113 ?_
    refine xx_eqi (y := nI (6 * r)) (pk_mul 6 r) ?_
    refine xx_iadd dX9_pay_114 ?_
    refine xx_eqi (y := nI (36 * p + (6 * r))) (nI_add (36 * p) (6 * r)) ?_
    refine xx_iload_n dX9_pay_115 rfl ?_
    refine xx_iadd dX9_pay_116 ?_
    refine xx_eqi (y := nI (36 * p + (6 * r) + c)) (nI_add (36 * p + (6 * r)) c) ?_
    refine xx_iload dX9_pay_117 rfl ?_
    refine xx_iast dX9_pay_119 ((oq1 (b + 4) (by omega)).trans a1) (vp_in_nI (by omega) (by decide)) (xx_gu fun Eq2 zq2 hq2 oq2 => ?_)
    rw [nI_clamp (by omega), show 36 * p + 6 * r + c = 36 * p + (6 * r + c) by omega] at hq2
    have hbq2 := (oq2 b (by omega)).trans hbq1
    refine xx_aload_n dX9_pay_120 rfl ?_
    refine xx_get xx_c9 dX9_pay_121 wf_X9_23 (j := 7) (by decide) hbq2 rfl ?_
    refine xx_bipush (v := 36) dX9_pay_124 (by decide) ?_
    refine xx_iload_n dX9_pay_126 rfl ?_
    refine xx_imul dX9_pay_127 ?_
    refine xx_eqi (y := nI (36 * p)) (pk_mul 36 p) ?_
    refine xx_bipush (v := 6) dX9_pay_128 (by decide) ?_
    refine xx_iload_n dX9_pay_130 rfl ?_
    refine xx_imul dX9_pay_131 ?_
    refine xx_eqi (y := nI (6 * r)) (pk_mul 6 r) ?_
    refine xx_iadd dX9_pay_132 ?_
    refine xx_eqi (y := nI (36 * p + (6 * r))) (nI_add (36 * p) (6 * r)) ?_
    refine xx_iload_n dX9_pay_133 rfl ?_
    refine xx_iadd dX9_pay_134 ?_
    refine xx_eqi (y := nI (36 * p + (6 * r) + c)) (nI_add (36 * p + (6 * r)) c) ?_
    refine xx_iload dX9_pay_135 rfl ?_
    refine xx_iast dX9_pay_137 ((oq2 (b + 5) (by omega)).trans ((oq1 (b + 5) (by omega)).trans b1)) (vp_in_nI (by omega) (by decide)) (xx_gu fun Eq3 zq3 hq3 oq3 => ?_)
    rw [nI_clamp (by omega), show 36 * p + 6 * r + c = 36 * p + (6 * r + c) by omega] at hq3
    have hbq3 := (oq3 b (by omega)).trans hbq2
    have hq2b := (oq3 (b + 4) (by omega)).trans hq2
    refine xx_aload_n dX9_pay_138 rfl ?_
    have fr3 : ∀ q, q ≠ b → q ≠ b + 4 → q ≠ b + 5 → Eq3.2 q = A.2 q := fun q e0 e1 e2 => (oq3 q e2).trans ((oq2 q e1).trans (oq1 q e0))
    have hA : ∀ q, q < 2 → ∀ k, k < 36 → upd fa (36 * p + (6 * r + c)) (iz x) (36 * q + k) = iz (yl_ua ra p (6 * r + c) x q k) := fun q hq k hk => by rw [yl_up72 (by omega) hk]; unfold yl_ua; by_cases z : q = p ∧ k = 6 * r + c; rw [if_pos z, if_pos z]; rw [if_neg z, if_neg z]; exact a2 q hq k hk
    have hD : ∀ q, q < 2 → ∀ k, k < 36 → upd fb (36 * p + (6 * r + c)) (nI d) (36 * q + k) = nI (yl_ud rd p (6 * r + c) d q k) := fun q hq k hk => by rw [yl_up72 (by omega) hk]; unfold yl_ud; by_cases z : q = p ∧ k = 6 * r + c; rw [if_pos z, if_pos z]; rw [if_neg z, if_neg z]; exact b2 q hq k hk
    have hraw2 := yl_raw_u (p := p) (k := 6 * r + c) hraw hx hd1 hd
    have okk : ∀ q, q < 2 → yy_ok (upd fa (36 * p + (6 * r + c)) (iz x)) (upd fb (36 * p + (6 * r + c)) (nI d)) q := fun q hq => yy_okN (fun k hk => ⟨(hraw2 q hq k hk).1, (hraw2 q hq k hk).2.1, (hraw2 q hq k hk).2.2, hA q hq k hk, hD q hq k hk⟩)
    refine xx_callV (N := mX9_changed) (vs := []) (b := b) (rest := []) (d2 := 1) (c2 := 0) (s2 := 0) (c3 := 0) (s3 := 0) dX9_pay_139 wm_X9_126 wi_X9_changed wv_X9_changed (k := 9) rfl (by decide) hbq3 nX9_changed ⟨pX9_changed, Nat.le_of_ble_eq_true rfl, by decide, Nat.le_of_ble_eq_true rfl, by decide, by decide⟩ (c_X9_changed (a := b + 1) (by omega) hm hn (okk 0 (by decide)) (okk 1 (by decide)) hbq3 hq2b hq3 ((fr3 _ (by omega) (by omega) (by omega)).trans ht9) ((fr3 _ (by omega) (by omega) (by omega)).trans m1) ((fr3 _ (by omega) (by omega) (by omega)).trans w1) ((fr3 _ (by omega) (by omega) (by omega)).trans l1)) (fun v9 Eq4 hC => ?_) (fun E9 B9 hC => absurd hC.1 (by simp))
    obtain ⟨hv9, z4, v4, t4, m4, w4, l4, f4⟩ := hC
    cases hv9
    refine xx_cst (st2 := []) rfl ?_
    exact xx_vret dX9_pay_142 rfl ⟨rfl, by omega, Or.inl ⟨g, ⟨p, r, c, x, d, hp, hrm, hcn, hx, hd1, hd, rfl, rfl, rfl, rfl, rfl, yl_changed hm1 hm hn1 hn hraw2 hA hD m4 w4 l4, ⟨⟨_, (f4 _ (by omega) (by omega) (by omega) (by omega) (by omega)).trans hq2b, hA⟩, ⟨_, (f4 _ (by omega) (by omega) (by omega) (by omega) (by omega)).trans hq3, hD⟩⟩⟩, v4, t4, fun q e0 e1 e2 e3 => (f4 q (by omega) (by omega) (by omega) (by omega) (by omega)).trans (fr3 q e0 e1 e2)⟩⟩
  · have hne : ¬ (yy_in xp 2 ∧ yy_in xr m ∧ yy_in xc n ∧ yy_ii xa (-9999) 9999 ∧ yy_ii xd 1 12) := g
    by_cases g1 : yy_in xp 2
    · have i1 : xx_inn xp 0 1 = 1 := xx_inn1 (k := 1) (by decide) g1
      by_cases g2 : yy_in xr m
      · have i2 : xx_inn xr 0 (nI (m - 1)) = 1 := xx_inn1 (by omega) (by rw [show m - 1 + 1 = m by omega]; exact g2)
        by_cases g3 : yy_in xc n
        · have i3 : xx_inn xc 0 (nI (n - 1)) = 1 := xx_inn1 (by omega) (by rw [show n - 1 + 1 = n by omega]; exact g3)
          by_cases g4 : yy_ii xa (-9999) 9999
          · have i4 : xx_inn xa (-9999) 9999 = 1 := xx_ii1 g4
            by_cases g5 : yy_ii xd 1 12
            · exact absurd ⟨g1, g2, g3, g4, g5⟩ hne
            · have i5 : xx_inn xd 1 12 = 0 := xx_ii0 g5
              refine xx_clv (lv2 := [(0, .ref b), (1, .int xp), (2, .int xr), (3, .int xc), (4, .int xa), (5, .int xd)]) rfl ?_
              refine xx_iload_n dX9_pay_0 rfl ?_
              refine xx_iconst (v := 0) dX9_pay_1 (by decide) ?_
              refine xx_iconst (v := 1) dX9_pay_2 (by decide) ?_
              refine xx_callS (N := mX9_in) (vs := [.int xp, .int 0, .int 1]) (rest := []) (d2 := 0) (c2 := 0) (s2 := 0) (c3 := 0) (s3 := 0) dX9_pay_3 wm_X9_116 ws_X9_in wz_X9 (by decide) nX9_in ⟨pX9_in, Nat.le_of_ble_eq_true rfl, by decide, Nat.le_of_ble_eq_true rfl, by decide, by decide⟩ c_X9_in (fun v9 B9 hC => ?_) (fun E9 B9 hC => absurd hC.1 (by simp))
              obtain ⟨hv9, e9⟩ := hC
              cases hv9
              rw [e9]
              refine xx_cst (st2 := [.int 1]) (by rw [i1]; rfl) ?_
              refine xx_if_eq (tgt := 66) dX9_pay_6 (by decide) (fun h => absurd h (by decide)) (fun j6 => ?_)
              refine xx_iload_n dX9_pay_9 rfl ?_
              refine xx_iconst (v := 0) dX9_pay_10 (by decide) ?_
              refine xx_aload_n dX9_pay_11 rfl ?_
              refine xx_get xx_c9 dX9_pay_12 wf_X9_120 (j := 4) (by decide) hb rfl ?_
              refine xx_iconst (v := 1) dX9_pay_15 (by decide) ?_
              refine xx_isub dX9_pay_16 ?_
              refine xx_eqi (y := nI (m - 1)) (pk_sub (a := m) (b := 1) (by omega)) ?_
              refine xx_callS (N := mX9_in) (vs := [.int xr, .int 0, .int (nI (m - 1))]) (rest := []) (d2 := 0) (c2 := 0) (s2 := 0) (c3 := 0) (s3 := 0) dX9_pay_17 wm_X9_116 ws_X9_in wz_X9 (by decide) nX9_in ⟨pX9_in, Nat.le_of_ble_eq_true rfl, by decide, Nat.le_of_ble_eq_true rfl, by decide, by decide⟩ c_X9_in (fun v9 B9 hC => ?_) (fun E9 B9 hC => absurd hC.1 (by simp))
              obtain ⟨hv9, e9⟩ := hC
              cases hv9
              rw [e9]
              refine xx_cst (st2 := [.int 1]) (by rw [i2]; rfl) ?_
              refine xx_if_eq (tgt := 66) dX9_pay_20 (by decide) (fun h => absurd h (by decide)) (fun j20 => ?_)
              refine xx_iload_n dX9_pay_23 rfl ?_
              refine xx_iconst (v := 0) dX9_pay_24 (by decide) ?_
              refine xx_aload_n dX9_pay_25 rfl ?_
              refine xx_get xx_c9 dX9_pay_26 wf_X9_123 (j := 5) (by decide) hb rfl ?_
              refine xx_iconst (v := 1) dX9_pay_29 (by decide) ?_
              refine xx_isub dX9_pay_30 ?_
              refine xx_eqi (y := nI (n - 1)) (pk_sub (a := n) (b := 1) (by omega)) ?_
              refine xx_callS (N := mX9_in) (vs := [.int xc, .int 0, .int (nI (n - 1))]) (rest := []) (d2 := 0) (c2 := 0) (s2 := 0) (c3 := 0) (s3 := 0) dX9_pay_31 wm_X9_116 ws_X9_in wz_X9 (by decide) nX9_in ⟨pX9_in, Nat.le_of_ble_eq_true rfl, by decide, Nat.le_of_ble_eq_true rfl, by decide, by decide⟩ c_X9_in (fun v9 B9 hC => ?_) (fun E9 B9 hC => absurd hC.1 (by simp))
              obtain ⟨hv9, e9⟩ := hC
              cases hv9
              rw [e9]
              refine xx_cst (st2 := [.int 1]) (by rw [i3]; rfl) ?_
              refine xx_if_eq (tgt := 66) dX9_pay_34 (by decide) (fun h => absurd h (by decide)) (fun j34 => ?_)
              refine xx_iload dX9_pay_37 rfl ?_
              refine xx_sipush (v := (-9999)) dX9_pay_39 (by decide) ?_
              refine xx_sipush (v := 9999) dX9_pay_42 (by decide) ?_
              refine xx_callS (N := mX9_in) (vs := [.int xa, .int (-9999), .int 9999]) (rest := []) (d2 := 0) (c2 := 0) (s2 := 0) (c3 := 0) (s3 := 0) dX9_pay_45 wm_X9_116 ws_X9_in wz_X9 (by decide) nX9_in ⟨pX9_in, Nat.le_of_ble_eq_true rfl, by decide, Nat.le_of_ble_eq_true rfl, by decide, by decide⟩ c_X9_in (fun v9 B9 hC => ?_) (fun E9 B9 hC => absurd hC.1 (by simp))
              obtain ⟨hv9, e9⟩ := hC
              cases hv9
              rw [e9]
              refine xx_cst (st2 := [.int 1]) (by rw [i4]; rfl) ?_
              refine xx_if_eq (tgt := 66) dX9_pay_48 (by decide) (fun h => absurd h (by decide)) (fun j48 => ?_)
              refine xx_iload dX9_pay_51 rfl ?_
              refine xx_iconst (v := 1) dX9_pay_53 (by decide) ?_
              refine xx_bipush (v := 12) dX9_pay_54 (by decide) ?_
              refine xx_callS (N := mX9_in) (vs := [.int xd, .int 1, .int 12]) (rest := []) (d2 := 0) (c2 := 0) (s2 := 0) (c3 := 0) (s3 := 0) dX9_pay_56 wm_X9_116 ws_X9_in wz_X9 (by decide) nX9_in ⟨pX9_in, Nat.le_of_ble_eq_true rfl, by decide, Nat.le_of_ble_eq_true rfl, by decide, by decide⟩ c_X9_in (fun v9 B9 hC => ?_) (fun E9 B9 hC => absurd hC.1 (by simp))
              obtain ⟨hv9, e9⟩ := hC
              cases hv9
              rw [e9]
              refine xx_cst (st2 := [.int 0]) (by rw [i5]; rfl) ?_
              refine xx_if_eq (tgt := 66) dX9_pay_59 (by decide) (fun j59 => ?_) (fun h => absurd (by decide) h)
              refine xx_iconst (v := 0) dX9_pay_66 (by decide) ?_
              refine xx_istore dX9_pay_67 (by decide) ?_
              refine xx_clv (lv2 := [(0, .ref b), (1, .int xp), (2, .int xr), (3, .int xc), (4, .int xa), (5, .int xd), (6, .int 0)]) rfl ?_
              refine xx_aload_n dX9_pay_69 rfl ?_
              refine xx_aload_n dX9_pay_70 rfl ?_
              refine xx_get xx_c9 dX9_pay_71 wf_X9_120 (j := 4) (by decide) hb rfl ?_
              refine xx_if_ne (tgt := 81) dX9_pay_74 (by decide) (fun j74 => ?_) (fun h => absurd h (nI_ne0 (n := m) (by omega) (by omega)))
              refine xx_iload dX9_pay_81 rfl ?_
              refine xx_if_ne (tgt := 90) dX9_pay_83 (by decide) (fun h => absurd rfl h) (fun j83 => ?_)
              refine xx_iconst (v := 2) dX9_pay_86 (by decide) ?_
              refine xx_goto (tgt := 91) dX9_pay_87 (by decide) ?_
              refine xx_put xx_c9 dX9_pay_91 wf_X9_84 (j := 0) (by decide) rfl rfl rfl hb (Nat.le_of_ble_eq_true rfl) (xx_gu fun Eq1 zq1 hbq1 oq1 => ?_)
              have hbq1 : Eq1.2 b = xx_o 9 (xx_mf b (.int 2) (.int (nI m)) (.int (nI n)) hr st hl en tu) := hbq1
              refine xx_aload_n dX9_pay_94 rfl ?_
              refine xx_get xx_c9 dX9_pay_95 wf_X9_84 (j := 0) (by decide) hbq1 rfl ?_
              refine xx_if_le (tgt := 102) dX9_pay_98 (by decide) (fun h => absurd h (by decide)) (fun j98 => ?_)
              exact xx_vret dX9_pay_101 rfl ⟨rfl, zq1, Or.inr ⟨hne, hbq1, oq1⟩⟩
          · have i4 : xx_inn xa (-9999) 9999 = 0 := xx_ii0 g4
            refine xx_clv (lv2 := [(0, .ref b), (1, .int xp), (2, .int xr), (3, .int xc), (4, .int xa), (5, .int xd)]) rfl ?_
            refine xx_iload_n dX9_pay_0 rfl ?_
            refine xx_iconst (v := 0) dX9_pay_1 (by decide) ?_
            refine xx_iconst (v := 1) dX9_pay_2 (by decide) ?_
            refine xx_callS (N := mX9_in) (vs := [.int xp, .int 0, .int 1]) (rest := []) (d2 := 0) (c2 := 0) (s2 := 0) (c3 := 0) (s3 := 0) dX9_pay_3 wm_X9_116 ws_X9_in wz_X9 (by decide) nX9_in ⟨pX9_in, Nat.le_of_ble_eq_true rfl, by decide, Nat.le_of_ble_eq_true rfl, by decide, by decide⟩ c_X9_in (fun v9 B9 hC => ?_) (fun E9 B9 hC => absurd hC.1 (by simp))
            obtain ⟨hv9, e9⟩ := hC
            cases hv9
            rw [e9]
            refine xx_cst (st2 := [.int 1]) (by rw [i1]; rfl) ?_
            refine xx_if_eq (tgt := 66) dX9_pay_6 (by decide) (fun h => absurd h (by decide)) (fun j6 => ?_)
            refine xx_iload_n dX9_pay_9 rfl ?_
            refine xx_iconst (v := 0) dX9_pay_10 (by decide) ?_
            refine xx_aload_n dX9_pay_11 rfl ?_
            refine xx_get xx_c9 dX9_pay_12 wf_X9_120 (j := 4) (by decide) hb rfl ?_
            refine xx_iconst (v := 1) dX9_pay_15 (by decide) ?_
            refine xx_isub dX9_pay_16 ?_
            refine xx_eqi (y := nI (m - 1)) (pk_sub (a := m) (b := 1) (by omega)) ?_
            refine xx_callS (N := mX9_in) (vs := [.int xr, .int 0, .int (nI (m - 1))]) (rest := []) (d2 := 0) (c2 := 0) (s2 := 0) (c3 := 0) (s3 := 0) dX9_pay_17 wm_X9_116 ws_X9_in wz_X9 (by decide) nX9_in ⟨pX9_in, Nat.le_of_ble_eq_true rfl, by decide, Nat.le_of_ble_eq_true rfl, by decide, by decide⟩ c_X9_in (fun v9 B9 hC => ?_) (fun E9 B9 hC => absurd hC.1 (by simp))
            obtain ⟨hv9, e9⟩ := hC
            cases hv9
            rw [e9]
            refine xx_cst (st2 := [.int 1]) (by rw [i2]; rfl) ?_
            refine xx_if_eq (tgt := 66) dX9_pay_20 (by decide) (fun h => absurd h (by decide)) (fun j20 => ?_)
            refine xx_iload_n dX9_pay_23 rfl ?_
            refine xx_iconst (v := 0) dX9_pay_24 (by decide) ?_
            refine xx_aload_n dX9_pay_25 rfl ?_
            refine xx_get xx_c9 dX9_pay_26 wf_X9_123 (j := 5) (by decide) hb rfl ?_
            refine xx_iconst (v := 1) dX9_pay_29 (by decide) ?_
            refine xx_isub dX9_pay_30 ?_
            refine xx_eqi (y := nI (n - 1)) (pk_sub (a := n) (b := 1) (by omega)) ?_
            refine xx_callS (N := mX9_in) (vs := [.int xc, .int 0, .int (nI (n - 1))]) (rest := []) (d2 := 0) (c2 := 0) (s2 := 0) (c3 := 0) (s3 := 0) dX9_pay_31 wm_X9_116 ws_X9_in wz_X9 (by decide) nX9_in ⟨pX9_in, Nat.le_of_ble_eq_true rfl, by decide, Nat.le_of_ble_eq_true rfl, by decide, by decide⟩ c_X9_in (fun v9 B9 hC => ?_) (fun E9 B9 hC => absurd hC.1 (by simp))
            obtain ⟨hv9, e9⟩ := hC
            cases hv9
            rw [e9]
            refine xx_cst (st2 := [.int 1]) (by rw [i3]; rfl) ?_
            refine xx_if_eq (tgt := 66) dX9_pay_34 (by decide) (fun h => absurd h (by decide)) (fun j34 => ?_)
            refine xx_iload dX9_pay_37 rfl ?_
            refine xx_sipush (v := (-9999)) dX9_pay_39 (by decide) ?_
            refine xx_sipush (v := 9999) dX9_pay_42 (by decide) ?_
            refine xx_callS (N := mX9_in) (vs := [.int xa, .int (-9999), .int 9999]) (rest := []) (d2 := 0) (c2 := 0) (s2 := 0) (c3 := 0) (s3 := 0) dX9_pay_45 wm_X9_116 ws_X9_in wz_X9 (by decide) nX9_in ⟨pX9_in, Nat.le_of_ble_eq_true rfl, by decide, Nat.le_of_ble_eq_true rfl, by decide, by decide⟩ c_X9_in (fun v9 B9 hC => ?_) (fun E9 B9 hC => absurd hC.1 (by simp))
            obtain ⟨hv9, e9⟩ := hC
            cases hv9
            rw [e9]
            refine xx_cst (st2 := [.int 0]) (by rw [i4]; rfl) ?_
            refine xx_if_eq (tgt := 66) dX9_pay_48 (by decide) (fun j48 => ?_) (fun h => absurd (by decide) h)
            refine xx_iconst (v := 0) dX9_pay_66 (by decide) ?_
            refine xx_istore dX9_pay_67 (by decide) ?_
            refine xx_clv (lv2 := [(0, .ref b), (1, .int xp), (2, .int xr), (3, .int xc), (4, .int xa), (5, .int xd), (6, .int 0)]) rfl ?_
            refine xx_aload_n dX9_pay_69 rfl ?_
            refine xx_aload_n dX9_pay_70 rfl ?_
            refine xx_get xx_c9 dX9_pay_71 wf_X9_120 (j := 4) (by decide) hb rfl ?_
            refine xx_if_ne (tgt := 81) dX9_pay_74 (by decide) (fun j74 => ?_) (fun h => absurd h (nI_ne0 (n := m) (by omega) (by omega)))
            refine xx_iload dX9_pay_81 rfl ?_
            refine xx_if_ne (tgt := 90) dX9_pay_83 (by decide) (fun h => absurd rfl h) (fun j83 => ?_)
            refine xx_iconst (v := 2) dX9_pay_86 (by decide) ?_
            refine xx_goto (tgt := 91) dX9_pay_87 (by decide) ?_
            refine xx_put xx_c9 dX9_pay_91 wf_X9_84 (j := 0) (by decide) rfl rfl rfl hb (Nat.le_of_ble_eq_true rfl) (xx_gu fun Eq1 zq1 hbq1 oq1 => ?_)
            have hbq1 : Eq1.2 b = xx_o 9 (xx_mf b (.int 2) (.int (nI m)) (.int (nI n)) hr st hl en tu) := hbq1
            refine xx_aload_n dX9_pay_94 rfl ?_
            refine xx_get xx_c9 dX9_pay_95 wf_X9_84 (j := 0) (by decide) hbq1 rfl ?_
            refine xx_if_le (tgt := 102) dX9_pay_98 (by decide) (fun h => absurd h (by decide)) (fun j98 => ?_)
            exact xx_vret dX9_pay_101 rfl ⟨rfl, zq1, Or.inr ⟨hne, hbq1, oq1⟩⟩
        · have i3 : xx_inn xc 0 (nI (n - 1)) = 0 := xx_inn0 (by omega) (by rw [show n - 1 + 1 = n by omega]; exact g3)
          refine xx_clv (lv2 := [(0, .ref b), (1, .int xp), (2, .int xr), (3, .int xc), (4, .int xa), (5, .int xd)]) rfl ?_
          refine xx_iload_n dX9_pay_0 rfl ?_
          refine xx_iconst (v := 0) dX9_pay_1 (by decide) ?_
          refine xx_iconst (v := 1) dX9_pay_2 (by decide) ?_
          refine xx_callS (N := mX9_in) (vs := [.int xp, .int 0, .int 1]) (rest := []) (d2 := 0) (c2 := 0) (s2 := 0) (c3 := 0) (s3 := 0) dX9_pay_3 wm_X9_116 ws_X9_in wz_X9 (by decide) nX9_in ⟨pX9_in, Nat.le_of_ble_eq_true rfl, by decide, Nat.le_of_ble_eq_true rfl, by decide, by decide⟩ c_X9_in (fun v9 B9 hC => ?_) (fun E9 B9 hC => absurd hC.1 (by simp))
          obtain ⟨hv9, e9⟩ := hC
          cases hv9
          rw [e9]
          refine xx_cst (st2 := [.int 1]) (by rw [i1]; rfl) ?_
          refine xx_if_eq (tgt := 66) dX9_pay_6 (by decide) (fun h => absurd h (by decide)) (fun j6 => ?_)
          refine xx_iload_n dX9_pay_9 rfl ?_
          refine xx_iconst (v := 0) dX9_pay_10 (by decide) ?_
          refine xx_aload_n dX9_pay_11 rfl ?_
          refine xx_get xx_c9 dX9_pay_12 wf_X9_120 (j := 4) (by decide) hb rfl ?_
          refine xx_iconst (v := 1) dX9_pay_15 (by decide) ?_
          refine xx_isub dX9_pay_16 ?_
          refine xx_eqi (y := nI (m - 1)) (pk_sub (a := m) (b := 1) (by omega)) ?_
          refine xx_callS (N := mX9_in) (vs := [.int xr, .int 0, .int (nI (m - 1))]) (rest := []) (d2 := 0) (c2 := 0) (s2 := 0) (c3 := 0) (s3 := 0) dX9_pay_17 wm_X9_116 ws_X9_in wz_X9 (by decide) nX9_in ⟨pX9_in, Nat.le_of_ble_eq_true rfl, by decide, Nat.le_of_ble_eq_true rfl, by decide, by decide⟩ c_X9_in (fun v9 B9 hC => ?_) (fun E9 B9 hC => absurd hC.1 (by simp))
          obtain ⟨hv9, e9⟩ := hC
          cases hv9
          rw [e9]
          refine xx_cst (st2 := [.int 1]) (by rw [i2]; rfl) ?_
          refine xx_if_eq (tgt := 66) dX9_pay_20 (by decide) (fun h => absurd h (by decide)) (fun j20 => ?_)
          refine xx_iload_n dX9_pay_23 rfl ?_
          refine xx_iconst (v := 0) dX9_pay_24 (by decide) ?_
          refine xx_aload_n dX9_pay_25 rfl ?_
          refine xx_get xx_c9 dX9_pay_26 wf_X9_123 (j := 5) (by decide) hb rfl ?_
          refine xx_iconst (v := 1) dX9_pay_29 (by decide) ?_
          refine xx_isub dX9_pay_30 ?_
          refine xx_eqi (y := nI (n - 1)) (pk_sub (a := n) (b := 1) (by omega)) ?_
          refine xx_callS (N := mX9_in) (vs := [.int xc, .int 0, .int (nI (n - 1))]) (rest := []) (d2 := 0) (c2 := 0) (s2 := 0) (c3 := 0) (s3 := 0) dX9_pay_31 wm_X9_116 ws_X9_in wz_X9 (by decide) nX9_in ⟨pX9_in, Nat.le_of_ble_eq_true rfl, by decide, Nat.le_of_ble_eq_true rfl, by decide, by decide⟩ c_X9_in (fun v9 B9 hC => ?_) (fun E9 B9 hC => absurd hC.1 (by simp))
          obtain ⟨hv9, e9⟩ := hC
          cases hv9
          rw [e9]
          refine xx_cst (st2 := [.int 0]) (by rw [i3]; rfl) ?_
          refine xx_if_eq (tgt := 66) dX9_pay_34 (by decide) (fun j34 => ?_) (fun h => absurd (by decide) h)
          refine xx_iconst (v := 0) dX9_pay_66 (by decide) ?_
          refine xx_istore dX9_pay_67 (by decide) ?_
          refine xx_clv (lv2 := [(0, .ref b), (1, .int xp), (2, .int xr), (3, .int xc), (4, .int xa), (5, .int xd), (6, .int 0)]) rfl ?_
          refine xx_aload_n dX9_pay_69 rfl ?_
          refine xx_aload_n dX9_pay_70 rfl ?_
          refine xx_get xx_c9 dX9_pay_71 wf_X9_120 (j := 4) (by decide) hb rfl ?_
          refine xx_if_ne (tgt := 81) dX9_pay_74 (by decide) (fun j74 => ?_) (fun h => absurd h (nI_ne0 (n := m) (by omega) (by omega)))
          refine xx_iload dX9_pay_81 rfl ?_
          refine xx_if_ne (tgt := 90) dX9_pay_83 (by decide) (fun h => absurd rfl h) (fun j83 => ?_)
          refine xx_iconst (v := 2) dX9_pay_86 (by decide) ?_
          refine xx_goto (tgt := 91) dX9_pay_87 (by decide) ?_
          refine xx_put xx_c9 dX9_pay_91 wf_X9_84 (j := 0) (by decide) rfl rfl rfl hb (Nat.le_of_ble_eq_true rfl) (xx_gu fun Eq1 zq1 hbq1 oq1 => ?_)
          have hbq1 : Eq1.2 b = xx_o 9 (xx_mf b (.int 2) (.int (nI m)) (.int (nI n)) hr st hl en tu) := hbq1
          refine xx_aload_n dX9_pay_94 rfl ?_
          refine xx_get xx_c9 dX9_pay_95 wf_X9_84 (j := 0) (by decide) hbq1 rfl ?_
          refine xx_if_le (tgt := 102) dX9_pay_98 (by decide) (fun h => absurd h (by decide)) (fun j98 => ?_)
          exact xx_vret dX9_pay_101 rfl ⟨rfl, zq1, Or.inr ⟨hne, hbq1, oq1⟩⟩
      · have i2 : xx_inn xr 0 (nI (m - 1)) = 0 := xx_inn0 (by omega) (by rw [show m - 1 + 1 = m by omega]; exact g2)
        refine xx_clv (lv2 := [(0, .ref b), (1, .int xp), (2, .int xr), (3, .int xc), (4, .int xa), (5, .int xd)]) rfl ?_
        refine xx_iload_n dX9_pay_0 rfl ?_
        refine xx_iconst (v := 0) dX9_pay_1 (by decide) ?_
        refine xx_iconst (v := 1) dX9_pay_2 (by decide) ?_
        refine xx_callS (N := mX9_in) (vs := [.int xp, .int 0, .int 1]) (rest := []) (d2 := 0) (c2 := 0) (s2 := 0) (c3 := 0) (s3 := 0) dX9_pay_3 wm_X9_116 ws_X9_in wz_X9 (by decide) nX9_in ⟨pX9_in, Nat.le_of_ble_eq_true rfl, by decide, Nat.le_of_ble_eq_true rfl, by decide, by decide⟩ c_X9_in (fun v9 B9 hC => ?_) (fun E9 B9 hC => absurd hC.1 (by simp))
        obtain ⟨hv9, e9⟩ := hC
        cases hv9
        rw [e9]
        refine xx_cst (st2 := [.int 1]) (by rw [i1]; rfl) ?_
        refine xx_if_eq (tgt := 66) dX9_pay_6 (by decide) (fun h => absurd h (by decide)) (fun j6 => ?_)
        refine xx_iload_n dX9_pay_9 rfl ?_
        refine xx_iconst (v := 0) dX9_pay_10 (by decide) ?_
        refine xx_aload_n dX9_pay_11 rfl ?_
        refine xx_get xx_c9 dX9_pay_12 wf_X9_120 (j := 4) (by decide) hb rfl ?_
        refine xx_iconst (v := 1) dX9_pay_15 (by decide) ?_
        refine xx_isub dX9_pay_16 ?_
        refine xx_eqi (y := nI (m - 1)) (pk_sub (a := m) (b := 1) (by omega)) ?_
        refine xx_callS (N := mX9_in) (vs := [.int xr, .int 0, .int (nI (m - 1))]) (rest := []) (d2 := 0) (c2 := 0) (s2 := 0) (c3 := 0) (s3 := 0) dX9_pay_17 wm_X9_116 ws_X9_in wz_X9 (by decide) nX9_in ⟨pX9_in, Nat.le_of_ble_eq_true rfl, by decide, Nat.le_of_ble_eq_true rfl, by decide, by decide⟩ c_X9_in (fun v9 B9 hC => ?_) (fun E9 B9 hC => absurd hC.1 (by simp))
        obtain ⟨hv9, e9⟩ := hC
        cases hv9
        rw [e9]
        refine xx_cst (st2 := [.int 0]) (by rw [i2]; rfl) ?_
        refine xx_if_eq (tgt := 66) dX9_pay_20 (by decide) (fun j20 => ?_) (fun h => absurd (by decide) h)
        refine xx_iconst (v := 0) dX9_pay_66 (by decide) ?_
        refine xx_istore dX9_pay_67 (by decide) ?_
        refine xx_clv (lv2 := [(0, .ref b), (1, .int xp), (2, .int xr), (3, .int xc), (4, .int xa), (5, .int xd), (6, .int 0)]) rfl ?_
        refine xx_aload_n dX9_pay_69 rfl ?_
        refine xx_aload_n dX9_pay_70 rfl ?_
        refine xx_get xx_c9 dX9_pay_71 wf_X9_120 (j := 4) (by decide) hb rfl ?_
        refine xx_if_ne (tgt := 81) dX9_pay_74 (by decide) (fun j74 => ?_) (fun h => absurd h (nI_ne0 (n := m) (by omega) (by omega)))
        refine xx_iload dX9_pay_81 rfl ?_
        refine xx_if_ne (tgt := 90) dX9_pay_83 (by decide) (fun h => absurd rfl h) (fun j83 => ?_)
        refine xx_iconst (v := 2) dX9_pay_86 (by decide) ?_
        refine xx_goto (tgt := 91) dX9_pay_87 (by decide) ?_
        refine xx_put xx_c9 dX9_pay_91 wf_X9_84 (j := 0) (by decide) rfl rfl rfl hb (Nat.le_of_ble_eq_true rfl) (xx_gu fun Eq1 zq1 hbq1 oq1 => ?_)
        have hbq1 : Eq1.2 b = xx_o 9 (xx_mf b (.int 2) (.int (nI m)) (.int (nI n)) hr st hl en tu) := hbq1
        refine xx_aload_n dX9_pay_94 rfl ?_
        refine xx_get xx_c9 dX9_pay_95 wf_X9_84 (j := 0) (by decide) hbq1 rfl ?_
        refine xx_if_le (tgt := 102) dX9_pay_98 (by decide) (fun h => absurd h (by decide)) (fun j98 => ?_)
        exact xx_vret dX9_pay_101 rfl ⟨rfl, zq1, Or.inr ⟨hne, hbq1, oq1⟩⟩
    · have i1 : xx_inn xp 0 1 = 0 := xx_inn0 (k := 1) (by decide) g1
      refine xx_clv (lv2 := [(0, .ref b), (1, .int xp), (2, .int xr), (3, .int xc), (4, .int xa), (5, .int xd)]) rfl ?_
      refine xx_iload_n dX9_pay_0 rfl ?_
      refine xx_iconst (v := 0) dX9_pay_1 (by decide) ?_
      refine xx_iconst (v := 1) dX9_pay_2 (by decide) ?_
      refine xx_callS (N := mX9_in) (vs := [.int xp, .int 0, .int 1]) (rest := []) (d2 := 0) (c2 := 0) (s2 := 0) (c3 := 0) (s3 := 0) dX9_pay_3 wm_X9_116 ws_X9_in wz_X9 (by decide) nX9_in ⟨pX9_in, Nat.le_of_ble_eq_true rfl, by decide, Nat.le_of_ble_eq_true rfl, by decide, by decide⟩ c_X9_in (fun v9 B9 hC => ?_) (fun E9 B9 hC => absurd hC.1 (by simp))
      obtain ⟨hv9, e9⟩ := hC
      cases hv9
      rw [e9]
      refine xx_cst (st2 := [.int 0]) (by rw [i1]; rfl) ?_
      refine xx_if_eq (tgt := 66) dX9_pay_6 (by decide) (fun j6 => ?_) (fun h => absurd (by decide) h)
      refine xx_iconst (v := 0) dX9_pay_66 (by decide) ?_
      refine xx_istore dX9_pay_67 (by decide) ?_
      refine xx_clv (lv2 := [(0, .ref b), (1, .int xp), (2, .int xr), (3, .int xc), (4, .int xa), (5, .int xd), (6, .int 0)]) rfl ?_
      refine xx_aload_n dX9_pay_69 rfl ?_
      refine xx_aload_n dX9_pay_70 rfl ?_
      refine xx_get xx_c9 dX9_pay_71 wf_X9_120 (j := 4) (by decide) hb rfl ?_
      refine xx_if_ne (tgt := 81) dX9_pay_74 (by decide) (fun j74 => ?_) (fun h => absurd h (nI_ne0 (n := m) (by omega) (by omega)))
      refine xx_iload dX9_pay_81 rfl ?_
      refine xx_if_ne (tgt := 90) dX9_pay_83 (by decide) (fun h => absurd rfl h) (fun j83 => ?_)
      refine xx_iconst (v := 2) dX9_pay_86 (by decide) ?_
      refine xx_goto (tgt := 91) dX9_pay_87 (by decide) ?_
      refine xx_put xx_c9 dX9_pay_91 wf_X9_84 (j := 0) (by decide) rfl rfl rfl hb (Nat.le_of_ble_eq_true rfl) (xx_gu fun Eq1 zq1 hbq1 oq1 => ?_)
      have hbq1 : Eq1.2 b = xx_o 9 (xx_mf b (.int 2) (.int (nI m)) (.int (nI n)) hr st hl en tu) := hbq1
      refine xx_aload_n dX9_pay_94 rfl ?_
      refine xx_get xx_c9 dX9_pay_95 wf_X9_84 (j := 0) (by decide) hbq1 rfl ?_
      refine xx_if_le (tgt := 102) dX9_pay_98 (by decide) (fun h => absurd h (by decide)) (fun j98 => ?_)
      exact xx_vret dX9_pay_101 rfl ⟨rfl, zq1, Or.inr ⟨hne, hbq1, oq1⟩⟩
