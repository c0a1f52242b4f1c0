/-! ===== pay of the class ===== -/
theorem yb_full : ∀ k, k < 7 → ((1 : Int32) <<< (nI k &&& 31)) - 1 = nI (2 ^ k - 1) := by decide +kernel
theorem yo_w_cg {W V : Nat → Nat → Nat → Int} {p : Nat} (hp : p < 2) (h : W p = V p) : yo_w W p = yo_w V p := by
  funext i j
  unfold yo_w
  rcases (show p = 0 ∨ p = 1 by omega) with z | z
  · subst z; rw [if_pos rfl, if_pos rfl, h]
  · subst z; rw [if_neg (by decide), if_neg (by decide), h]
def yl_ua (ra : Nat → Nat → Int) (p k : Nat) (x : Int) : Nat → Nat → Int := fun q j => if q = p ∧ j = k then x else ra q j
def yl_ud (rd : Nat → Nat → Nat) (p k d : Nat) : Nat → Nat → Nat := fun q j => if q = p ∧ j = k then d else rd q j
theorem yl_raw_u {ra : Nat → Nat → Int} {rd : Nat → Nat → Nat} {p k d : Nat} {x : Int} (h : yl_raw ra rd) (hx : x.natAbs ≤ 9999) (h1 : 1 ≤ d) (h2 : d ≤ 12) : yl_raw (yl_ua ra p k x) (yl_ud rd p k d) := by
  intro q hq j hj
  unfold yl_ua yl_ud
  by_cases z : q = p ∧ j = k
  · rw [if_pos z, if_pos z]; exact ⟨hx, h1, h2⟩
  · rw [if_neg z, if_neg z]; exact h q hq j hj
/-- a player's numbers are new, the other's are not -/
theorem yl_st_p {m n p k d : Nat} {x : Int} {ra : Nat → Nat → Int} {rd : Nat → Nat → Nat} {W : Nat → Nat → Nat → Int} {le : Nat → Int} {mu : Nat → Nat} {Wp : Nat → Nat → Int} {lp : Int} {mp : Nat} (h : yl_st m n ra rd W le mu) (h1 : yl_is (fun j => yl_D (yl_ua ra p k x p j) (yl_ud rd p k d p j)) 36 mp) (h2 : ∀ i, i < m → ∀ j, j < n → Wp i j = yl_A (yl_ua ra p k x p (6 * i + j)) (yl_ud rd p k d p (6 * i + j)) * ((mp / yl_D (yl_ua ra p k x p (6 * i + j)) (yl_ud rd p k d p (6 * i + j)) : Nat) : Int)) (h3 : yl_min Wp m n lp) : yl_st m n (yl_ua ra p k x) (yl_ud rd p k d) (fun q => if q = p then Wp else W q) (fun q => if q = p then lp else le q) (fun q => if q = p then mp else mu q) := by
  intro q hq
  dsimp only
  by_cases z : q = p
  · subst z
    rw [if_pos rfl, if_pos rfl, if_pos rfl]
    exact ⟨h1, h2, h3⟩
  · rw [if_neg z, if_neg z, if_neg z]
    have ea : ∀ j, yl_ua ra p k x q j = ra q j := fun j => if_neg (fun e => z e.1)
    have ed : ∀ j, yl_ud rd p k d q j = rd q j := fun j => if_neg (fun e => z e.1)
    simp only [ea, ed]
    exact h q hq
theorem xx_pw.cg {B : xx_H} {p ow ot : Nat} {A9 A8 : Nat → Int} {D9 D8 : Nat → Nat} (h : xx_pw B p ow ot A9 D9) (ho : ow ≤ 6) (ht : ot ≤ 6) (e1 : ∀ c, c < 36 → A9 c = A8 c) (e2 : ∀ c, c < 36 → D9 c = D8 c) : xx_pw B p ow ot A8 D8 := by
  obtain ⟨mu, le, h1, h2, h3, h4⟩ := h
  refine ⟨mu, le, ⟨h1.1, fun k hk => by rw [← e2 k hk]; exact h1.2.1 k hk, fun x hx => h1.2.2 x (fun k hk => by rw [e2 k hk]; exact hx k hk)⟩, h2, ?_, ?_⟩
  · obtain ⟨⟨i, j, hi, hj, e⟩, c⟩ := h3
    refine ⟨⟨i, j, hi, hj, ?_⟩, fun k hk l hl => ?_⟩
    · rw [e]; dsimp only; rw [e1 _ (by omega), e2 _ (by omega)]
    · have := c k hk l hl
      dsimp only at this ⊢
      rw [← e1 _ (by omega), ← e2 _ (by omega)]
      exact this
  · obtain ⟨q1, q2, q3, ⟨f, q4, q5⟩, q6, q7⟩ := h4
    refine ⟨q1, q2, q3, ⟨f, q4, fun i hi j hj => ?_⟩, fun i hi j hj => ?_, q7⟩
    · rw [q5 i hi j hj]; dsimp only; rw [e1 _ (by omega), e2 _ (by omega)]
    · have := q6 i hi j hj
      dsimp only at this ⊢
      rw [← e1 _ (by omega), ← e2 _ (by omega)]
      exact this
theorem yl_ii9 {x : Int32} (h : yy_ii x (-9999) 9999) : ∃ v : Int, v.natAbs ≤ 9999 ∧ x = iz v := by
  refine ⟨x.toInt, ?_, iz_of x⟩
  obtain ⟨h1, h2⟩ := h
  rw [Int32.lt_iff_toInt_lt] at h1 h2
  have e1 : (-9999 : Int32).toInt = -9999 := by decide
  have e2 : (9999 : Int32).toInt = 9999 := by decide
  omega
set_option maxRecDepth 100000 in
theorem c_X8_pay {G : xx_G} {l : Launch} {A : xx_H} {b m n : Nat} {u6 u7 u8 u10 u11 : Value} {fc : Nat → Int32} {ra : Nat → Nat → Int} {rd : Nat → Nat → Nat} {W : Nat → Nat → Nat → Int} {le : Nat → Int} {mu : Nat → Nat} {xp xr xc xa xd : Int32} (hb : A.2 b = xx_o 8 [.ref (b + 1), .ref (b + 2), .ref (b + 11), .ref (b + 18), .ref (b + 19), .ref (b + 226), u6, u7, u8, .ref (b + 230), u10, u11, .ref (b + 233), .ref (b + 266), .ref (b + 279), .ref (b + 281), .ref (b + 283), .ref (b + 288)]) (hc : A.2 (b + 1) = xx_i 2 fc) (hc2 : ∀ p, p < 2 → fc p = nI (yy_cn m n p)) (hm1 : 1 ≤ m) (hm : m ≤ 6) (hn1 : 1 ≤ n) (hn : n ≤ 6) (P : xx_pys A b m n W le mu) (C : xx_cp A b ra rd) (hst : yl_st m n ra rd W le mu) (hth : ∃ f, A.2 (b + 18) = xx_i 2 f) : xx_X G l mX8_pay 8 4 24 0 (lv_args 0 [.ref b, .int xp, .int xr, .int xc, .int xa, .int xd]) [] A (fun z B => ((yy_in xp 2 ∧ yy_in xr m ∧ yy_in xc n ∧ yy_ii xa (-9999) 9999 ∧ yy_ii xd 1 12) ∧ (∃ p r c x d, p < 2 ∧ r < m ∧ c < n ∧ x.natAbs ≤ 9999 ∧ 1 ≤ d ∧ d ≤ 12 ∧ xp = nI p ∧ xr = nI r ∧ xc = nI c ∧ xa = iz x ∧ xd = nI d ∧ (∃ W2 le2 mu2, yl_st m n (yl_ua ra p (6 * r + c) x) (yl_ud rd p (6 * r + c) d) W2 le2 mu2 ∧ xx_pys B b m n W2 le2 mu2) ∧ xx_cp B b (yl_ua ra p (6 * r + c) x) (yl_ud rd p (6 * r + c) d)) ∧ z = .inl none ∧ B.1 = A.1 ∧ B.2 b = xx_o 8 [.ref (b + 1), .ref (b + 2), .ref (b + 11), .ref (b + 18), .ref (b + 19), .ref (b + 226), .int 0, .int (-1), u8, .ref (b + 230), .int 0, .int 0, .ref (b + 233), .ref (b + 266), .ref (b + 279), .ref (b + 281), .ref (b + 283), .ref (b + 288)] ∧ (∃ f, B.2 (b + 18) = xx_i 2 f ∧ ∀ p, p < 2 → f p = nI (2 ^ yy_cn m n p - 1)) ∧ ∀ q, q ≠ b → (q < b + 3 ∨ (b + 11 ≤ q ∧ q ≠ b + 18)) → B.2 q = A.2 q) ∨ (¬ (yy_in xp 2 ∧ yy_in xr m ∧ yy_in xc n ∧ yy_ii xa (-9999) 9999 ∧ yy_ii xd 1 12) ∧ z = .inr R_iae ∧ A.1 ≤ B.1 ∧ B.2 = A.2)) := by
  obtain ⟨⟨hpa, pa1, pa2⟩, po⟩ := id P
  obtain ⟨tf, ht9⟩ := hth
  refine xx_clv (lv2 := [(0, .ref b), (1, .int xp), (2, .int xr), (3, .int xc), (4, .int xa), (5, .int xd)]) rfl ?_
  refine xx_aload_n dX8_pay_0 rfl ?_
  refine xx_callV (N := mX8_needGame) (vs := []) (b := b) (rest := []) (d2 := 6) (c2 := 0) (s2 := 0) (c3 := 4) (s3 := 24) dX8_pay_1 wm_X8_118 wi_X8_needGame wv_X8_needGame (k := 8) rfl (by decide) hb nX8_needGame ⟨pX8_needGame, Nat.le_of_ble_eq_true rfl, by decide, Nat.le_of_ble_eq_true rfl, by decide, by decide⟩ (c_X8_needGame hb hc hc2 hm1 hm) (fun v9 B9 hC => ?_) (fun E9 B9 hC => absurd hC.1 (by simp))
  obtain ⟨hv9, e9⟩ := hC
  cases hv9
  refine xx_cst (st2 := []) rfl ?_
  rw [e9]
  refine xx_aload_n dX8_pay_4 rfl ?_
  refine xx_iload_n dX8_pay_5 rfl ?_
  refine xx_callV (N := mX8_needPlayer) (vs := [.int xp]) (b := b) (rest := []) (d2 := 6) (c2 := 1) (s2 := 6) (c3 := 3) (s3 := 18) dX8_pay_6 wm_X8_121 wi_X8_needPlayer wv_X8_needPlayer (k := 8) rfl (by decide) hb nX8_needPlayer ⟨pX8_needPlayer, Nat.le_of_ble_eq_true rfl, by decide, Nat.le_of_ble_eq_true rfl, by decide, by decide⟩ (c_X8_needPlayer) (fun v9 B9 hC => ?_) (fun E9 B9 hC => ?_)
  rotate_left
  · rcases hC with ⟨_, hv9, _⟩ | ⟨q9, hv9, y9, z9⟩
    · cases hv9
    · cases hv9
      exact xx_out rfl (Or.inr ⟨fun h => q9 h.1, rfl, y9, z9⟩)
  rcases hC with ⟨hP, hv9, e9⟩ | ⟨_, hv9, _⟩
  rotate_left
  · cases hv9
  cases hv9
  rw [e9]
  refine xx_cst (st2 := []) rfl ?_
  obtain ⟨p, hp, ep⟩ := hP
  subst ep
  refine xx_clv (lv2 := [(0, .ref b), (1, .int (nI p)), (2, .int xr), (3, .int xc), (4, .int xa), (5, .int xd)]) rfl ?_
  refine xx_aload_n dX8_pay_9 rfl ?_
  refine xx_iconst (v := 0) dX8_pay_10 (by decide) ?_
  refine xx_iload_n dX8_pay_11 rfl ?_
  refine xx_callV (N := mX8_needRow) (vs := [.int 0, .int xr]) (b := b) (rest := []) (d2 := 6) (c2 := 1) (s2 := 6) (c3 := 2) (s3 := 12) dX8_pay_12 wm_X8_125 wi_X8_needRow wv_X8_needRow (k := 8) rfl (by decide) hb nX8_needRow ⟨pX8_needRow, Nat.le_of_ble_eq_true rfl, by decide, Nat.le_of_ble_eq_true rfl, by decide, by decide⟩ (c_X8_needRow (p := 0) hb hc hc2 hm hn (by decide)) (fun v9 B9 hC => ?_) (fun E9 B9 hC => ?_)
  rotate_left
  · rcases hC with ⟨_, hv9, _⟩ | ⟨q9, hv9, y9, z9⟩
    · cases hv9
    · cases hv9
      exact xx_out rfl (Or.inr ⟨fun h => q9 h.2.1, rfl, y9, z9⟩)
  rcases hC with ⟨hR, hv9, e9⟩ | ⟨_, hv9, _⟩
  rotate_left
  · cases hv9
  cases hv9
  rw [e9]
  refine xx_cst (st2 := []) rfl ?_
  obtain ⟨r, hr, er⟩ := hR
  have hr : r < m := hr
  subst er
  refine xx_clv (lv2 := [(0, .ref b), (1, .int (nI p)), (2, .int (nI r)), (3, .int xc), (4, .int xa), (5, .int xd)]) rfl ?_
  refine xx_aload_n dX8_pay_15 rfl ?_
  refine xx_iconst (v := 1) dX8_pay_16 (by decide) ?_
  refine xx_iload_n dX8_pay_17 rfl ?_
  refine xx_callV (N := mX8_needRow) (vs := [.int 1, .int xc]) (b := b) (rest := []) (d2 := 6) (c2 := 1) (s2 := 6) (c3 := 1) (s3 := 6) dX8_pay_18 wm_X8_125 wi_X8_needRow wv_X8_needRow (k := 8) rfl (by decide) hb nX8_needRow ⟨pX8_needRow, Nat.le_of_ble_eq_true rfl, by decide, Nat.le_of_ble_eq_true rfl, by decide, by decide⟩ (c_X8_needRow (p := 1) hb hc hc2 hm hn (by decide)) (fun v9 B9 hC => ?_) (fun E9 B9 hC => ?_)
  rotate_left
  · rcases hC with ⟨_, hv9, _⟩ | ⟨q9, hv9, y9, z9⟩
    · cases hv9
    · cases hv9
      exact xx_out rfl (Or.inr ⟨fun h => q9 h.2.2.1, rfl, y9, z9⟩)
  rcases hC with ⟨hR, hv9, e9⟩ | ⟨_, hv9, _⟩
  rotate_left
  · cases hv9
  cases hv9
  rw [e9]
  refine xx_cst (st2 := []) rfl ?_
  obtain ⟨c, hcn, er⟩ := hR
  have hcn : c < n := hcn
  subst er
  refine xx_clv (lv2 := [(0, .ref b), (1, .int (nI p)), (2, .int (nI r)), (3, .int (nI c)), (4, .int xa), (5, .int xd)]) rfl ?_
  refine xx_iload dX8_pay_21 rfl ?_
  refine xx_sipush (v := (-9999)) dX8_pay_23 (by decide) ?_
  refine xx_icmp_lt (tgt := 50) dX8_pay_26 (by decide) (fun j26 => ?_) (fun j26 => ?_)
  · exact xx_throwS xx_thw_iae (List.mem_of_getElem? (i := 4) rfl) rfl dX8_pay_50 dX8_pay_53 dX8_pay_54 dX8_pay_56 dX8_pay_59 (by decide) (by decide) (fun n9 hn9 => Or.inr ⟨fun h => h.2.2.2.1.1 j26, rfl, hn9, rfl⟩)
  · refine xx_iload dX8_pay_29 rfl ?_
    refine xx_sipush (v := 9999) dX8_pay_31 (by decide) ?_
    refine xx_icmp_gt (tgt := 50) dX8_pay_34 (by decide) (fun j34 => ?_) (fun j34 => ?_)
    · exact xx_throwS xx_thw_iae (List.mem_of_getElem? (i := 4) rfl) rfl dX8_pay_50 dX8_pay_53 dX8_pay_54 dX8_pay_56 dX8_pay_59 (by decide) (by decide) (fun n9 hn9 => Or.inr ⟨fun h => h.2.2.2.1.2 j34, rfl, hn9, rfl⟩)
    · refine xx_iload dX8_pay_37 rfl ?_
      refine xx_iconst (v := 1) dX8_pay_39 (by decide) ?_
      refine xx_icmp_lt (tgt := 50) dX8_pay_40 (by decide) (fun j40 => ?_) (fun j40 => ?_)
      · exact xx_throwS xx_thw_iae (List.mem_of_getElem? (i := 4) rfl) rfl dX8_pay_50 dX8_pay_53 dX8_pay_54 dX8_pay_56 dX8_pay_59 (by decide) (by decide) (fun n9 hn9 => Or.inr ⟨fun h => h.2.2.2.2.1 j40, rfl, hn9, rfl⟩)
      · refine xx_iload dX8_pay_43 rfl ?_
        refine xx_bipush (v := 12) dX8_pay_45 (by decide) ?_
        refine xx_icmp_le (tgt := 60) dX8_pay_47 (by decide) (fun j47 => ?_) (fun j47 => ?_)
        · have ia : yy_ii xa (-9999) 9999 := ⟨j26, j34⟩
          have id9 : yy_ii xd 1 12 := ⟨j40, Int32.not_lt.mpr j47⟩
          obtain ⟨x, hx, ex⟩ := yl_ii9 ia
          obtain ⟨d, hd1, hd, ed⟩ := yy_ii_n (lo := 1) (hi := 12) (by decide) (by decide) id9
          subst ex
          subst ed
          refine xx_clv (lv2 := [(0, .ref b), (1, .int (nI p)), (2, .int (nI r)), (3, .int (nI c)), (4, .int (iz x)), (5, .int (nI d))]) rfl ?_
          by_cases pz : p = 0
          · refine xx_aload_n dX8_pay_60 rfl ?_
            refine xx_get xx_c8 dX8_pay_61 wf_X8_16 (j := 1) (by decide) hb rfl ?_
            refine xx_iload_n dX8_pay_64 rfl ?_
            refine xx_aald (kd := 14) (b := b + 3 + 4 * p) dX8_pay_65 (by decide) rfl pa1 (vp_in_nI (by omega) (by decide)) (by rw [nI_clamp (by omega)]; exact pa2 _ hp) ?_
            refine xx_iload_n dX8_pay_66 rfl ?_
            refine xx_if_ne (tgt := 74) dX8_pay_67 (by decide) (fun h => absurd (congrArg nI pz) h) (fun j67 => ?_)
            refine xx_iload_n dX8_pay_70 rfl ?_
            refine xx_goto (tgt := 75) dX8_pay_71 (by decide) ?_
            refine xx_iload_n dX8_pay_75 rfl ?_
            refine xx_if_ne (tgt := 83) dX8_pay_76 (by decide) (fun h => absurd (congrArg nI pz) h) (fun j76 => ?_)
            refine xx_iload_n dX8_pay_79 rfl ?_
            refine xx_goto (tgt := 84) dX8_pay_80 (by decide) ?_
            refine xx_iload dX8_pay_84 rfl ?_
            refine xx_iload dX8_pay_86 rfl ?_
            have c1 : 1 ≤ yy_cn m n p := by unfold yy_cn; split <;> assumption
            have c6 := yy_cn6 (p := p) hm hn
            have d1 : 1 ≤ yy_cn m n (1 - p) := by unfold yy_cn; split <;> assumption
            have d6 := yy_cn6 (p := 1 - p) hm hn
            obtain ⟨ob9, _, _, ⟨wf, wf1, _⟩, _⟩ := id (po p hp)
            refine xx_callV (N := mX4_put) (vs := [.int (nI r), .int (nI c), .int (iz x), .int (nI d)]) (b := (b + 3 + 4 * p)) (rest := []) (d2 := 2) (c2 := 0) (s2 := 0) (c3 := 0) (s3 := 0) dX8_pay_88 wm_X8_130 wi_X4_put wv_X4_put (k := 4) rfl (by decide) ob9 nX4_put ⟨pX4_put, Nat.le_of_ble_eq_true rfl, by decide, Nat.le_of_ble_eq_true rfl, by decide, by decide⟩ (c_X4_put (r := r) (o9 := c) (x := x) (d := d) c1 c6 d1 d6 ob9 (C p hp) wf1 (by omega) (by omega) hx hd1 hd) (fun v9 Eq1 hC => ?_) (fun E9 B9 hC => absurd hC.1 (by simp))
            obtain ⟨hv9, z1, v1, w1, f1⟩ := hC
            cases hv9
            refine xx_cst (st2 := []) rfl ?_
            have hb1 := (f1 b (by omega) (by omega) (by omega) (by omega)).trans hb
            refine xx_aload_n dX8_pay_91 rfl ?_
            refine xx_callV (N := mX8_forget) (vs := []) (b := b) (rest := []) (d2 := 0) (c2 := 0) (s2 := 0) (c3 := 0) (s3 := 0) dX8_pay_92 wm_X8_115 wi_X8_forget wv_X8_forget (k := 8) rfl (by decide) hb1 nX8_forget ⟨pX8_forget, Nat.le_of_ble_eq_true rfl, by decide, Nat.le_of_ble_eq_true rfl, by decide, by decide⟩ (c_X8_forget (by omega) hb1 ((f1 (b + 1) (by omega) (by omega) (by omega) (by omega)).trans hc) ((f1 (b + 18) (by omega) (by omega) (by omega) (by omega)).trans ht9)) (fun v9 Eq2 hC => ?_) (fun E9 B9 hC => absurd hC.1 (by simp))
            obtain ⟨hv9, z2, v2, w2, f2⟩ := hC
            cases hv9
            refine xx_cst (st2 := []) rfl ?_
            have tc : yl_tr p (r * 6 + c) = 6 * r + c := by unfold yl_tr; rw [if_pos pz]; omega
            have ti : ∀ c9, c9 < 36 → c9 ≠ r * 6 + c → yl_tr p c9 ≠ 6 * r + c := fun c9 h9 ne e => ne (by rw [← yl_tr2 (p := p) h9, e, ← tc, yl_tr2 (by omega)])
            have eA : ∀ c9, c9 < 36 → yy_un (fun c => yl_A (ra p (yl_tr p c)) (rd p (yl_tr p c))) (r * 6 + c) (yl_A x d) c9 = yl_A (yl_ua ra p (6 * r + c) x p (yl_tr p c9)) (yl_ud rd p (6 * r + c) d p (yl_tr p c9)) := fun c9 h9 => by
              unfold yl_ua yl_ud
              by_cases z : c9 = r * 6 + c
              · rw [z, yy_un_s, if_pos ⟨rfl, tc⟩, if_pos ⟨rfl, tc⟩]
              · rw [yy_un_n z, if_neg (fun e => ti c9 h9 z e.2), if_neg (fun e => ti c9 h9 z e.2)]
            have eD : ∀ c9, c9 < 36 → yy_u2 (fun c => yl_D (ra p (yl_tr p c)) (rd p (yl_tr p c))) (r * 6 + c) (yl_D x d) c9 = yl_D (yl_ua ra p (6 * r + c) x p (yl_tr p c9)) (yl_ud rd p (6 * r + c) d p (yl_tr p c9)) := fun c9 h9 => by
              unfold yl_ua yl_ud yy_u2
              by_cases z : c9 = r * 6 + c
              · rw [if_pos z, z, if_pos ⟨rfl, tc⟩, if_pos ⟨rfl, tc⟩]
              · rw [if_neg z, if_neg (fun e => ti c9 h9 z e.2), if_neg (fun e => ti c9 h9 z e.2)]
            have v1b := xx_pw.cg v1 c6 d6 eA eD
            obtain ⟨Wp, lp, mp, s1, s2, s3, s4⟩ := xx_pw_st hp hm hn v1b
            have fr : ∀ q, q ≠ b → (q < b + 3 + 4 * p ∨ b + 7 + 4 * p ≤ q) → q ≠ b + 18 → Eq2.2 q = A.2 q := fun q a0 a1 a2 => (f2 q a0 a2).trans (f1 q (by omega) (by omega) (by omega) (by omega))
            refine xx_vret dX8_pay_95 rfl (Or.inl ⟨⟨⟨p, hp, rfl⟩, ⟨r, hr, rfl⟩, ⟨c, hcn, rfl⟩, ia, id9⟩, ⟨p, r, c, x, d, hp, hr, hcn, hx, hd1, hd, rfl, rfl, rfl, rfl, rfl, ⟨_, _, _, yl_st_p hst s1 s2 s3, ⟨⟨hpa, (fr _ (by omega) (by omega) (by omega)).trans pa1, pa2⟩, fun q hq => ?_⟩⟩, fun q hq => ?_⟩, rfl, by omega, v2, ⟨_, w2, fun q hq => ?_⟩, fun q a0 a1 => fr q a0 (by omega) (by omega)⟩)
            · dsimp only
              by_cases z : q = p
              · subst z
                rw [if_pos rfl, if_pos rfl, yo_w_cg (V := fun _ => Wp) hp (if_pos rfl)]
                exact s4.to (f2 _ (by omega) (by omega)) (f2 _ (by omega) (by omega))
              · rw [if_neg z, if_neg z, yo_w_cg (V := W) hq (if_neg z)]
                exact (po q hq).to (fr _ (by omega) (by omega) (by omega)) (fr _ (by omega) (by omega) (by omega))
            · by_cases z : q = p
              · subst z
                exact (w1.cg eA eD).to (f2 _ (by omega) (by omega)) (f2 _ (by omega) (by omega))
              · refine ((C q hq).to (fr _ (by omega) (by omega) (by omega)) (fr _ (by omega) (by omega) (by omega))).cg (fun c9 _ => ?_) (fun c9 _ => ?_)
                · unfold yl_ua yl_ud; rw [if_neg (fun e => z e.1), if_neg (fun e => z e.1)]
                · unfold yl_ua yl_ud; rw [if_neg (fun e => z e.1), if_neg (fun e => z e.1)]
            · rcases (show q = 0 ∨ q = 1 by omega) with z | z
              · rw [z, pk_un (by decide), pk_us, hc2 0 (by decide)]; exact yb_full m (by omega)
              · rw [z, pk_us, hc2 1 (by decide)]; exact yb_full n (by omega)
          · refine xx_aload_n dX8_pay_60 rfl ?_
            refine xx_get xx_c8 dX8_pay_61 wf_X8_16 (j := 1) (by decide) hb rfl ?_
            refine xx_iload_n dX8_pay_64 rfl ?_
            refine xx_aald (kd := 14) (b := b + 3 + 4 * p) dX8_pay_65 (by decide) rfl pa1 (vp_in_nI (by omega) (by decide)) (by rw [nI_clamp (by omega)]; exact pa2 _ hp) ?_
            refine xx_iload_n dX8_pay_66 rfl ?_
            refine xx_if_ne (tgt := 74) dX8_pay_67 (by decide) (fun j67 => ?_) (fun h => absurd ((nI_eq (by omega) (by decide)).mp h) pz)
            refine xx_iload_n dX8_pay_74 rfl ?_
            refine xx_iload_n dX8_pay_75 rfl ?_
            refine xx_if_ne (tgt := 83) dX8_pay_76 (by decide) (fun j76 => ?_) (fun h => absurd ((nI_eq (by omega) (by decide)).mp h) pz)
            refine xx_iload_n dX8_pay_83 rfl ?_
            refine xx_iload dX8_pay_84 rfl ?_
            refine xx_iload dX8_pay_86 rfl ?_
            have c1 : 1 ≤ yy_cn m n p := by unfold yy_cn; split <;> assumption
            have c6 := yy_cn6 (p := p) hm hn
            have d1 : 1 ≤ yy_cn m n (1 - p) := by unfold yy_cn; split <;> assumption
            have d6 := yy_cn6 (p := 1 - p) hm hn
            obtain ⟨ob9, _, _, ⟨wf, wf1, _⟩, _⟩ := id (po p hp)
            refine xx_callV (N := mX4_put) (vs := [.int (nI c), .int (nI r), .int (iz x), .int (nI d)]) (b := (b + 3 + 4 * p)) (rest := []) (d2 := 2) (c2 := 0) (s2 := 0) (c3 := 0) (s3 := 0) dX8_pay_88 wm_X8_130 wi_X4_put wv_X4_put (k := 4) rfl (by decide) ob9 nX4_put ⟨pX4_put, Nat.le_of_ble_eq_true rfl, by decide, Nat.le_of_ble_eq_true rfl, by decide, by decide⟩ (c_X4_put (r := c) (o9 := r) (x := x) (d := d) c1 c6 d1 d6 ob9 (C p hp) wf1 (by omega) (by omega) hx hd1 hd) (fun v9 Eq1 hC => ?_) (fun E9 B9 hC => absurd hC.1 (by simp))
            obtain ⟨hv9, z1, v1, w1, f1⟩ := hC
            cases hv9
            refine xx_cst (st2 := []) rfl ?_
            have hb1 := (f1 b (by omega) (by omega) (by omega) (by omega)).trans hb
            refine xx_aload_n dX8_pay_91 rfl ?_
            refine xx_callV (N := mX8_forget) (vs := []) (b := b) (rest := []) (d2 := 0) (c2 := 0) (s2 := 0) (c3 := 0) (s3 := 0) dX8_pay_92 wm_X8_115 wi_X8_forget wv_X8_forget (k := 8) rfl (by decide) hb1 nX8_forget ⟨pX8_forget, Nat.le_of_ble_eq_true rfl, by decide, Nat.le_of_ble_eq_true rfl, by decide, by decide⟩ (c_X8_forget (by omega) hb1 ((f1 (b + 1) (by omega) (by omega) (by omega) (by omega)).trans hc) ((f1 (b + 18) (by omega) (by omega) (by omega) (by omega)).trans ht9)) (fun v9 Eq2 hC => ?_) (fun E9 B9 hC => absurd hC.1 (by simp))
            obtain ⟨hv9, z2, v2, w2, f2⟩ := hC
            cases hv9
            refine xx_cst (st2 := []) rfl ?_
            have tc : yl_tr p (c * 6 + r) = 6 * r + c := by unfold yl_tr; rw [if_neg pz]; omega
            have ti : ∀ c9, c9 < 36 → c9 ≠ c * 6 + r → yl_tr p c9 ≠ 6 * r + c := fun c9 h9 ne e => ne (by rw [← yl_tr2 (p := p) h9, e, ← tc, yl_tr2 (by omega)])
            have eA : ∀ c9, c9 < 36 → yy_un (fun c => yl_A (ra p (yl_tr p c)) (rd p (yl_tr p c))) (c * 6 + r) (yl_A x d) c9 = yl_A (yl_ua ra p (6 * r + c) x p (yl_tr p c9)) (yl_ud rd p (6 * r + c) d p (yl_tr p c9)) := fun c9 h9 => by
              unfold yl_ua yl_ud
              by_cases z : c9 = c * 6 + r
              · rw [z, yy_un_s, if_pos ⟨rfl, tc⟩, if_pos ⟨rfl, tc⟩]
              · rw [yy_un_n z, if_neg (fun e => ti c9 h9 z e.2), if_neg (fun e => ti c9 h9 z e.2)]
            have eD : ∀ c9, c9 < 36 → yy_u2 (fun c => yl_D (ra p (yl_tr p c)) (rd p (yl_tr p c))) (c * 6 + r) (yl_D x d) c9 = yl_D (yl_ua ra p (6 * r + c) x p (yl_tr p c9)) (yl_ud rd p (6 * r + c) d p (yl_tr p c9)) := fun c9 h9 => by
              unfold yl_ua yl_ud yy_u2
              by_cases z : c9 = c * 6 + r
              · rw [if_pos z, z, if_pos ⟨rfl, tc⟩, if_pos ⟨rfl, tc⟩]
              · rw [if_neg z, if_neg (fun e => ti c9 h9 z e.2), if_neg (fun e => ti c9 h9 z e.2)]
            have v1b := xx_pw.cg v1 c6 d6 eA eD
            obtain ⟨Wp, lp, mp, s1, s2, s3, s4⟩ := xx_pw_st hp hm hn v1b
            have fr : ∀ q, q ≠ b → (q < b + 3 + 4 * p ∨ b + 7 + 4 * p ≤ q) → q ≠ b + 18 → Eq2.2 q = A.2 q := fun q a0 a1 a2 => (f2 q a0 a2).trans (f1 q (by omega) (by omega) (by omega) (by omega))
            refine xx_vret dX8_pay_95 rfl (Or.inl ⟨⟨⟨p, hp, rfl⟩, ⟨r, hr, rfl⟩, ⟨c, hcn, rfl⟩, ia, id9⟩, ⟨p, r, c, x, d, hp, hr, hcn, hx, hd1, hd, rfl, rfl, rfl, rfl, rfl, ⟨_, _, _, yl_st_p hst s1 s2 s3, ⟨⟨hpa, (fr _ (by omega) (by omega) (by omega)).trans pa1, pa2⟩, fun q hq => ?_⟩⟩, fun q hq => ?_⟩, rfl, by omega, v2, ⟨_, w2, fun q hq => ?_⟩, fun q a0 a1 => fr q a0 (by omega) (by omega)⟩)
            · dsimp only
              by_cases z : q = p
              · subst z
                rw [if_pos rfl, if_pos rfl, yo_w_cg (V := fun _ => Wp) hp (if_pos rfl)]
                exact s4.to (f2 _ (by omega) (by omega)) (f2 _ (by omega) (by omega))
              · rw [if_neg z, if_neg z, yo_w_cg (V := W) hq (if_neg z)]
                exact (po q hq).to (fr _ (by omega) (by omega) (by omega)) (fr _ (by omega) (by omega) (by omega))
            · by_cases z : q = p
              · subst z
                exact (w1.cg eA eD).to (f2 _ (by omega) (by omega)) (f2 _ (by omega) (by omega))
              · refine ((C q hq).to (fr _ (by omega) (by omega) (by omega)) (fr _ (by omega) (by omega) (by omega))).cg (fun c9 _ => ?_) (fun c9 _ => ?_)
                · unfold yl_ua yl_ud; rw [if_neg (fun e => z e.1), if_neg (fun e => z e.1)]
                · unfold yl_ua yl_ud; rw [if_neg (fun e => z e.1), if_neg (fun e => z e.1)]
            · rcases (show q = 0 ∨ q = 1 by omega) with z | z
              · rw [z, pk_un (by decide), pk_us, hc2 0 (by decide)]; exact yb_full m (by omega)
              · rw [z, pk_us, hc2 1 (by decide)]; exact yb_full n (by omega)
        · exact xx_throwS xx_thw_iae (List.mem_of_getElem? (i := 4) rfl) rfl dX8_pay_50 dX8_pay_53 dX8_pay_54 dX8_pay_56 dX8_pay_59 (by decide) (by decide) (fun n9 hn9 => Or.inr ⟨fun h => h.2.2.2.2.2 (Int32.not_le.mp j47), rfl, hn9, rfl⟩)
