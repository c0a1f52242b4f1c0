/-! ===== step, weight, isThere ===== -/
def yy_ii (x lo hi : Int32) : Prop := ¬ x < lo ∧ ¬ hi < x
theorem xx_ii1 {x lo hi : Int32} (h : yy_ii x lo hi) : xx_inn x lo hi = 1 := by unfold xx_inn; rw [if_neg h.1, if_neg h.2]
theorem xx_ii0 {x lo hi : Int32} (h : ¬ yy_ii x lo hi) : xx_inn x lo hi = 0 := by
  unfold xx_inn
  by_cases z : x < lo
  · rw [if_pos z]
  · rw [if_neg z]
    by_cases y : hi < x
    · rw [if_pos y]
    · exact absurd ⟨z, y⟩ h
theorem yy_ii_n {x : Int32} {lo hi : Nat} (hh : hi < 2 ^ 31) (hl : lo < 2 ^ 31) (h : yy_ii x (nI lo) (nI hi)) : ∃ a, lo ≤ a ∧ a ≤ hi ∧ x = nI a := by
  obtain ⟨h1, h2⟩ := h
  have hx : ¬ x < 0 := by
    intro z
    have : nI lo ≤ x := Int32.not_lt.mp h1
    have l0 : (0 : Int32) ≤ nI lo := (nI_leI (a := 0) (b := lo) (by decide) hl).mpr (Nat.zero_le _)
    exact absurd (Int32.le_trans l0 this) (Int32.not_le.mpr z)
  obtain ⟨a, ha, e⟩ := nI_of hx
  subst e
  refine ⟨a, ?_, ?_, rfl⟩
  · exact Nat.not_lt.mp (fun z => h1 (nI_lt z hl))
  · exact Nat.not_lt.mp (fun z => h2 (nI_lt z ha))
theorem yy_in_ii {x : Int32} {k : Nat} (hk : k + 1 < 2 ^ 31) : yy_in x (k + 1) ↔ yy_ii x 0 (nI k) := by
  constructor
  · rintro ⟨v, hv, e⟩
    subst e
    exact ⟨nI_pos (by omega), nI_nlt (by omega) (by omega)⟩
  · intro h
    obtain ⟨a, _, h2, e⟩ := yy_ii_n (lo := 0) (hi := k) (by omega) (by decide) h
    exact ⟨a, by omega, e⟩
/-- a step of the path: what entered, what left, the table -/
def yq_w (ps : Nat → yq_S) (k w : Nat) : Nat := if w = 0 then (ps k).2.2 else if w = 1 then (ps (k + 1)).2.2 else (ps k).2.1
set_option maxRecDepth 100000 in
theorem c_X8_step {G : xx_G} {l : Launch} {A : xx_H} {b st : Nat} {u7 u8 u10 u11 : Value} {ps : Nat → yq_S} {hp : Nat → Option Nat} {x y : Int32} (hb : A.2 b = xx_o 8 [.ref (b + 1), .ref (b + 2), .ref (b + 11), .ref (b + 18), .ref (b + 19), .ref (b + 226), .int (nI st), u7, u8, .ref (b + 230), u10, u11, .ref (b + 233), .ref (b + 266), .ref (b + 279), .ref (b + 281), .ref (b + 283), .ref (b + 288)]) (hst : 0 < st) (hs2 : st ≤ 256) (hpa : A.2 (b + 226) = xx_r 5 3 hp) (hp3 : ∀ j, j < 3 → hp j = some (b + 227 + j)) (hpt : xx_pt A b ps st) : xx_X G l mX8_step 6 1 6 0 (lv_args 0 [.ref b, .int x, .int y]) [] A (fun z B => ((∃ k w, k < st ∧ w < 3 ∧ x = nI k ∧ y = nI w ∧ z = .inl (some (.int (nI (yq_w ps k w))))) ∧ B = A) ∨ (¬ yy_in x st ∧ z = .inr R_ioe ∧ A.1 ≤ B.1 ∧ B.2 = A.2) ∨ (yy_in x st ∧ ¬ yy_in y 3 ∧ z = .inr R_iae ∧ A.1 ≤ B.1 ∧ B.2 = A.2)) := by
  obtain ⟨f8, f9, f10, p1, p2, p3, p4⟩ := hpt
  refine xx_clv (lv2 := [(0, .ref b), (1, .int x), (2, .int y)]) rfl ?_
  refine xx_aload_n dX8_step_0 rfl ?_
  refine xx_get xx_c8 dX8_step_1 wf_X8_42 (j := 6) (by decide) hb rfl ?_
  refine xx_if_ne (tgt := 17) dX8_step_4 (by decide) (fun j4 => ?_) (fun h => absurd h (nI_ne0 (n := st) (by omega) (by omega)))
  refine xx_iload_n dX8_step_17 rfl ?_
  refine xx_if_lt (tgt := 29) dX8_step_18 (by decide) (fun j18 => ?_) (fun j18 => ?_)
  · exact xx_throwS xx_thw_ioe (List.mem_of_getElem? (i := 7) rfl) rfl dX8_step_29 dX8_step_32 dX8_step_33 dX8_step_35 dX8_step_38 (by decide) (by decide) (fun n9 hn9 => Or.inr (Or.inl ⟨yy_in_lo (by omega) j18, rfl, hn9, rfl⟩))
  · refine xx_iload_n dX8_step_21 rfl ?_
    refine xx_aload_n dX8_step_22 rfl ?_
    refine xx_get xx_c8 dX8_step_23 wf_X8_42 (j := 6) (by decide) hb rfl ?_
    refine xx_icmp_lt (tgt := 39) dX8_step_26 (by decide) (fun j26 => ?_) (fun j26 => ?_)
    · have hin9 := yy_in_of (k := st) (by omega) j18 j26
      refine xx_iload_n dX8_step_39 rfl ?_
      refine xx_if_lt (tgt := 48) dX8_step_40 (by decide) (fun j40 => ?_) (fun j40 => ?_)
      · exact xx_throwS xx_thw_iae (List.mem_of_getElem? (i := 8) rfl) rfl dX8_step_48 dX8_step_51 dX8_step_52 dX8_step_54 dX8_step_57 (by decide) (by decide) (fun n9 hn9 => Or.inr (Or.inr ⟨hin9, yy_in_lo (by decide) j40, rfl, hn9, rfl⟩))
      · refine xx_iload_n dX8_step_43 rfl ?_
        refine xx_iconst (v := 2) dX8_step_44 (by decide) ?_
        refine xx_icmp_le (tgt := 58) dX8_step_45 (by decide) (fun j45 => ?_) (fun j45 => ?_)
        · obtain ⟨k, hk, ek⟩ := hin9
          subst ek
          obtain ⟨w9, hw, ew⟩ := yy_in_of2 (k := 2) (by decide) j40 j45
          subst ew
          refine xx_clv (lv2 := [(0, .ref b), (1, .int (nI k)), (2, .int (nI w9))]) rfl ?_
          refine xx_aload_n dX8_step_58 rfl ?_
          refine xx_get xx_c8 dX8_step_59 wf_X8_39 (j := 5) (by decide) hb rfl ?_
          refine xx_iload_n dX8_step_62 rfl ?_
          refine xx_aald (kd := 5) (b := b + 227 + w9) dX8_step_63 (by decide) rfl hpa (vp_in_nI (by omega) (by decide)) (by rw [nI_clamp (by omega)]; exact hp3 _ hw) ?_
          refine xx_iload_n dX8_step_64 rfl ?_
          obtain ⟨v1, v2, v3⟩ := p4 k hk
          have key : ∃ f, A.2 (b + 227 + w9) = xx_i 256 f ∧ f k = nI (yq_w ps k w9) := by
            rcases (show w9 = 0 ∨ w9 = 1 ∨ w9 = 2 by omega) with z | z | z
            · subst z; exact ⟨f8, p1, v1⟩
            · subst z; exact ⟨f9, p2, v2⟩
            · subst z; exact ⟨f10, p3, v3⟩
          obtain ⟨f, f1, f2⟩ := key
          refine xx_iald dX8_step_65 f1 (vp_in_nI (by omega) (by decide)) ?_
          refine xx_eqi (y := nI (yq_w ps k w9)) (by rw [nI_clamp (by omega)]; exact f2) ?_
          exact xx_iret dX8_step_66 rfl (Or.inl ⟨⟨k, w9, hk, hw, rfl, rfl, rfl⟩, rfl⟩)
        · exact xx_throwS xx_thw_iae (List.mem_of_getElem? (i := 8) rfl) rfl dX8_step_48 dX8_step_51 dX8_step_52 dX8_step_54 dX8_step_57 (by decide) (by decide) (fun n9 hn9 => Or.inr (Or.inr ⟨hin9, yy_in_hi2 (k := 2) (by decide) j45, rfl, hn9, rfl⟩))
    · exact xx_throwS xx_thw_ioe (List.mem_of_getElem? (i := 7) rfl) rfl dX8_step_29 dX8_step_32 dX8_step_33 dX8_step_35 dX8_step_38 (by decide) (by decide) (fun n9 hn9 => Or.inr (Or.inl ⟨yy_in_hi (by omega) j26, rfl, hn9, rfl⟩))
set_option maxRecDepth 100000 in
theorem c_X8_weight {G : xx_G} {l : Launch} {A : xx_H} {b m n : Nat} {u6 u7 u8 u10 u11 : Value} {fc : Nat → Int32} {ta tb : Nat → Nat → Nat} {xp xr xa xd : Int32} (hb : A.2 b = xx_o 8 [.ref (b + 1), .ref (b + 2), .ref (b + 11), .ref (b + 18), .ref (b + 19), .ref (b + 226), u6, u7, u8, .ref (b + 230), u10, u11, .ref (b + 233), .ref (b + 266), .ref (b + 279), .ref (b + 281), .ref (b + 283), .ref (b + 288)]) (hc : A.2 (b + 1) = xx_i 2 fc) (hc2 : ∀ p, p < 2 → fc p = nI (yy_cn m n p)) (hm1 : 1 ≤ m) (hm : m ≤ 6) (hn1 : 1 ≤ n) (hn : n ≤ 6) (H : xx_tls A b ta tb) : xx_X G l mX8_weight 8 3 18 0 (lv_args 0 [.ref b, .int xp, .int xr, .int xa, .int xd]) [] A (fun z B => ((yy_hp m n xp xr ∧ yy_ii xa 0 999 ∧ yy_ii xd 1 999) ∧ (∃ p r a d, p < 2 ∧ r < yy_cn m n p ∧ a ≤ 999 ∧ 1 ≤ d ∧ d ≤ 999 ∧ xp = nI p ∧ xr = nI r ∧ xa = nI a ∧ xd = nI d ∧ xx_tls B b (fun q => if q = p then yy_u2 (ta q) r a else ta q) (fun q => if q = p then yy_u2 (tb q) r d else tb q)) ∧ z = .inl none ∧ B.1 = A.1 ∧ ∀ q, (q < b + 12 ∨ b + 18 ≤ q) → B.2 q = A.2 q) ∨ (¬ (yy_hp m n xp xr ∧ yy_ii xa 0 999 ∧ yy_ii xd 1 999) ∧ z = .inr R_iae ∧ A.1 ≤ B.1 ∧ B.2 = A.2)) := by
  obtain ⟨⟨ht, t1, t2⟩, t3⟩ := id H
  refine xx_clv (lv2 := [(0, .ref b), (1, .int xp), (2, .int xr), (3, .int xa), (4, .int xd)]) rfl ?_
  refine xx_aload_n dX8_weight_0 rfl ?_
  refine xx_callV (N := mX8_needGame) (vs := []) (b := b) (rest := []) (d2 := 6) (c2 := 0) (s2 := 0) (c3 := 3) (s3 := 18) dX8_weight_1 wm_X8_118 wi_X8_needGame wv_X8_needGame (k := 8) rfl (by decide) hb nX8_needGame ⟨pX8_needGame, Nat.le_of_ble_eq_true rfl, by decide, Nat.le_of_ble_eq_true rfl, by decide, by decide⟩ (c_X8_needGame hb hc hc2 hm1 hm) (fun v9 B9 hC => ?_) (fun E9 B9 hC => absurd hC.1 (by simp))
  obtain ⟨hv9, e9⟩ := hC
  cases hv9
  refine xx_cst (st2 := []) rfl ?_
  rw [e9]
  refine xx_aload_n dX8_weight_4 rfl ?_
  refine xx_iload_n dX8_weight_5 rfl ?_
  refine xx_callV (N := mX8_needPlayer) (vs := [.int xp]) (b := b) (rest := []) (d2 := 6) (c2 := 1) (s2 := 6) (c3 := 2) (s3 := 12) dX8_weight_6 wm_X8_121 wi_X8_needPlayer wv_X8_needPlayer (k := 8) rfl (by decide) hb nX8_needPlayer ⟨pX8_needPlayer, Nat.le_of_ble_eq_true rfl, by decide, Nat.le_of_ble_eq_true rfl, by decide, by decide⟩ (c_X8_needPlayer) (fun v9 B9 hC => ?_) (fun E9 B9 hC => ?_)
  rotate_left
  · rcases hC with ⟨_, hv9, _⟩ | ⟨q9, hv9, y9, z9⟩
    · cases hv9
    · cases hv9
      exact xx_out rfl (Or.inr ⟨fun h => by obtain ⟨⟨p9, a9, b9, _⟩, _⟩ := h; exact q9 ⟨p9, a9, b9⟩, rfl, y9, z9⟩)
  rcases hC with ⟨hP, hv9, e9⟩ | ⟨_, hv9, _⟩
  rotate_left
  · cases hv9
  cases hv9
  rw [e9]
  refine xx_cst (st2 := []) rfl ?_
  obtain ⟨p, hp, ep⟩ := hP
  subst ep
  refine xx_clv (lv2 := [(0, .ref b), (1, .int (nI p)), (2, .int xr), (3, .int xa), (4, .int xd)]) rfl ?_
  refine xx_aload_n dX8_weight_9 rfl ?_
  refine xx_iload_n dX8_weight_10 rfl ?_
  refine xx_iload_n dX8_weight_11 rfl ?_
  refine xx_callV (N := mX8_needRow) (vs := [.int (nI p), .int xr]) (b := b) (rest := []) (d2 := 6) (c2 := 1) (s2 := 6) (c3 := 1) (s3 := 6) dX8_weight_12 wm_X8_125 wi_X8_needRow wv_X8_needRow (k := 8) rfl (by decide) hb nX8_needRow ⟨pX8_needRow, Nat.le_of_ble_eq_true rfl, by decide, Nat.le_of_ble_eq_true rfl, by decide, by decide⟩ (c_X8_needRow hb hc hc2 hm hn hp) (fun v9 B9 hC => ?_) (fun E9 B9 hC => ?_)
  rotate_left
  · rcases hC with ⟨_, hv9, _⟩ | ⟨q9, hv9, y9, z9⟩
    · cases hv9
    · cases hv9
      exact xx_out rfl (Or.inr ⟨fun h => by obtain ⟨⟨p9, a9, b9, c9⟩, _⟩ := h; exact q9 (by rw [nI_inj2 (by omega) (by omega) b9]; exact c9), rfl, y9, z9⟩)
  rcases hC with ⟨hR, hv9, e9⟩ | ⟨_, hv9, _⟩
  rotate_left
  · cases hv9
  cases hv9
  rw [e9]
  refine xx_cst (st2 := []) rfl ?_
  obtain ⟨r, hr, er⟩ := hR
  subst er
  refine xx_clv (lv2 := [(0, .ref b), (1, .int (nI p)), (2, .int (nI r)), (3, .int xa), (4, .int xd)]) rfl ?_
  have c6 := yy_cn6 (p := p) hm hn
  refine xx_iload_n dX8_weight_15 rfl ?_
  refine xx_if_lt (tgt := 40) dX8_weight_16 (by decide) (fun j16 => ?_) (fun j16 => ?_)
  · exact xx_throwS xx_thw_iae (List.mem_of_getElem? (i := 9) rfl) rfl dX8_weight_40 dX8_weight_43 dX8_weight_44 dX8_weight_46 dX8_weight_49 (by decide) (by decide) (fun n9 hn9 => Or.inr ⟨fun h => h.2.1.1 j16, rfl, hn9, rfl⟩)
  · refine xx_iload_n dX8_weight_19 rfl ?_
    refine xx_sipush (v := 999) dX8_weight_20 (by decide) ?_
    refine xx_icmp_gt (tgt := 40) dX8_weight_23 (by decide) (fun j23 => ?_) (fun j23 => ?_)
    · exact xx_throwS xx_thw_iae (List.mem_of_getElem? (i := 9) rfl) rfl dX8_weight_40 dX8_weight_43 dX8_weight_44 dX8_weight_46 dX8_weight_49 (by decide) (by decide) (fun n9 hn9 => Or.inr ⟨fun h => h.2.1.2 j23, rfl, hn9, rfl⟩)
    · refine xx_iload dX8_weight_26 rfl ?_
      refine xx_iconst (v := 1) dX8_weight_28 (by decide) ?_
      refine xx_icmp_lt (tgt := 40) dX8_weight_29 (by decide) (fun j29 => ?_) (fun j29 => ?_)
      · exact xx_throwS xx_thw_iae (List.mem_of_getElem? (i := 9) rfl) rfl dX8_weight_40 dX8_weight_43 dX8_weight_44 dX8_weight_46 dX8_weight_49 (by decide) (by decide) (fun n9 hn9 => Or.inr ⟨fun h => h.2.2.1 j29, rfl, hn9, rfl⟩)
      · refine xx_iload dX8_weight_32 rfl ?_
        refine xx_sipush (v := 999) dX8_weight_34 (by decide) ?_
        refine xx_icmp_le (tgt := 50) dX8_weight_37 (by decide) (fun j37 => ?_) (fun j37 => ?_)
        · have ia : yy_ii xa 0 999 := ⟨j16, Int32.not_lt.mpr (Int32.not_lt.mp j23)⟩
          have id9 : yy_ii xd 1 999 := ⟨j29, Int32.not_lt.mpr j37⟩
          obtain ⟨a, _, ha, ea⟩ := yy_ii_n (lo := 0) (hi := 999) (by decide) (by decide) ia
          obtain ⟨d, hd1, hd, ed⟩ := yy_ii_n (lo := 1) (hi := 999) (by decide) (by decide) id9
          subst ea
          subst ed
          refine xx_clv (lv2 := [(0, .ref b), (1, .int (nI p)), (2, .int (nI r)), (3, .int (nI a)), (4, .int (nI d))]) rfl ?_
          refine xx_aload_n dX8_weight_50 rfl ?_
          refine xx_get xx_c8 dX8_weight_51 wf_X8_23 (j := 2) (by decide) hb rfl ?_
          refine xx_iload_n dX8_weight_54 rfl ?_
          refine xx_aald (kd := 16) (b := b + 12 + 3 * p) dX8_weight_55 (by decide) rfl t1 (vp_in_nI (by omega) (by decide)) (by rw [nI_clamp (by omega)]; exact t2 _ hp) ?_
          refine xx_iload_n dX8_weight_56 rfl ?_
          refine xx_iload_n dX8_weight_57 rfl ?_
          refine xx_iload dX8_weight_58 rfl ?_
          have ob9 := (t3 p hp).1
          refine xx_callV (N := mX6_put) (vs := [.int (nI r), .int (nI a), .int (nI d)]) (b := (b + 12 + 3 * p)) (rest := []) (d2 := 0) (c2 := 0) (s2 := 0) (c3 := 0) (s3 := 0) dX8_weight_60 wm_X8_158 wi_X6_put wv_X6_put (k := 6) rfl (by decide) ob9 nX6_put ⟨pX6_put, Nat.le_of_ble_eq_true rfl, by decide, Nat.le_of_ble_eq_true rfl, by decide, by decide⟩ (c_X6_put (t3 p hp) (show r < 6 by omega) ha hd1 hd) (fun v9 Eq1 hC => ?_) (fun E9 B9 hC => absurd hC.1 (by simp))
          obtain ⟨hv9, z1, v1, f1⟩ := hC
          cases hv9
          refine xx_cst (st2 := []) rfl ?_
          refine xx_vret dX8_weight_63 rfl (Or.inl ⟨⟨⟨p, hp, rfl, r, hr, rfl⟩, ia, id9⟩, ⟨p, r, a, d, hp, hr, ha, hd1, hd, rfl, rfl, rfl, rfl, ⟨⟨ht, (f1 _ (by omega) (by omega)).trans t1, t2⟩, fun q hq => ?_⟩⟩, rfl, by omega, fun q hq => f1 q (by omega) (by omega)⟩)
          show xx_tdl Eq1 (b + 12 + 3 * q) (if q = p then yy_u2 (ta q) r a else ta q) (if q = p then yy_u2 (tb q) r d else tb q)
          by_cases z : q = p
          · subst z; rw [if_pos rfl, if_pos rfl]; exact v1
          · rw [if_neg z, if_neg z]; exact (t3 q hq).to (fun q9 a9 b9 => f1 q9 (by omega) (by omega))
        · exact xx_throwS xx_thw_iae (List.mem_of_getElem? (i := 9) rfl) rfl dX8_weight_40 dX8_weight_43 dX8_weight_44 dX8_weight_46 dX8_weight_49 (by decide) (by decide) (fun n9 hn9 => Or.inr ⟨fun h => h.2.2.2 (Int32.not_le.mp j37), rfl, hn9, rfl⟩)
set_option maxRecDepth 100000 in
theorem c_X8_isThere {G : xx_G} {l : Launch} {A : xx_H} {b m n : Nat} {u6 u7 u8 u10 u11 : Value} {fc : Nat → Int32} {th9 : Nat → Nat} {xp xr : Int32} (hb : A.2 b = xx_o 8 [.ref (b + 1), .ref (b + 2), .ref (b + 11), .ref (b + 18), .ref (b + 19), .ref (b + 226), u6, u7, u8, .ref (b + 230), u10, u11, .ref (b + 233), .ref (b + 266), .ref (b + 279), .ref (b + 281), .ref (b + 283), .ref (b + 288)]) (hc : A.2 (b + 1) = xx_i 2 fc) (hc2 : ∀ p, p < 2 → fc p = nI (yy_cn m n p)) (hm1 : 1 ≤ m) (hm : m ≤ 6) (hn1 : 1 ≤ n) (hn : n ≤ 6) (H : ∃ f, A.2 (b + 18) = xx_i 2 f ∧ ∀ p, p < 2 → f p = nI (th9 p)) (h64 : ∀ p, p < 2 → th9 p < 64) : xx_X G l mX8_isThere 8 2 12 0 (lv_args 0 [.ref b, .int xp, .int xr]) [] A (fun z B => ((∃ p r, p < 2 ∧ r < yy_cn m n p ∧ xp = nI p ∧ xr = nI r ∧ z = .inl (some (.int (if Nat.testBit (th9 p) r then 1 else 0)))) ∧ B = A) ∨ (¬ yy_hp m n xp xr ∧ z = .inr R_iae ∧ A.1 ≤ B.1 ∧ B.2 = A.2)) := by
  obtain ⟨f, f1, f2⟩ := H
  refine xx_clv (lv2 := [(0, .ref b), (1, .int xp), (2, .int xr)]) rfl ?_
  refine xx_aload_n dX8_isThere_0 rfl ?_
  refine xx_callV (N := mX8_needGame) (vs := []) (b := b) (rest := []) (d2 := 6) (c2 := 0) (s2 := 0) (c3 := 2) (s3 := 12) dX8_isThere_1 wm_X8_118 wi_X8_needGame wv_X8_needGame (k := 8) rfl (by decide) hb nX8_needGame ⟨pX8_needGame, Nat.le_of_ble_eq_true rfl, by decide, Nat.le_of_ble_eq_true rfl, by decide, by decide⟩ (c_X8_needGame hb hc hc2 hm1 hm) (fun v9 B9 hC => ?_) (fun E9 B9 hC => absurd hC.1 (by simp))
  obtain ⟨hv9, e9⟩ := hC
  cases hv9
  refine xx_cst (st2 := []) rfl ?_
  rw [e9]
  refine xx_aload_n dX8_isThere_4 rfl ?_
  refine xx_iload_n dX8_isThere_5 rfl ?_
  refine xx_callV (N := mX8_needPlayer) (vs := [.int xp]) (b := b) (rest := []) (d2 := 6) (c2 := 1) (s2 := 6) (c3 := 1) (s3 := 6) dX8_isThere_6 wm_X8_121 wi_X8_needPlayer wv_X8_needPlayer (k := 8) rfl (by decide) hb nX8_needPlayer ⟨pX8_needPlayer, Nat.le_of_ble_eq_true rfl, by decide, Nat.le_of_ble_eq_true rfl, by decide, by decide⟩ (c_X8_needPlayer) (fun v9 B9 hC => ?_) (fun E9 B9 hC => ?_)
  rotate_left
  · rcases hC with ⟨_, hv9, _⟩ | ⟨q9, hv9, y9, z9⟩
    · cases hv9
    · cases hv9
      exact xx_out rfl (Or.inr ⟨fun h => by obtain ⟨p9, a9, b9, _⟩ := h; exact q9 ⟨p9, a9, b9⟩, rfl, y9, z9⟩)
  rcases hC with ⟨hP, hv9, e9⟩ | ⟨_, hv9, _⟩
  rotate_left
  · cases hv9
  cases hv9
  rw [e9]
  refine xx_cst (st2 := []) rfl ?_
  obtain ⟨p, hp, ep⟩ := hP
  subst ep
  refine xx_clv (lv2 := [(0, .ref b), (1, .int (nI p)), (2, .int xr)]) rfl ?_
  refine xx_aload_n dX8_isThere_9 rfl ?_
  refine xx_iload_n dX8_isThere_10 rfl ?_
  refine xx_iload_n dX8_isThere_11 rfl ?_
  refine xx_callV (N := mX8_needRow) (vs := [.int (nI p), .int xr]) (b := b) (rest := []) (d2 := 6) (c2 := 1) (s2 := 6) (c3 := 0) (s3 := 0) dX8_isThere_12 wm_X8_125 wi_X8_needRow wv_X8_needRow (k := 8) rfl (by decide) hb nX8_needRow ⟨pX8_needRow, Nat.le_of_ble_eq_true rfl, by decide, Nat.le_of_ble_eq_true rfl, by decide, by decide⟩ (c_X8_needRow hb hc hc2 hm hn hp) (fun v9 B9 hC => ?_) (fun E9 B9 hC => ?_)
  rotate_left
  · rcases hC with ⟨_, hv9, _⟩ | ⟨q9, hv9, y9, z9⟩
    · cases hv9
    · cases hv9
      exact xx_out rfl (Or.inr ⟨fun h => by obtain ⟨p9, a9, b9, c9⟩ := h; exact q9 (by rw [nI_inj2 (by omega) (by omega) b9]; exact c9), rfl, y9, z9⟩)
  rcases hC with ⟨hR, hv9, e9⟩ | ⟨_, hv9, _⟩
  rotate_left
  · cases hv9
  cases hv9
  rw [e9]
  refine xx_cst (st2 := []) rfl ?_
  obtain ⟨r, hr, er⟩ := hR
  subst er
  refine xx_clv (lv2 := [(0, .ref b), (1, .int (nI p)), (2, .int (nI r))]) rfl ?_
  have c6 := yy_cn6 (p := p) hm hn
  refine xx_aload_n dX8_isThere_15 rfl ?_
  refine xx_get xx_c8 dX8_isThere_16 wf_X8_27 (j := 3) (by decide) hb rfl ?_
  refine xx_iload_n dX8_isThere_19 rfl ?_
  refine xx_iald dX8_isThere_20 f1 (vp_in_nI (by omega) (by decide)) ?_
  refine xx_eqi (y := nI (th9 p)) (by rw [nI_clamp (by omega)]; exact f2 p hp) ?_
  refine xx_iload_n dX8_isThere_21 rfl ?_
  refine xx_ishr dX8_isThere_22 ?_
  refine xx_iconst (v := 1) dX8_isThere_23 (by decide) ?_
  refine xx_iand dX8_isThere_24 ?_
  refine xx_eqi (y := if Nat.testBit (th9 p) r then 1 else 0) (yb_sh (h64 p hp) (by omega)) ?_
  refine xx_if_eq (tgt := 32) dX8_isThere_25 (by decide) (fun j25 => ?_) (fun j25 => ?_)
  · refine xx_iconst (v := 0) dX8_isThere_32 (by decide) ?_
    exact xx_zret dX8_isThere_33 rfl rfl (Or.inl ⟨⟨p, r, hp, hr, rfl, rfl, by rw [if_neg (fun h => absurd (j25.symm.trans (if_pos h)) (by decide))]⟩, rfl⟩)
  · refine xx_iconst (v := 1) dX8_isThere_28 (by decide) ?_
    refine xx_goto (tgt := 33) dX8_isThere_29 (by decide) ?_
    exact xx_zret dX8_isThere_33 rfl rfl (Or.inl ⟨⟨p, r, hp, hr, rfl, rfl, by rw [if_pos (Classical.byContradiction (fun h => j25 (if_neg h)))]⟩, rfl⟩)
set_option maxRecDepth 100000 in
theorem c_X9_step {G : xx_G} {l : Launch} {A : xx_H} {b : Nat} {th hl en tu : Value} {m n lb st : Nat} {ps : Nat → yq_S} {x y : Int32} (hb : A.2 b = xx_o 9 (xx_mf b th (.int (nI m)) (.int (nI n)) (.int (nI lb)) (.int (nI st)) hl en tu)) (hlb : lb < 2 ^ 31) (hst : 0 < st) (hs2 : st ≤ 1000) (hpt : xx_rt2 A b ps st) : xx_X G l mX9_step 1 0 0 0 (lv_args 0 [.ref b, .int x, .int y]) [] A (fun z B => B.1 = A.1 ∧ (∀ q, q ≠ b → B.2 q = A.2 q) ∧ (((∃ k w, k < st ∧ w < 3 ∧ x = nI k ∧ y = nI w ∧ z = .inl (some (.int (nI (yq_w ps k w))))) ∧ B.2 b = xx_o 9 (xx_mf b (.int 0) (.int (nI m)) (.int (nI n)) (.int (nI lb)) (.int (nI st)) hl en tu)) ∨ (¬ yy_in x st ∧ z = .inl (some (.int 0)) ∧ B.2 b = xx_o 9 (xx_mf b (.int 2) (.int (nI m)) (.int (nI n)) (.int (nI lb)) (.int (nI st)) hl en tu)) ∨ (yy_in x st ∧ ¬ yy_in y 3 ∧ z = .inl (some (.int 0)) ∧ B.2 b = xx_o 9 (xx_mf b (.int 3) (.int (nI m)) (.int (nI n)) (.int (nI lb)) (.int (nI st)) hl en tu)))) := by
  obtain ⟨f8, f9, f10, p1, p2, p3, p4⟩ := hpt
  by_cases hx : yy_in x st
  · obtain ⟨k, hk, ek⟩ := hx
    subst ek
    have hin1 : xx_inn (nI k) 0 (nI (st - 1)) = 1 := xx_inn1 (by omega) (by rw [show st - 1 + 1 = st by omega]; exact ⟨k, hk, rfl⟩)
    by_cases hy : yy_in y 3
    · obtain ⟨w9, hw, ew⟩ := hy
      subst ew
      have hin2 : xx_inn (nI w9) 0 2 = 1 := xx_inn1 (k := 2) (by decide) ⟨w9, hw, rfl⟩
      refine xx_clv (lv2 := [(0, .ref b), (1, .int (nI k)), (2, .int (nI w9))]) rfl ?_
      refine xx_aload_n dX9_step_0 rfl ?_
      refine xx_aload_n dX9_step_1 rfl ?_
      refine xx_get xx_c9 dX9_step_2 wf_X9_32 (j := 10) (by decide) hb rfl ?_
      refine xx_if_ge (tgt := 12) dX9_step_5 (by decide) (fun j5 => ?_) (fun h => absurd ((nI_leI (a := 0) (b := lb) (by decide) (by omega)).mpr (Nat.zero_le _)) h)
      refine xx_iload_n dX9_step_12 rfl ?_
      refine xx_iconst (v := 0) dX9_step_13 (by decide) ?_
      refine xx_aload_n dX9_step_14 rfl ?_
      refine xx_get xx_c9 dX9_step_15 wf_X9_129 (j := 11) (by decide) hb rfl ?_
      refine xx_iconst (v := 1) dX9_step_18 (by decide) ?_
      refine xx_isub dX9_step_19 ?_
      refine xx_eqi (y := nI (st - 1)) (pk_sub (a := st) (b := 1) (by omega)) ?_
      refine xx_callS (N := mX9_in) (vs := [.int (nI k), .int 0, .int (nI (st - 1))]) (rest := [.ref b]) (d2 := 0) (c2 := 0) (s2 := 0) (c3 := 0) (s3 := 0) dX9_step_20 wm_X9_116 ws_X9_in wz_X9 (by decide) nX9_in ⟨pX9_in, Nat.le_of_ble_eq_true rfl, by decide, Nat.le_of_ble_eq_true rfl, by decide, by decide⟩ c_X9_in (fun v9 B9 hC => ?_) (fun E9 B9 hC => absurd hC.1 (by simp))
      obtain ⟨hv9, e9⟩ := hC
      cases hv9
      rw [e9]
      refine xx_cst (st2 := [.int 1, .ref b]) (by rw [hin1]; rfl) ?_
      refine xx_if_ne (tgt := 30) dX9_step_23 (by decide) (fun j23 => ?_) (fun h => absurd h (by decide))
      refine xx_iload_n dX9_step_30 rfl ?_
      refine xx_iconst (v := 0) dX9_step_31 (by decide) ?_
      refine xx_iconst (v := 2) dX9_step_32 (by decide) ?_
      refine xx_callS (N := mX9_in) (vs := [.int (nI w9), .int 0, .int 2]) (rest := [.ref b]) (d2 := 0) (c2 := 0) (s2 := 0) (c3 := 0) (s3 := 0) dX9_step_33 wm_X9_116 ws_X9_in wz_X9 (by decide) nX9_in ⟨pX9_in, Nat.le_of_ble_eq_true rfl, by decide, Nat.le_of_ble_eq_true rfl, by decide, by decide⟩ c_X9_in (fun v9 B9 hC => ?_) (fun E9 B9 hC => absurd hC.1 (by simp))
      obtain ⟨hv9, e9⟩ := hC
      cases hv9
      rw [e9]
      refine xx_cst (st2 := [.int 1, .ref b]) (by rw [hin2]; rfl) ?_
      refine xx_if_ne (tgt := 43) dX9_step_36 (by decide) (fun j36 => ?_) (fun h => absurd h (by decide))
      refine xx_iconst (v := 0) dX9_step_43 (by decide) ?_
      refine xx_put xx_c9 dX9_step_44 wf_X9_84 (j := 0) (by decide) rfl rfl rfl hb (Nat.le_of_ble_eq_true rfl) (xx_gu fun Eq1 zq1 hbq1 oq1 => ?_)
      have hbq1 : Eq1.2 b = xx_o 9 (xx_mf b (.int 0) (.int (nI m)) (.int (nI n)) (.int (nI lb)) (.int (nI st)) hl en tu) := hbq1
      refine xx_aload_n dX9_step_47 rfl ?_
      refine xx_get xx_c9 dX9_step_48 wf_X9_84 (j := 0) (by decide) hbq1 rfl ?_
      refine xx_if_le (tgt := 58) dX9_step_51 (by decide) (fun j51 => ?_) (fun h => absurd (by decide) h)
      refine xx_iload_n dX9_step_58 rfl ?_
      refine xx_if_ne (tgt := 71) dX9_step_59 (by decide) (fun j59 => ?_) (fun j59 => ?_)
      · have j59 : ¬ w9 = 0 := fun hq9 => j59 ((nI_eq (a := w9) (b := 0) (by omega) (by omega)).mpr hq9)
        refine xx_iload_n dX9_step_71 rfl ?_
        refine xx_iconst (v := 1) dX9_step_72 (by decide) ?_
        refine xx_icmp_ne (tgt := 85) dX9_step_73 (by decide) (fun j73 => ?_) (fun j73 => ?_)
        · have j73 : ¬ w9 = 1 := fun hq9 => j73 ((nI_eq (a := w9) (b := 1) (by omega) (by omega)).mpr hq9)
          refine xx_aload_n dX9_step_85 rfl ?_
          refine xx_get xx_c9 dX9_step_86 wf_X9_42 (j := 14) (by decide) hbq1 rfl ?_
          refine xx_iload_n dX9_step_89 rfl ?_
          refine xx_iald dX9_step_90 ((oq1 (b + 10) (by omega)).trans p3) (vp_in_nI (by omega) (by decide)) ?_
          refine xx_eqi (y := nI (yq_w ps k w9)) (by rw [nI_clamp (by omega), show yq_w ps k w9 = (ps k).2.1 by unfold yq_w; rw [if_neg j59, if_neg j73]]; exact (p4 k hk).2.2) ?_
          exact xx_iret dX9_step_91 rfl ⟨zq1, oq1, Or.inl ⟨⟨k, w9, hk, hw, rfl, rfl, rfl⟩, hbq1⟩⟩
        · have j73 : w9 = 1 := (nI_eq (a := w9) (b := 1) (by omega) (by omega)).mp j73
          refine xx_aload_n dX9_step_76 rfl ?_
          refine xx_get xx_c9 dX9_step_77 wf_X9_39 (j := 13) (by decide) hbq1 rfl ?_
          refine xx_iload_n dX9_step_80 rfl ?_
          refine xx_iald dX9_step_81 ((oq1 (b + 9) (by omega)).trans p2) (vp_in_nI (by omega) (by decide)) ?_
          refine xx_eqi (y := nI (yq_w ps k w9)) (by rw [nI_clamp (by omega), show yq_w ps k w9 = (ps (k + 1)).2.2 by unfold yq_w; rw [if_neg j59, if_pos j73]]; exact (p4 k hk).2.1) ?_
          refine xx_goto (tgt := 91) dX9_step_82 (by decide) ?_
          exact xx_iret dX9_step_91 rfl ⟨zq1, oq1, Or.inl ⟨⟨k, w9, hk, hw, rfl, rfl, rfl⟩, hbq1⟩⟩
      · have j59 : w9 = 0 := (nI_eq (a := w9) (b := 0) (by omega) (by omega)).mp j59
        refine xx_aload_n dX9_step_62 rfl ?_
        refine xx_get xx_c9 dX9_step_63 wf_X9_36 (j := 12) (by decide) hbq1 rfl ?_
        refine xx_iload_n dX9_step_66 rfl ?_
        refine xx_iald dX9_step_67 ((oq1 (b + 8) (by omega)).trans p1) (vp_in_nI (by omega) (by decide)) ?_
        refine xx_eqi (y := nI (yq_w ps k w9)) (by rw [nI_clamp (by omega), show yq_w ps k w9 = (ps k).2.2 by unfold yq_w; rw [if_pos j59]]; exact (p4 k hk).1) ?_
        refine xx_goto (tgt := 91) dX9_step_68 (by decide) ?_
        exact xx_iret dX9_step_91 rfl ⟨zq1, oq1, Or.inl ⟨⟨k, w9, hk, hw, rfl, rfl, rfl⟩, hbq1⟩⟩
    · have hin2 : xx_inn y 0 2 = 0 := xx_inn0 (k := 2) (by decide) hy
      refine xx_clv (lv2 := [(0, .ref b), (1, .int (nI k)), (2, .int y)]) rfl ?_
      refine xx_aload_n dX9_step_0 rfl ?_
      refine xx_aload_n dX9_step_1 rfl ?_
      refine xx_get xx_c9 dX9_step_2 wf_X9_32 (j := 10) (by decide) hb rfl ?_
      refine xx_if_ge (tgt := 12) dX9_step_5 (by decide) (fun j5 => ?_) (fun h => absurd ((nI_leI (a := 0) (b := lb) (by decide) (by omega)).mpr (Nat.zero_le _)) h)
      refine xx_iload_n dX9_step_12 rfl ?_
      refine xx_iconst (v := 0) dX9_step_13 (by decide) ?_
      refine xx_aload_n dX9_step_14 rfl ?_
      refine xx_get xx_c9 dX9_step_15 wf_X9_129 (j := 11) (by decide) hb rfl ?_
      refine xx_iconst (v := 1) dX9_step_18 (by decide) ?_
      refine xx_isub dX9_step_19 ?_
      refine xx_eqi (y := nI (st - 1)) (pk_sub (a := st) (b := 1) (by omega)) ?_
      refine xx_callS (N := mX9_in) (vs := [.int (nI k), .int 0, .int (nI (st - 1))]) (rest := [.ref b]) (d2 := 0) (c2 := 0) (s2 := 0) (c3 := 0) (s3 := 0) dX9_step_20 wm_X9_116 ws_X9_in wz_X9 (by decide) nX9_in ⟨pX9_in, Nat.le_of_ble_eq_true rfl, by decide, Nat.le_of_ble_eq_true rfl, by decide, by decide⟩ c_X9_in (fun v9 B9 hC => ?_) (fun E9 B9 hC => absurd hC.1 (by simp))
      obtain ⟨hv9, e9⟩ := hC
      cases hv9
      rw [e9]
      refine xx_cst (st2 := [.int 1, .ref b]) (by rw [hin1]; rfl) ?_
      refine xx_if_ne (tgt := 30) dX9_step_23 (by decide) (fun j23 => ?_) (fun h => absurd h (by decide))
      refine xx_iload_n dX9_step_30 rfl ?_
      refine xx_iconst (v := 0) dX9_step_31 (by decide) ?_
      refine xx_iconst (v := 2) dX9_step_32 (by decide) ?_
      refine xx_callS (N := mX9_in) (vs := [.int y, .int 0, .int 2]) (rest := [.ref b]) (d2 := 0) (c2 := 0) (s2 := 0) (c3 := 0) (s3 := 0) dX9_step_33 wm_X9_116 ws_X9_in wz_X9 (by decide) nX9_in ⟨pX9_in, Nat.le_of_ble_eq_true rfl, by decide, Nat.le_of_ble_eq_true rfl, by decide, by decide⟩ c_X9_in (fun v9 B9 hC => ?_) (fun E9 B9 hC => absurd hC.1 (by simp))
      obtain ⟨hv9, e9⟩ := hC
      cases hv9
      rw [e9]
      refine xx_cst (st2 := [.int 0, .ref b]) (by rw [hin2]; rfl) ?_
      refine xx_if_ne (tgt := 43) dX9_step_36 (by decide) (fun h => absurd rfl h) (fun j36 => ?_)
      refine xx_iconst (v := 3) dX9_step_39 (by decide) ?_
      refine xx_goto (tgt := 44) dX9_step_40 (by decide) ?_
      refine xx_put xx_c9 dX9_step_44 wf_X9_84 (j := 0) (by decide) rfl rfl rfl hb (Nat.le_of_ble_eq_true rfl) (xx_gu fun Eq1 zq1 hbq1 oq1 => ?_)
      have hbq1 : Eq1.2 b = xx_o 9 (xx_mf b (.int 3) (.int (nI m)) (.int (nI n)) (.int (nI lb)) (.int (nI st)) hl en tu) := hbq1
      refine xx_aload_n dX9_step_47 rfl ?_
      refine xx_get xx_c9 dX9_step_48 wf_X9_84 (j := 0) (by decide) hbq1 rfl ?_
      refine xx_if_le (tgt := 58) dX9_step_51 (by decide) (fun h => absurd h (by decide)) (fun j51 => ?_)
      refine xx_iconst (v := 0) dX9_step_54 (by decide) ?_
      refine xx_goto (tgt := 91) dX9_step_55 (by decide) ?_
      exact xx_iret dX9_step_91 rfl ⟨zq1, oq1, Or.inr (Or.inr ⟨⟨k, hk, rfl⟩, hy, rfl, hbq1⟩)⟩
  · have hin1 : xx_inn x 0 (nI (st - 1)) = 0 := xx_inn0 (by omega) (by rw [show st - 1 + 1 = st by omega]; exact hx)
    refine xx_clv (lv2 := [(0, .ref b), (1, .int x), (2, .int y)]) rfl ?_
    refine xx_aload_n dX9_step_0 rfl ?_
    refine xx_aload_n dX9_step_1 rfl ?_
    refine xx_get xx_c9 dX9_step_2 wf_X9_32 (j := 10) (by decide) hb rfl ?_
    refine xx_if_ge (tgt := 12) dX9_step_5 (by decide) (fun j5 => ?_) (fun h => absurd ((nI_leI (a := 0) (b := lb) (by decide) (by omega)).mpr (Nat.zero_le _)) h)
    refine xx_iload_n dX9_step_12 rfl ?_
    refine xx_iconst (v := 0) dX9_step_13 (by decide) ?_
    refine xx_aload_n dX9_step_14 rfl ?_
    refine xx_get xx_c9 dX9_step_15 wf_X9_129 (j := 11) (by decide) hb rfl ?_
    refine xx_iconst (v := 1) dX9_step_18 (by decide) ?_
    refine xx_isub dX9_step_19 ?_
    refine xx_eqi (y := nI (st - 1)) (pk_sub (a := st) (b := 1) (by omega)) ?_
    refine xx_callS (N := mX9_in) (vs := [.int x, .int 0, .int (nI (st - 1))]) (rest := [.ref b]) (d2 := 0) (c2 := 0) (s2 := 0) (c3 := 0) (s3 := 0) dX9_step_20 wm_X9_116 ws_X9_in wz_X9 (by decide) nX9_in ⟨pX9_in, Nat.le_of_ble_eq_true rfl, by decide, Nat.le_of_ble_eq_true rfl, by decide, by decide⟩ c_X9_in (fun v9 B9 hC => ?_) (fun E9 B9 hC => absurd hC.1 (by simp))
    obtain ⟨hv9, e9⟩ := hC
    cases hv9
    rw [e9]
    refine xx_cst (st2 := [.int 0, .ref b]) (by rw [hin1]; rfl) ?_
    refine xx_if_ne (tgt := 30) dX9_step_23 (by decide) (fun h => absurd rfl h) (fun j23 => ?_)
    refine xx_iconst (v := 2) dX9_step_26 (by decide) ?_
    refine xx_goto (tgt := 44) dX9_step_27 (by decide) ?_
    refine xx_put xx_c9 dX9_step_44 wf_X9_84 (j := 0) (by decide) rfl rfl rfl hb (Nat.le_of_ble_eq_true rfl) (xx_gu fun Eq1 zq1 hbq1 oq1 => ?_)
    have hbq1 : Eq1.2 b = xx_o 9 (xx_mf b (.int 2) (.int (nI m)) (.int (nI n)) (.int (nI lb)) (.int (nI st)) hl en tu) := hbq1
    refine xx_aload_n dX9_step_47 rfl ?_
    refine xx_get xx_c9 dX9_step_48 wf_X9_84 (j := 0) (by decide) hbq1 rfl ?_
    refine xx_if_le (tgt := 58) dX9_step_51 (by decide) (fun h => absurd h (by decide)) (fun j51 => ?_)
    refine xx_iconst (v := 0) dX9_step_54 (by decide) ?_
    refine xx_goto (tgt := 91) dX9_step_55 (by decide) ?_
    exact xx_iret dX9_step_91 rfl ⟨zq1, oq1, Or.inr (Or.inl ⟨hx, rfl, hbq1⟩)⟩
theorem yy_up12 {f : Nat → Int32} {p r a : Nat} {ta : Nat → Nat → Nat} (hr : r < 6) (h : ∀ q, q < 2 → ∀ k, k < 6 → f (6 * q + k) = nI (ta q k)) : ∀ q, q < 2 → ∀ k, k < 6 → upd f (6 * p + r) (nI a) (6 * q + k) = nI ((fun q => if q = p then yy_u2 (ta q) r a else ta q) q k) := by
  intro q hq k hk
  show _ = nI ((if q = p then yy_u2 (ta q) r a else ta q) k)
  by_cases z : q = p
  · subst z
    rw [if_pos rfl]
    unfold yy_u2
    by_cases y : k = r
    · subst y; rw [if_pos rfl, pk_us]
    · rw [if_neg y, pk_un (by omega)]; exact h q hq k hk
  · rw [if_neg z, pk_un (by omega)]; exact h q hq k hk
set_option maxRecDepth 100000 in
theorem c_X9_weight {G : xx_G} {l : Launch} {A : xx_H} {b : Nat} {th hr st hl en tu : Value} {m n : Nat} {ta tb : Nat → Nat → Nat} {xp xr xa xd : Int32} (hb : A.2 b = xx_o 9 (xx_mf b th (.int (nI m)) (.int (nI n)) hr st hl en tu)) (hm1 : 1 ≤ m) (hm : m ≤ 6) (hn1 : 1 ≤ n) (hn : n ≤ 6) (H : xx_rtl A b m n ta tb) : xx_X G l mX9_weight 2 0 0 0 (lv_args 0 [.ref b, .int xp, .int xr, .int xa, .int xd]) [] A (fun z B => z = .inl none ∧ B.1 = A.1 ∧ (((yy_hp m n xp xr ∧ yy_ii xa 0 999 ∧ yy_ii xd 1 999) ∧ (∃ p r a d, p < 2 ∧ r < yy_cn m n p ∧ a ≤ 999 ∧ 1 ≤ d ∧ d ≤ 999 ∧ xp = nI p ∧ xr = nI r ∧ xa = nI a ∧ xd = nI d ∧ xx_rtl B b m n (fun q => if q = p then yy_u2 (ta q) r a else ta q) (fun q => if q = p then yy_u2 (tb q) r d else tb q)) ∧ B.2 b = xx_o 9 (xx_mf b (.int 0) (.int (nI m)) (.int (nI n)) hr st hl en tu) ∧ ∀ q, q ≠ b → q ≠ b + 6 → q ≠ b + 7 → B.2 q = A.2 q) ∨ (¬ (yy_hp m n xp xr ∧ yy_ii xa 0 999 ∧ yy_ii xd 1 999) ∧ B.2 b = xx_o 9 (xx_mf b (.int 2) (.int (nI m)) (.int (nI n)) hr st hl en tu) ∧ ∀ q, q ≠ b → B.2 q = A.2 q))) := by
  obtain ⟨⟨fa, ta1, ta2⟩, ⟨fb, tb1, tb2⟩⟩ := id H
  by_cases ia : yy_ii xa 0 999
  · have hin1 : xx_inn xa 0 999 = 1 := xx_ii1 ia
    by_cases id9 : yy_ii xd 1 999
    · have hin2 : xx_inn xd 1 999 = 1 := xx_ii1 id9
      refine xx_clv (lv2 := [(0, .ref b), (1, .int xp), (2, .int xr), (3, .int xa), (4, .int xd)]) rfl ?_
      refine xx_aload_n dX9_weight_0 rfl ?_
      refine xx_aload_n dX9_weight_1 rfl ?_
      refine xx_get xx_c9 dX9_weight_2 wf_X9_120 (j := 4) (by decide) hb rfl ?_
      refine xx_if_ne (tgt := 12) dX9_weight_5 (by decide) (fun j5 => ?_) (fun h => absurd h (nI_ne0 (n := m) (by omega) (by omega)))
      refine xx_aload_n dX9_weight_12 rfl ?_
      refine xx_iload_n dX9_weight_13 rfl ?_
      refine xx_iload_n dX9_weight_14 rfl ?_
      refine xx_callV (N := mX9_hasPlayer) (vs := [.int xp, .int xr]) (b := b) (rest := [.ref b]) (d2 := 1) (c2 := 0) (s2 := 0) (c3 := 0) (s3 := 0) dX9_weight_15 wm_X9_176 wi_X9_hasPlayer wv_X9_hasPlayer (k := 9) rfl (by decide) hb nX9_hasPlayer ⟨pX9_hasPlayer, Nat.le_of_ble_eq_true rfl, by decide, Nat.le_of_ble_eq_true rfl, by decide, by decide⟩ (c_X9_hasPlayer hb hm1 hm hn1 hn) (fun v9 B9 hC => ?_) (fun E9 B9 hC => by obtain ⟨_, ⟨_, h⟩ | ⟨_, h⟩⟩ := hC <;> cases h)
      obtain ⟨e9, ⟨hq9, hv9⟩ | ⟨hq9, hv9⟩⟩ := hC
      · cases hv9
        rw [e9]
        refine xx_cst (st2 := [.int 1, .ref b]) rfl ?_
        refine xx_if_eq (tgt := 44) dX9_weight_18 (by decide) (fun h => absurd h (by decide)) (fun j18 => ?_)
        refine xx_iload_n dX9_weight_21 rfl ?_
        refine xx_iconst (v := 0) dX9_weight_22 (by decide) ?_
        refine xx_sipush (v := 999) dX9_weight_23 (by decide) ?_
        refine xx_callS (N := mX9_in) (vs := [.int xa, .int 0, .int 999]) (rest := [.ref b]) (d2 := 0) (c2 := 0) (s2 := 0) (c3 := 0) (s3 := 0) dX9_weight_26 wm_X9_116 ws_X9_in wz_X9 (by decide) nX9_in ⟨pX9_in, Nat.le_of_ble_eq_true rfl, by decide, Nat.le_of_ble_eq_true rfl, by decide, by decide⟩ c_X9_in (fun v9 B9 hC => ?_) (fun E9 B9 hC => absurd hC.1 (by simp))
        obtain ⟨hv9, e9⟩ := hC
        cases hv9
        rw [e9]
        refine xx_cst (st2 := [.int 1, .ref b]) (by rw [hin1]; rfl) ?_
        refine xx_if_eq (tgt := 44) dX9_weight_29 (by decide) (fun h => absurd h (by decide)) (fun j29 => ?_)
        refine xx_iload dX9_weight_32 rfl ?_
        refine xx_iconst (v := 1) dX9_weight_34 (by decide) ?_
        refine xx_sipush (v := 999) dX9_weight_35 (by decide) ?_
        refine xx_callS (N := mX9_in) (vs := [.int xd, .int 1, .int 999]) (rest := [.ref b]) (d2 := 0) (c2 := 0) (s2 := 0) (c3 := 0) (s3 := 0) dX9_weight_38 wm_X9_116 ws_X9_in wz_X9 (by decide) nX9_in ⟨pX9_in, Nat.le_of_ble_eq_true rfl, by decide, Nat.le_of_ble_eq_true rfl, by decide, by decide⟩ c_X9_in (fun v9 B9 hC => ?_) (fun E9 B9 hC => absurd hC.1 (by simp))
        obtain ⟨hv9, e9⟩ := hC
        cases hv9
        rw [e9]
        refine xx_cst (st2 := [.int 1, .ref b]) (by rw [hin2]; rfl) ?_
        refine xx_if_ne (tgt := 48) dX9_weight_41 (by decide) (fun j41 => ?_) (fun h => absurd h (by decide))
        refine xx_iconst (v := 0) dX9_weight_48 (by decide) ?_
        refine xx_put xx_c9 dX9_weight_49 wf_X9_84 (j := 0) (by decide) rfl rfl rfl hb (Nat.le_of_ble_eq_true rfl) (xx_gu fun Eq1 zq1 hbq1 oq1 => ?_)
        have hbq1 : Eq1.2 b = xx_o 9 (xx_mf b (.int 0) (.int (nI m)) (.int (nI n)) hr st hl en tu) := hbq1
        obtain ⟨p, hp, ep, ⟨r, hr, er⟩⟩ := id hq9
        obtain ⟨a, _, ha, ea⟩ := yy_ii_n (lo := 0) (hi := 999) (by decide) (by decide) ia
        obtain ⟨d, hd1, hd, ed⟩ := yy_ii_n (lo := 1) (hi := 999) (by decide) (by decide) id9
        subst ep
        subst er
        subst ea
        subst ed
        refine xx_clv (lv2 := [(0, .ref b), (1, .int (nI p)), (2, .int (nI r)), (3, .int (nI a)), (4, .int (nI d))]) rfl ?_
        have c6 := yy_cn6 (p := p) hm hn
        refine xx_aload_n dX9_weight_52 rfl ?_
        refine xx_get xx_c9 dX9_weight_53 wf_X9_84 (j := 0) (by decide) hbq1 rfl ?_
        refine xx_if_ne (tgt := 84) dX9_weight_56 (by decide) (fun h => absurd rfl h) (fun j56 => ?_)
        refine xx_aload_n dX9_weight_59 rfl ?_
        refine xx_get xx_c9 dX9_weight_60 wf_X9_26 (j := 8) (by decide) hbq1 rfl ?_
        refine xx_bipush (v := 6) dX9_weight_63 (by decide) ?_
        refine xx_iload_n dX9_weight_65 rfl ?_
        refine xx_imul dX9_weight_66 ?_
        refine xx_eqi (y := nI (6 * p)) (pk_mul 6 p) ?_
        refine xx_iload_n dX9_weight_67 rfl ?_
        refine xx_iadd dX9_weight_68 ?_
        refine xx_eqi (y := nI (6 * p + r)) (nI_add (6 * p) r) ?_
        refine xx_iload_n dX9_weight_69 rfl ?_
        refine xx_iast dX9_weight_70 ((oq1 (b + 6) (by omega)).trans ta1) (vp_in_nI (by omega) (by decide)) (xx_gu fun Eq2 zq2 hq2 oq2 => ?_)
        rw [nI_clamp (by omega)] at hq2
        have hbq2 := (oq2 b (by omega)).trans hbq1
        refine xx_aload_n dX9_weight_71 rfl ?_
        refine xx_get xx_c9 dX9_weight_72 wf_X9_29 (j := 9) (by decide) hbq2 rfl ?_
        refine xx_bipush (v := 6) dX9_weight_75 (by decide) ?_
        refine xx_iload_n dX9_weight_77 rfl ?_
        refine xx_imul dX9_weight_78 ?_
        refine xx_eqi (y := nI (6 * p)) (pk_mul 6 p) ?_
        refine xx_iload_n dX9_weight_79 rfl ?_
        refine xx_iadd dX9_weight_80 ?_
        refine xx_eqi (y := nI (6 * p + r)) (nI_add (6 * p) r) ?_
        refine xx_iload dX9_weight_81 rfl ?_
        refine xx_iast dX9_weight_83 ((oq2 (b + 7) (by omega)).trans ((oq1 (b + 7) (by omega)).trans tb1)) (vp_in_nI (by omega) (by decide)) (xx_gu fun Eq3 zq3 hq3 oq3 => ?_)
        rw [nI_clamp (by omega)] at hq3
        exact xx_vret dX9_weight_84 rfl ⟨rfl, by omega, Or.inl ⟨⟨hq9, ia, id9⟩, ⟨p, r, a, d, hp, hr, ha, hd1, hd, rfl, rfl, rfl, rfl, ⟨_, (oq3 _ (by omega)).trans hq2, yy_up12 (by omega) ta2⟩, ⟨_, hq3, yy_up12 (by omega) tb2⟩⟩, (oq3 b (by omega)).trans hbq2, fun q a0 a1 a2 => (oq3 q a2).trans ((oq2 q a1).trans (oq1 q a0))⟩⟩
      · cases hv9
        rw [e9]
        refine xx_cst (st2 := [.int 0, .ref b]) rfl ?_
        refine xx_if_eq (tgt := 44) dX9_weight_18 (by decide) (fun j18 => ?_) (fun h => absurd (by decide) h)
        refine xx_iconst (v := 2) dX9_weight_44 (by decide) ?_
        refine xx_goto (tgt := 49) dX9_weight_45 (by decide) ?_
        refine xx_put xx_c9 dX9_weight_49 wf_X9_84 (j := 0) (by decide) rfl rfl rfl hb (Nat.le_of_ble_eq_true rfl) (xx_gu fun Eq1 zq1 hbq1 oq1 => ?_)
        have hbq1 : Eq1.2 b = xx_o 9 (xx_mf b (.int 2) (.int (nI m)) (.int (nI n)) hr st hl en tu) := hbq1
        refine xx_aload_n dX9_weight_52 rfl ?_
        refine xx_get xx_c9 dX9_weight_53 wf_X9_84 (j := 0) (by decide) hbq1 rfl ?_
        refine xx_if_ne (tgt := 84) dX9_weight_56 (by decide) (fun j56 => ?_) (fun h => absurd h (by decide))
        exact xx_vret dX9_weight_84 rfl ⟨rfl, zq1, Or.inr ⟨fun h => hq9 h.1, hbq1, oq1⟩⟩
    · have hin2 : xx_inn xd 1 999 = 0 := xx_ii0 id9
      refine xx_clv (lv2 := [(0, .ref b), (1, .int xp), (2, .int xr), (3, .int xa), (4, .int xd)]) rfl ?_
      refine xx_aload_n dX9_weight_0 rfl ?_
      refine xx_aload_n dX9_weight_1 rfl ?_
      refine xx_get xx_c9 dX9_weight_2 wf_X9_120 (j := 4) (by decide) hb rfl ?_
      refine xx_if_ne (tgt := 12) dX9_weight_5 (by decide) (fun j5 => ?_) (fun h => absurd h (nI_ne0 (n := m) (by omega) (by omega)))
      refine xx_aload_n dX9_weight_12 rfl ?_
      refine xx_iload_n dX9_weight_13 rfl ?_
      refine xx_iload_n dX9_weight_14 rfl ?_
      refine xx_callV (N := mX9_hasPlayer) (vs := [.int xp, .int xr]) (b := b) (rest := [.ref b]) (d2 := 1) (c2 := 0) (s2 := 0) (c3 := 0) (s3 := 0) dX9_weight_15 wm_X9_176 wi_X9_hasPlayer wv_X9_hasPlayer (k := 9) rfl (by decide) hb nX9_hasPlayer ⟨pX9_hasPlayer, Nat.le_of_ble_eq_true rfl, by decide, Nat.le_of_ble_eq_true rfl, by decide, by decide⟩ (c_X9_hasPlayer hb hm1 hm hn1 hn) (fun v9 B9 hC => ?_) (fun E9 B9 hC => by obtain ⟨_, ⟨_, h⟩ | ⟨_, h⟩⟩ := hC <;> cases h)
      obtain ⟨e9, ⟨hq9, hv9⟩ | ⟨hq9, hv9⟩⟩ := hC
      · cases hv9
        rw [e9]
        refine xx_cst (st2 := [.int 1, .ref b]) rfl ?_
        refine xx_if_eq (tgt := 44) dX9_weight_18 (by decide) (fun h => absurd h (by decide)) (fun j18 => ?_)
        refine xx_iload_n dX9_weight_21 rfl ?_
        refine xx_iconst (v := 0) dX9_weight_22 (by decide) ?_
        refine xx_sipush (v := 999) dX9_weight_23 (by decide) ?_
        refine xx_callS (N := mX9_in) (vs := [.int xa, .int 0, .int 999]) (rest := [.ref b]) (d2 := 0) (c2 := 0) (s2 := 0) (c3 := 0) (s3 := 0) dX9_weight_26 wm_X9_116 ws_X9_in wz_X9 (by decide) nX9_in ⟨pX9_in, Nat.le_of_ble_eq_true rfl, by decide, Nat.le_of_ble_eq_true rfl, by decide, by decide⟩ c_X9_in (fun v9 B9 hC => ?_) (fun E9 B9 hC => absurd hC.1 (by simp))
        obtain ⟨hv9, e9⟩ := hC
        cases hv9
        rw [e9]
        refine xx_cst (st2 := [.int 1, .ref b]) (by rw [hin1]; rfl) ?_
        refine xx_if_eq (tgt := 44) dX9_weight_29 (by decide) (fun h => absurd h (by decide)) (fun j29 => ?_)
        refine xx_iload dX9_weight_32 rfl ?_
        refine xx_iconst (v := 1) dX9_weight_34 (by decide) ?_
        refine xx_sipush (v := 999) dX9_weight_35 (by decide) ?_
        refine xx_callS (N := mX9_in) (vs := [.int xd, .int 1, .int 999]) (rest := [.ref b]) (d2 := 0) (c2 := 0) (s2 := 0) (c3 := 0) (s3 := 0) dX9_weight_38 wm_X9_116 ws_X9_in wz_X9 (by decide) nX9_in ⟨pX9_in, Nat.le_of_ble_eq_true rfl, by decide, Nat.le_of_ble_eq_true rfl, by decide, by decide⟩ c_X9_in (fun v9 B9 hC => ?_) (fun E9 B9 hC => absurd hC.1 (by simp))
        obtain ⟨hv9, e9⟩ := hC
        cases hv9
        rw [e9]
        refine xx_cst (st2 := [.int 0, .ref b]) (by rw [hin2]; rfl) ?_
        refine xx_if_ne (tgt := 48) dX9_weight_41 (by decide) (fun h => absurd rfl h) (fun j41 => ?_)
        refine xx_iconst (v := 2) dX9_weight_44 (by decide) ?_
        refine xx_goto (tgt := 49) dX9_weight_45 (by decide) ?_
        refine xx_put xx_c9 dX9_weight_49 wf_X9_84 (j := 0) (by decide) rfl rfl rfl hb (Nat.le_of_ble_eq_true rfl) (xx_gu fun Eq1 zq1 hbq1 oq1 => ?_)
        have hbq1 : Eq1.2 b = xx_o 9 (xx_mf b (.int 2) (.int (nI m)) (.int (nI n)) hr st hl en tu) := hbq1
        refine xx_aload_n dX9_weight_52 rfl ?_
        refine xx_get xx_c9 dX9_weight_53 wf_X9_84 (j := 0) (by decide) hbq1 rfl ?_
        refine xx_if_ne (tgt := 84) dX9_weight_56 (by decide) (fun j56 => ?_) (fun h => absurd h (by decide))
        exact xx_vret dX9_weight_84 rfl ⟨rfl, zq1, Or.inr ⟨fun h => id9 h.2.2, hbq1, oq1⟩⟩
      · cases hv9
        rw [e9]
        refine xx_cst (st2 := [.int 0, .ref b]) rfl ?_
        refine xx_if_eq (tgt := 44) dX9_weight_18 (by decide) (fun j18 => ?_) (fun h => absurd (by decide) h)
        refine xx_iconst (v := 2) dX9_weight_44 (by decide) ?_
        refine xx_goto (tgt := 49) dX9_weight_45 (by decide) ?_
        refine xx_put xx_c9 dX9_weight_49 wf_X9_84 (j := 0) (by decide) rfl rfl rfl hb (Nat.le_of_ble_eq_true rfl) (xx_gu fun Eq1 zq1 hbq1 oq1 => ?_)
        have hbq1 : Eq1.2 b = xx_o 9 (xx_mf b (.int 2) (.int (nI m)) (.int (nI n)) hr st hl en tu) := hbq1
        refine xx_aload_n dX9_weight_52 rfl ?_
        refine xx_get xx_c9 dX9_weight_53 wf_X9_84 (j := 0) (by decide) hbq1 rfl ?_
        refine xx_if_ne (tgt := 84) dX9_weight_56 (by decide) (fun j56 => ?_) (fun h => absurd h (by decide))
        exact xx_vret dX9_weight_84 rfl ⟨rfl, zq1, Or.inr ⟨fun h => hq9 h.1, hbq1, oq1⟩⟩
  · have hin1 : xx_inn xa 0 999 = 0 := xx_ii0 ia
    refine xx_clv (lv2 := [(0, .ref b), (1, .int xp), (2, .int xr), (3, .int xa), (4, .int xd)]) rfl ?_
    refine xx_aload_n dX9_weight_0 rfl ?_
    refine xx_aload_n dX9_weight_1 rfl ?_
    refine xx_get xx_c9 dX9_weight_2 wf_X9_120 (j := 4) (by decide) hb rfl ?_
    refine xx_if_ne (tgt := 12) dX9_weight_5 (by decide) (fun j5 => ?_) (fun h => absurd h (nI_ne0 (n := m) (by omega) (by omega)))
    refine xx_aload_n dX9_weight_12 rfl ?_
    refine xx_iload_n dX9_weight_13 rfl ?_
    refine xx_iload_n dX9_weight_14 rfl ?_
    refine xx_callV (N := mX9_hasPlayer) (vs := [.int xp, .int xr]) (b := b) (rest := [.ref b]) (d2 := 1) (c2 := 0) (s2 := 0) (c3 := 0) (s3 := 0) dX9_weight_15 wm_X9_176 wi_X9_hasPlayer wv_X9_hasPlayer (k := 9) rfl (by decide) hb nX9_hasPlayer ⟨pX9_hasPlayer, Nat.le_of_ble_eq_true rfl, by decide, Nat.le_of_ble_eq_true rfl, by decide, by decide⟩ (c_X9_hasPlayer hb hm1 hm hn1 hn) (fun v9 B9 hC => ?_) (fun E9 B9 hC => by obtain ⟨_, ⟨_, h⟩ | ⟨_, h⟩⟩ := hC <;> cases h)
    obtain ⟨e9, ⟨hq9, hv9⟩ | ⟨hq9, hv9⟩⟩ := hC
    · cases hv9
      rw [e9]
      refine xx_cst (st2 := [.int 1, .ref b]) rfl ?_
      refine xx_if_eq (tgt := 44) dX9_weight_18 (by decide) (fun h => absurd h (by decide)) (fun j18 => ?_)
      refine xx_iload_n dX9_weight_21 rfl ?_
      refine xx_iconst (v := 0) dX9_weight_22 (by decide) ?_
      refine xx_sipush (v := 999) dX9_weight_23 (by decide) ?_
      refine xx_callS (N := mX9_in) (vs := [.int xa, .int 0, .int 999]) (rest := [.ref b]) (d2 := 0) (c2 := 0) (s2 := 0) (c3 := 0) (s3 := 0) dX9_weight_26 wm_X9_116 ws_X9_in wz_X9 (by decide) nX9_in ⟨pX9_in, Nat.le_of_ble_eq_true rfl, by decide, Nat.le_of_ble_eq_true rfl, by decide, by decide⟩ c_X9_in (fun v9 B9 hC => ?_) (fun E9 B9 hC => absurd hC.1 (by simp))
      obtain ⟨hv9, e9⟩ := hC
      cases hv9
      rw [e9]
      refine xx_cst (st2 := [.int 0, .ref b]) (by rw [hin1]; rfl) ?_
      refine xx_if_eq (tgt := 44) dX9_weight_29 (by decide) (fun j29 => ?_) (fun h => absurd (by decide) h)
      refine xx_iconst (v := 2) dX9_weight_44 (by decide) ?_
      refine xx_goto (tgt := 49) dX9_weight_45 (by decide) ?_
      refine xx_put xx_c9 dX9_weight_49 wf_X9_84 (j := 0) (by decide) rfl rfl rfl hb (Nat.le_of_ble_eq_true rfl) (xx_gu fun Eq1 zq1 hbq1 oq1 => ?_)
      have hbq1 : Eq1.2 b = xx_o 9 (xx_mf b (.int 2) (.int (nI m)) (.int (nI n)) hr st hl en tu) := hbq1
      refine xx_aload_n dX9_weight_52 rfl ?_
      refine xx_get xx_c9 dX9_weight_53 wf_X9_84 (j := 0) (by decide) hbq1 rfl ?_
      refine xx_if_ne (tgt := 84) dX9_weight_56 (by decide) (fun j56 => ?_) (fun h => absurd h (by decide))
      exact xx_vret dX9_weight_84 rfl ⟨rfl, zq1, Or.inr ⟨fun h => ia h.2.1, hbq1, oq1⟩⟩
    · cases hv9
      rw [e9]
      refine xx_cst (st2 := [.int 0, .ref b]) rfl ?_
      refine xx_if_eq (tgt := 44) dX9_weight_18 (by decide) (fun j18 => ?_) (fun h => absurd (by decide) h)
      refine xx_iconst (v := 2) dX9_weight_44 (by decide) ?_
      refine xx_goto (tgt := 49) dX9_weight_45 (by decide) ?_
      refine xx_put xx_c9 dX9_weight_49 wf_X9_84 (j := 0) (by decide) rfl rfl rfl hb (Nat.le_of_ble_eq_true rfl) (xx_gu fun Eq1 zq1 hbq1 oq1 => ?_)
      have hbq1 : Eq1.2 b = xx_o 9 (xx_mf b (.int 2) (.int (nI m)) (.int (nI n)) hr st hl en tu) := hbq1
      refine xx_aload_n dX9_weight_52 rfl ?_
      refine xx_get xx_c9 dX9_weight_53 wf_X9_84 (j := 0) (by decide) hbq1 rfl ?_
      refine xx_if_ne (tgt := 84) dX9_weight_56 (by decide) (fun j56 => ?_) (fun h => absurd h (by decide))
      exact xx_vret dX9_weight_84 rfl ⟨rfl, zq1, Or.inr ⟨fun h => hq9 h.1, hbq1, oq1⟩⟩
set_option maxRecDepth 100000 in
theorem c_X9_isThere {G : xx_G} {l : Launch} {A : xx_H} {b : Nat} {th hr st hl en tu : Value} {m n : Nat} {th9 : Nat → Nat} {xp xr : Int32} (hb : A.2 b = xx_o 9 (xx_mf b th (.int (nI m)) (.int (nI n)) hr st hl en tu)) (hm1 : 1 ≤ m) (hm : m ≤ 6) (hn1 : 1 ≤ n) (hn : n ≤ 6) (H : ∃ f, A.2 (b + 13) = xx_z 12 f ∧ ∀ p, p < 2 → ∀ k, k < yy_cn m n p → f (6 * p + k) = if Nat.testBit (th9 p) k then 1 else 0) : xx_X G l mX9_isThere 2 0 0 0 (lv_args 0 [.ref b, .int xp, .int xr]) [] A (fun z B => B.1 = A.1 ∧ (∀ q, q ≠ b → B.2 q = A.2 q) ∧ (((∃ p r, p < 2 ∧ r < yy_cn m n p ∧ xp = nI p ∧ xr = nI r ∧ z = .inl (some (.int (if Nat.testBit (th9 p) r then 1 else 0)))) ∧ B.2 b = xx_o 9 (xx_mf b (.int 0) (.int (nI m)) (.int (nI n)) hr st hl en tu)) ∨ (¬ yy_hp m n xp xr ∧ z = .inl (some (.int 0)) ∧ B.2 b = xx_o 9 (xx_mf b (.int 2) (.int (nI m)) (.int (nI n)) hr st hl en tu)))) := by
  obtain ⟨f, f1, f2⟩ := H
  refine xx_clv (lv2 := [(0, .ref b), (1, .int xp), (2, .int xr)]) rfl ?_
  refine xx_aload_n dX9_isThere_0 rfl ?_
  refine xx_aload_n dX9_isThere_1 rfl ?_
  refine xx_get xx_c9 dX9_isThere_2 wf_X9_120 (j := 4) (by decide) hb rfl ?_
  refine xx_if_ne (tgt := 12) dX9_isThere_5 (by decide) (fun j5 => ?_) (fun h => absurd h (nI_ne0 (n := m) (by omega) (by omega)))
  refine xx_aload_n dX9_isThere_12 rfl ?_
  refine xx_iload_n dX9_isThere_13 rfl ?_
  refine xx_iload_n dX9_isThere_14 rfl ?_
  refine xx_callV (N := mX9_hasPlayer) (vs := [.int xp, .int xr]) (b := b) (rest := [.ref b]) (d2 := 1) (c2 := 0) (s2 := 0) (c3 := 0) (s3 := 0) dX9_isThere_15 wm_X9_176 wi_X9_hasPlayer wv_X9_hasPlayer (k := 9) rfl (by decide) hb nX9_hasPlayer ⟨pX9_hasPlayer, Nat.le_of_ble_eq_true rfl, by decide, Nat.le_of_ble_eq_true rfl, by decide, by decide⟩ (c_X9_hasPlayer hb hm1 hm hn1 hn) (fun v9 B9 hC => ?_) (fun E9 B9 hC => by obtain ⟨_, ⟨_, h⟩ | ⟨_, h⟩⟩ := hC <;> cases h)
  obtain ⟨e9, ⟨hq9, hv9⟩ | ⟨hq9, hv9⟩⟩ := hC
  · cases hv9
    rw [e9]
    refine xx_cst (st2 := [.int 1, .ref b]) rfl ?_
    refine xx_if_ne (tgt := 25) dX9_isThere_18 (by decide) (fun j18 => ?_) (fun h => absurd h (by decide))
    refine xx_iconst (v := 0) dX9_isThere_25 (by decide) ?_
    refine xx_put xx_c9 dX9_isThere_26 wf_X9_84 (j := 0) (by decide) rfl rfl rfl hb (Nat.le_of_ble_eq_true rfl) (xx_gu fun Eq1 zq1 hbq1 oq1 => ?_)
    have hbq1 : Eq1.2 b = xx_o 9 (xx_mf b (.int 0) (.int (nI m)) (.int (nI n)) hr st hl en tu) := hbq1
    obtain ⟨p, hp, ep, ⟨r, hr, er⟩⟩ := id hq9
    subst ep
    subst er
    refine xx_clv (lv2 := [(0, .ref b), (1, .int (nI p)), (2, .int (nI r))]) rfl ?_
    have c6 := yy_cn6 (p := p) hm hn
    refine xx_aload_n dX9_isThere_29 rfl ?_
    refine xx_get xx_c9 dX9_isThere_30 wf_X9_84 (j := 0) (by decide) hbq1 rfl ?_
    refine xx_if_ne (tgt := 54) dX9_isThere_33 (by decide) (fun h => absurd rfl h) (fun j33 => ?_)
    refine xx_aload_n dX9_isThere_36 rfl ?_
    refine xx_get xx_c9 dX9_isThere_37 wf_X9_51 (j := 19) (by decide) hbq1 rfl ?_
    refine xx_bipush (v := 6) dX9_isThere_40 (by decide) ?_
    refine xx_iload_n dX9_isThere_42 rfl ?_
    refine xx_imul dX9_isThere_43 ?_
    refine xx_eqi (y := nI (6 * p)) (pk_mul 6 p) ?_
    refine xx_iload_n dX9_isThere_44 rfl ?_
    refine xx_iadd dX9_isThere_45 ?_
    refine xx_eqi (y := nI (6 * p + r)) (nI_add (6 * p) r) ?_
    refine xx_zald dX9_isThere_46 ((oq1 (b + 13) (by omega)).trans f1) (vp_in_nI (by omega) (by decide)) ?_
    refine xx_eqi (y := if Nat.testBit (th9 p) r then 1 else 0) (by rw [nI_clamp (by omega)]; exact f2 p hp r hr) ?_
    refine xx_if_eq (tgt := 54) dX9_isThere_47 (by decide) (fun j47 => ?_) (fun j47 => ?_)
    · refine xx_iconst (v := 0) dX9_isThere_54 (by decide) ?_
      exact xx_zret dX9_isThere_55 rfl rfl ⟨zq1, oq1, Or.inl ⟨⟨p, r, hp, hr, rfl, rfl, by rw [if_neg (fun h => absurd (j47.symm.trans (if_pos h)) (by decide))]⟩, hbq1⟩⟩
    · refine xx_iconst (v := 1) dX9_isThere_50 (by decide) ?_
      refine xx_goto (tgt := 55) dX9_isThere_51 (by decide) ?_
      exact xx_zret dX9_isThere_55 rfl rfl ⟨zq1, oq1, Or.inl ⟨⟨p, r, hp, hr, rfl, rfl, by rw [if_pos (Classical.byContradiction (fun h => j47 (if_neg h)))]⟩, hbq1⟩⟩
  · cases hv9
    rw [e9]
    refine xx_cst (st2 := [.int 0, .ref b]) rfl ?_
    refine xx_if_ne (tgt := 25) dX9_isThere_18 (by decide) (fun h => absurd rfl h) (fun j18 => ?_)
    refine xx_iconst (v := 2) dX9_isThere_21 (by decide) ?_
    refine xx_goto (tgt := 26) dX9_isThere_22 (by decide) ?_
    refine xx_put xx_c9 dX9_isThere_26 wf_X9_84 (j := 0) (by decide) rfl rfl rfl hb (Nat.le_of_ble_eq_true rfl) (xx_gu fun Eq1 zq1 hbq1 oq1 => ?_)
    have hbq1 : Eq1.2 b = xx_o 9 (xx_mf b (.int 2) (.int (nI m)) (.int (nI n)) hr st hl en tu) := hbq1
    refine xx_aload_n dX9_isThere_29 rfl ?_
    refine xx_get xx_c9 dX9_isThere_30 wf_X9_84 (j := 0) (by decide) hbq1 rfl ?_
    refine xx_if_ne (tgt := 54) dX9_isThere_33 (by decide) (fun j33 => ?_) (fun h => absurd h (by decide))
    refine xx_iconst (v := 0) dX9_isThere_54 (by decide) ?_
    exact xx_zret dX9_isThere_55 rfl rfl ⟨zq1, oq1, Or.inr ⟨hq9, rfl, hbq1⟩⟩
