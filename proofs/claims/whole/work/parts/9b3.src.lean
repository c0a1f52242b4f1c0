/-! ===== sources ===== -/
/-- is there such a source -/
def ys_ok (ta tb : Nat → Nat → Nat) (st ec : Nat) (li : Bool) (x : Int32) : Prop := (x = -2 ∧ ∀ p, p < 2 → yp_t (ta p) (tb p) 6 = yp_d (tb p) 6) ∨ (x = -1 ∧ 0 < st) ∨ (li = true ∧ ∃ e, e < ec ∧ x = nI e)
theorem ys_lo {x : Int32} (h : ¬ -2 ≤ x) : x ≠ -2 ∧ x ≠ -1 ∧ x < 0 := by
  refine ⟨fun e => h (by rw [e]; decide), fun e => h (by rw [e]; decide), ?_⟩
  rw [Int32.le_iff_toInt_le] at h
  rw [Int32.lt_iff_toInt_lt]
  have e1 : (-2 : Int32).toInt = -2 := by decide
  have e0 : (0 : Int32).toInt = 0 := by decide
  omega
theorem ys_hi {x : Int32} (h : -2 ≤ x) (h2 : x ≠ -2) (h1 : x ≠ -1) : ¬ x < 0 := by
  intro z
  rw [Int32.le_iff_toInt_le] at h
  rw [Int32.lt_iff_toInt_lt] at z
  have e1 : (-2 : Int32).toInt = -2 := by decide
  have e0 : (0 : Int32).toInt = 0 := by decide
  have h3 : x.toInt ≠ -2 := fun e => h2 (Int32.toInt_inj.mp (e.trans e1.symm))
  have h4 : x.toInt ≠ -1 := fun e => h1 (Int32.toInt_inj.mp (e.trans (show (-1 : Int32).toInt = -1 by decide).symm))
  omega
theorem ys_ng (e : Nat) (he : e < 2 ^ 31) : nI e ≠ -2 ∧ nI e ≠ -1 := by
  have h := nI_pos he
  exact ⟨fun z => h (by rw [z]; decide), fun z => h (by rw [z]; decide)⟩
/-- both Told -/
def xx_tls (B : xx_H) (b : Nat) (ta tb : Nat → Nat → Nat) : Prop := (∃ h, B.2 (b + 11) = xx_r 16 2 h ∧ ∀ p, p < 2 → h p = some (b + 12 + 3 * p)) ∧ ∀ p, p < 2 → xx_tdl B (b + 12 + 3 * p) (ta p) (tb p)
theorem xx_tls.to {B C : xx_H} {b : Nat} {ta tb : Nat → Nat → Nat} (h : xx_tls B b ta tb) (hq : ∀ q, b + 11 ≤ q → q < b + 18 → C.2 q = B.2 q) : xx_tls C b ta tb := by
  obtain ⟨⟨h1, a1, a2⟩, a3⟩ := h
  exact ⟨⟨h1, (hq _ (by omega) (by omega)).trans a1, a2⟩, fun p hp => (a3 p hp).to (fun q a b => hq q (by omega) (by omega))⟩
/-- what the class works with -/
def xx_wk (B : xx_H) (b : Nat) (X : Nat → Nat → Int) (t V : Nat → Int) (o u w : Int) : Prop := (∃ h, B.2 (b + 233) = xx_r 17 2 h ∧ ∀ p, p < 2 → h p = some (b + 234 + 16 * p)) ∧ (∀ p, p < 2 → xx_wt B (b + 234 + 16 * p) (X p) (t p)) ∧ (∃ h, B.2 (b + 266) = xx_r 10 6 h ∧ ∀ k, k < 6 → h k = some (b + 267 + 2 * k)) ∧ (∀ k, k < 6 → xx_bg B (b + 267 + 2 * k) (V k)) ∧ (∃ v, xx_bg B (b + 279) v) ∧ xx_bg B (b + 281) o ∧ xx_fq B (b + 283) u w ∧ ∃ c, xx_dw B (b + 288) c
theorem xx_wk.to {B C : xx_H} {b : Nat} {X : Nat → Nat → Int} {t V : Nat → Int} {o u w : Int} (h : xx_wk B b X t V o u w) (hq : ∀ q, b + 233 ≤ q → q < b + 297 → C.2 q = B.2 q) : xx_wk C b X t V o u w := by
  obtain ⟨⟨h1, a1, a2⟩, a3, ⟨h2, a4, a5⟩, a6, ⟨v, a7⟩, a8, a9, ⟨c, a10⟩⟩ := h
  exact ⟨⟨h1, (hq _ (by omega) (by omega)).trans a1, a2⟩, fun p hp => (a3 p hp).to (fun q a b => hq q (by omega) (by omega)), ⟨h2, (hq _ (by omega) (by omega)).trans a4, a5⟩, fun k hk => (a6 k hk).to (hq _ (by omega) (by omega)) (hq _ (by omega) (by omega)), ⟨v, a7.to (hq _ (by omega) (by omega)) (hq _ (by omega) (by omega))⟩, a8.to (hq _ (by omega) (by omega)) (hq _ (by omega) (by omega)), a9.to (fun q a b => hq q (by omega) (by omega)), ⟨c, a10.to (fun q a b => hq q (by omega) (by omega))⟩⟩
/-- both strategies are laid anew -/
theorem xx_wk.str {B C : xx_H} {b : Nat} {X Y : Nat → Nat → Int} {t t2 V : Nat → Int} {o u w : Int} (h : xx_wk B b X t V o u w) (h0 : xx_wt C (b + 234) (Y 0) (t2 0)) (h1 : xx_wt C (b + 250) (Y 1) (t2 1)) (hq : ∀ q, (q < b + 234 ∨ b + 266 ≤ q) → q < b + 297 → C.2 q = B.2 q) : xx_wk C b Y t2 V o u w := by
  obtain ⟨⟨h2, a1, a2⟩, a3, ⟨h3, a4, a5⟩, a6, ⟨v, a7⟩, a8, a9, ⟨c, a10⟩⟩ := h
  refine ⟨⟨h2, (hq _ (by omega) (by omega)).trans a1, a2⟩, fun p hp => ?_, ⟨h3, (hq _ (by omega) (by omega)).trans a4, a5⟩, fun k hk => (a6 k hk).to (hq _ (by omega) (by omega)) (hq _ (by omega) (by omega)), ⟨v, a7.to (hq _ (by omega) (by omega)) (hq _ (by omega) (by omega))⟩, a8.to (hq _ (by omega) (by omega)) (hq _ (by omega) (by omega)), a9.to (fun q a b => hq q (by omega) (by omega)), ⟨c, a10.to (fun q a b => hq q (by omega) (by omega))⟩⟩
  rcases (show p = 0 ∨ p = 1 by omega) with z | z
  · rw [z]; exact h0
  · rw [z]; exact h1
theorem yb_60 {ta tb : Nat → Nat} (h : ∀ k, k < 6 → ta k ≤ 999 ∧ 1 ≤ tb k ∧ tb k ≤ 999) {k : Nat} (hk : k < 6) : ((yp_s ta tb k : Nat) : Int).natAbs < 2 ^ 400 := by
  rw [Int.natAbs_natCast]
  exact Nat.lt_trans (yp_s_b hk h) (by decide +kernel)
set_option maxRecDepth 100000 in
theorem c_X8_isSource {G : xx_G} {l : Launch} {A : xx_H} {b m n : Nat} {u7 u8 : Value} {fc : Nat → Int32} {ta tb : Nat → Nat → Nat} {st ec : Nat} {li : Bool} {x : Int32} (hb : A.2 b = xx_o 8 [.ref (b + 1), .ref (b + 2), .ref (b + 11), .ref (b + 18), .ref (b + 19), .ref (b + 226), .int (nI st), u7, u8, .ref (b + 230), .int (nI ec), .int (if li then 1 else 0), .ref (b + 233), .ref (b + 266), .ref (b + 279), .ref (b + 281), .ref (b + 283), .ref (b + 288)]) (hc : A.2 (b + 1) = xx_i 2 fc) (hc2 : ∀ p, p < 2 → fc p = nI (yy_cn m n p)) (hm1 : 1 ≤ m) (hm : m ≤ 6) (H : xx_tls A b ta tb) (hst : st < 2 ^ 31) (hec : ec < 2 ^ 31) : xx_X G l mX8_isSource 3 0 0 0 (lv_args 0 [.ref b, .int x]) [] A (fun z B => B = A ∧ ((ys_ok ta tb st ec li x ∧ z = .inl (some (.int 1))) ∨ (¬ ys_ok ta tb st ec li x ∧ z = .inl (some (.int 0))))) := by
  obtain ⟨⟨ha, a1, a2⟩, a3⟩ := id H
  obtain ⟨c0, _⟩ := id (a3 0 (by decide))
  obtain ⟨c1, _⟩ := id (a3 1 (by decide))
  have e1 : ∀ e, e < ec → x = nI e → ¬ x < 0 := fun e he z => by rw [z]; exact nI_pos (by omega)
  refine xx_clv (lv2 := [(0, .ref b), (1, .int x)]) rfl ?_
  refine xx_aload_n dX8_isSource_0 rfl ?_
  refine xx_get xx_c8 dX8_isSource_1 wf_X8_7 (j := 0) (by decide) hb rfl ?_
  refine xx_iconst (v := 0) dX8_isSource_4 (by decide) ?_
  refine xx_iald dX8_isSource_5 hc (by unfold vp_in; decide) ?_
  refine xx_eqi (y := nI m) (hc2 0 (by decide)) ?_
  refine xx_if_eq (tgt := 15) dX8_isSource_6 (by decide) (fun h => absurd h (nI_ne0 (n := m) (by omega) (by omega))) (fun j6 => ?_)
  refine xx_iload_n dX8_isSource_9 rfl ?_
  refine xx_bipush (v := (-2)) dX8_isSource_10 (by decide) ?_
  refine xx_icmp_ge (tgt := 17) dX8_isSource_12 (by decide) (fun j12 => ?_) (fun j12 => ?_)
  · refine xx_iload_n dX8_isSource_17 rfl ?_
    refine xx_bipush (v := (-2)) dX8_isSource_18 (by decide) ?_
    refine xx_icmp_ne (tgt := 53) dX8_isSource_20 (by decide) (fun j20 => ?_) (fun j20 => ?_)
    · refine xx_iload_n dX8_isSource_53 rfl ?_
      refine xx_iconst (v := (-1)) dX8_isSource_54 (by decide) ?_
      refine xx_icmp_ne (tgt := 71) dX8_isSource_55 (by decide) (fun j55 => ?_) (fun j55 => ?_)
      · refine xx_aload_n dX8_isSource_71 rfl ?_
        refine xx_get xx_c8 dX8_isSource_72 wf_X8_59 (j := 11) (by decide) hb rfl ?_
        refine xx_if_eq (tgt := 90) dX8_isSource_75 (by decide) (fun j75 => ?_) (fun j75 => ?_)
        · refine xx_iconst (v := 0) dX8_isSource_90 (by decide) ?_
          have p9 := ys_hi j12 j20 j55
          refine xx_zret dX8_isSource_91 rfl rfl ⟨rfl, Or.inr ⟨?_, rfl⟩⟩
          rintro (⟨z1, z2⟩ | ⟨z1, z2⟩ | ⟨z1, z3, z4, z2⟩)
          · exact j20 z1
          · exact j55 z1
          · rw [if_pos z1] at j75; exact absurd j75 (by decide)
        · refine xx_iload_n dX8_isSource_78 rfl ?_
          refine xx_aload_n dX8_isSource_79 rfl ?_
          refine xx_get xx_c8 dX8_isSource_80 wf_X8_56 (j := 10) (by decide) hb rfl ?_
          refine xx_icmp_ge (tgt := 90) dX8_isSource_83 (by decide) (fun j83 => ?_) (fun j83 => ?_)
          · refine xx_iconst (v := 0) dX8_isSource_90 (by decide) ?_
            have p9 := ys_hi j12 j20 j55
            obtain ⟨e, he, ee⟩ := nI_of p9
            refine xx_zret dX8_isSource_91 rfl rfl ⟨rfl, Or.inr ⟨?_, rfl⟩⟩
            rintro (⟨z1, z2⟩ | ⟨z1, z2⟩ | ⟨z1, z3, z4, z2⟩)
            · exact j20 z1
            · exact j55 z1
            · rw [z2] at j83; exact nI_ge z4 (by omega) j83
          · refine xx_iconst (v := 1) dX8_isSource_86 (by decide) ?_
            refine xx_goto (tgt := 91) dX8_isSource_87 (by decide) ?_
            have p9 := ys_hi j12 j20 j55
            obtain ⟨e, he, ee⟩ := nI_of p9
            exact xx_zret dX8_isSource_91 rfl rfl ⟨rfl, Or.inl ⟨Or.inr (Or.inr ⟨Classical.byContradiction (fun z => j75 (if_neg z)), e, (nI_ltI he hec).mp (by rw [← ee]; exact Int32.not_le.mp j83), ee⟩), rfl⟩⟩
      · refine xx_aload_n dX8_isSource_58 rfl ?_
        refine xx_get xx_c8 dX8_isSource_59 wf_X8_42 (j := 6) (by decide) hb rfl ?_
        refine xx_if_le (tgt := 69) dX8_isSource_62 (by decide) (fun j62 => ?_) (fun j62 => ?_)
        · have j62 : st ≤ 0 := (nI_leI (a := st) (b := 0) (by omega) (by omega)).mp j62
          refine xx_iconst (v := 0) dX8_isSource_69 (by decide) ?_
          refine xx_zret dX8_isSource_70 rfl rfl ⟨rfl, Or.inr ⟨?_, rfl⟩⟩
          rintro (⟨z1, z2⟩ | ⟨z1, z2⟩ | ⟨z1, z3, z4, z2⟩)
          · exact j20 z1
          · omega
          · exact e1 _ z4 z2 (by rw [j55]; decide)
        · have j62 : ¬ st ≤ 0 := fun hq9 => j62 ((nI_leI (a := st) (b := 0) (by omega) (by omega)).mpr hq9)
          refine xx_iconst (v := 1) dX8_isSource_65 (by decide) ?_
          refine xx_goto (tgt := 70) dX8_isSource_66 (by decide) ?_
          exact xx_zret dX8_isSource_70 rfl rfl ⟨rfl, Or.inl ⟨Or.inr (Or.inl ⟨j55, by omega⟩), rfl⟩⟩
    · refine xx_aload_n dX8_isSource_23 rfl ?_
      refine xx_get xx_c8 dX8_isSource_24 wf_X8_23 (j := 2) (by decide) hb rfl ?_
      refine xx_iconst (v := 0) dX8_isSource_27 (by decide) ?_
      refine xx_aald (kd := 16) (b := b + 12) dX8_isSource_28 (by decide) rfl a1 (by unfold vp_in; decide) (a2 0 (by decide)) ?_
      refine xx_callV (N := mX6_isOne) (vs := []) (b := (b + 12)) (rest := []) (d2 := 2) (c2 := 0) (s2 := 0) (c3 := 0) (s3 := 0) dX8_isSource_29 wm_X8_270 wi_X6_isOne wv_X6_isOne (k := 6) rfl (by decide) c0 nX6_isOne ⟨pX6_isOne, Nat.le_of_ble_eq_true rfl, by decide, Nat.le_of_ble_eq_true rfl, by decide, by decide⟩ (c_X6_isOne (a3 0 (by decide))) (fun v9 B9 hC => ?_) (fun E9 B9 hC => absurd hC.1 (by simp))
      obtain ⟨hv9, e9⟩ := hC
      cases hv9
      refine xx_cst (st2 := [.int (if yp_t (ta 0) (tb 0) 6 = yp_d (tb 0) 6 then 1 else 0)]) rfl ?_
      rw [e9]
      refine xx_if_eq (tgt := 51) dX8_isSource_32 (by decide) (fun j32 => ?_) (fun j32 => ?_)
      · refine xx_iconst (v := 0) dX8_isSource_51 (by decide) ?_
        refine xx_zret dX8_isSource_52 rfl rfl ⟨rfl, Or.inr ⟨?_, rfl⟩⟩
        rintro (⟨z1, z2⟩ | ⟨z1, z2⟩ | ⟨z1, z3, z4, z2⟩)
        · have := z2 0 (by decide); rw [if_pos this] at j32; exact absurd j32 (by decide)
        · rw [j20] at z1; exact absurd z1 (by decide)
        · exact e1 _ z4 z2 (by rw [j20]; decide)
      · refine xx_aload_n dX8_isSource_35 rfl ?_
        refine xx_get xx_c8 dX8_isSource_36 wf_X8_23 (j := 2) (by decide) hb rfl ?_
        refine xx_iconst (v := 1) dX8_isSource_39 (by decide) ?_
        refine xx_aald (kd := 16) (b := b + 15) dX8_isSource_40 (by decide) rfl a1 (by unfold vp_in; decide) (a2 1 (by decide)) ?_
        refine xx_callV (N := mX6_isOne) (vs := []) (b := (b + 15)) (rest := []) (d2 := 2) (c2 := 0) (s2 := 0) (c3 := 0) (s3 := 0) dX8_isSource_41 wm_X8_270 wi_X6_isOne wv_X6_isOne (k := 6) rfl (by decide) c1 nX6_isOne ⟨pX6_isOne, Nat.le_of_ble_eq_true rfl, by decide, Nat.le_of_ble_eq_true rfl, by decide, by decide⟩ (c_X6_isOne (a3 1 (by decide))) (fun v9 B9 hC => ?_) (fun E9 B9 hC => absurd hC.1 (by simp))
        obtain ⟨hv9, e9⟩ := hC
        cases hv9
        refine xx_cst (st2 := [.int (if yp_t (ta 1) (tb 1) 6 = yp_d (tb 1) 6 then 1 else 0)]) rfl ?_
        rw [e9]
        refine xx_if_eq (tgt := 51) dX8_isSource_44 (by decide) (fun j44 => ?_) (fun j44 => ?_)
        · refine xx_iconst (v := 0) dX8_isSource_51 (by decide) ?_
          refine xx_zret dX8_isSource_52 rfl rfl ⟨rfl, Or.inr ⟨?_, rfl⟩⟩
          rintro (⟨z1, z2⟩ | ⟨z1, z2⟩ | ⟨z1, z3, z4, z2⟩)
          · have := z2 1 (by decide); rw [if_pos this] at j44; exact absurd j44 (by decide)
          · rw [j20] at z1; exact absurd z1 (by decide)
          · exact e1 _ z4 z2 (by rw [j20]; decide)
        · refine xx_iconst (v := 1) dX8_isSource_47 (by decide) ?_
          refine xx_goto (tgt := 52) dX8_isSource_48 (by decide) ?_
          have q0 : yp_t (ta 0) (tb 0) 6 = yp_d (tb 0) 6 := Classical.byContradiction (fun z => j32 (if_neg z))
          have q1 : yp_t (ta 1) (tb 1) 6 = yp_d (tb 1) 6 := Classical.byContradiction (fun z => j44 (if_neg z))
          exact xx_zret dX8_isSource_52 rfl rfl ⟨rfl, Or.inl ⟨Or.inl ⟨j20, fun p hp => by rcases (show p = 0 ∨ p = 1 by omega) with z | z <;> rw [z] <;> assumption⟩, rfl⟩⟩
  · refine xx_iconst (v := 0) dX8_isSource_15 (by decide) ?_
    refine xx_zret dX8_isSource_16 rfl rfl ⟨rfl, Or.inr ⟨?_, rfl⟩⟩
    rintro (⟨z1, z2⟩ | ⟨z1, z2⟩ | ⟨z1, z3, z4, z2⟩)
    · exact (ys_lo j12).1 z1
    · exact (ys_lo j12).2.1 z1
    · exact e1 _ z4 z2 (ys_lo j12).2.2
set_option maxRecDepth 100000 in
theorem c_X8_needSource {G : xx_G} {l : Launch} {A : xx_H} {b m n : Nat} {u7 u8 : Value} {fc : Nat → Int32} {ta tb : Nat → Nat → Nat} {st ec : Nat} {li : Bool} {x : Int32} (hb : A.2 b = xx_o 8 [.ref (b + 1), .ref (b + 2), .ref (b + 11), .ref (b + 18), .ref (b + 19), .ref (b + 226), .int (nI st), u7, u8, .ref (b + 230), .int (nI ec), .int (if li then 1 else 0), .ref (b + 233), .ref (b + 266), .ref (b + 279), .ref (b + 281), .ref (b + 283), .ref (b + 288)]) (hc : A.2 (b + 1) = xx_i 2 fc) (hc2 : ∀ p, p < 2 → fc p = nI (yy_cn m n p)) (hm1 : 1 ≤ m) (hm : m ≤ 6) (H : xx_tls A b ta tb) (hst : st < 2 ^ 31) (hec : ec < 2 ^ 31) : xx_X G l mX8_needSource 7 1 6 0 (lv_args 0 [.ref b, .int x]) [] A (xx_oe (ys_ok ta tb st ec li x) R_ise A) := by
  refine xx_clv (lv2 := [(0, .ref b), (1, .int x)]) rfl ?_
  refine xx_aload_n dX8_needSource_0 rfl ?_
  refine xx_iload_n dX8_needSource_1 rfl ?_
  refine xx_callV (N := mX8_isSource) (vs := [.int x]) (b := b) (rest := []) (d2 := 3) (c2 := 0) (s2 := 0) (c3 := 1) (s3 := 6) dX8_needSource_2 wm_X8_264 wi_X8_isSource wv_X8_isSource (k := 8) rfl (by decide) hb nX8_isSource ⟨pX8_isSource, Nat.le_of_ble_eq_true rfl, by decide, Nat.le_of_ble_eq_true rfl, by decide, by decide⟩ (c_X8_isSource hb hc hc2 hm1 hm H hst hec) (fun v9 B9 hC => ?_) (fun E9 B9 hC => by obtain ⟨_, ⟨_, h⟩ | ⟨_, h⟩⟩ := hC <;> cases h)
  obtain ⟨e9, ⟨g9, hv9⟩ | ⟨g9, hv9⟩⟩ := hC
  · cases hv9
    rw [e9]
    refine xx_cst (st2 := [.int 1]) rfl ?_
    refine xx_if_ne (tgt := 19) dX8_needSource_5 (by decide) (fun j5 => ?_) (fun h => absurd h (by decide))
    exact xx_vret dX8_needSource_19 rfl (Or.inl ⟨g9, rfl, rfl⟩)
  · cases hv9
    rw [e9]
    refine xx_cst (st2 := [.int 0]) rfl ?_
    refine xx_if_ne (tgt := 19) dX8_needSource_5 (by decide) (fun h => absurd rfl h) (fun j5 => ?_)
    exact xx_throwSW xx_thw_ise (List.mem_of_getElem? (i := 10) rfl) rfl dX8_needSource_8 dX8_needSource_11 dX8_needSource_12 dX8_needSource_15 dX8_needSource_18 (by decide) (by decide) (fun n9 hn9 => Or.inr ⟨g9, rfl, hn9, rfl⟩)
set_option maxRecDepth 100000 in
theorem c_X8_load_t {G : xx_G} {l : Launch} {A : xx_H} {b m n : Nat} {u6 u7 u8 u10 u11 : Value} {X : Nat → Nat → Int} {t V : Nat → Int} {o u w : Int} {ta tb : Nat → Nat → Nat} (hb : A.2 b = xx_o 8 [.ref (b + 1), .ref (b + 2), .ref (b + 11), .ref (b + 18), .ref (b + 19), .ref (b + 226), u6, u7, u8, .ref (b + 230), u10, u11, .ref (b + 233), .ref (b + 266), .ref (b + 279), .ref (b + 281), .ref (b + 283), .ref (b + 288)]) (H : xx_tls A b ta tb) (hk : xx_wk A b X t V o u w) : xx_X G l mX8_load 5 0 0 0 (lv_args 0 [.ref b, .int (-2)]) [] A (fun z B => z = .inl none ∧ B.1 = A.1 ∧ xx_wk B b (fun p k => (yp_s (ta p) (tb p) k : Int)) (fun p => yd_s 6 (fun k => (yp_s (ta p) (tb p) k : Int))) V o u w ∧ ∀ q, (q < b + 234 ∨ b + 266 ≤ q) → B.2 q = A.2 q) := by
  obtain ⟨⟨hs, k1, k2⟩, k3, _⟩ := id hk
  obtain ⟨⟨ht, t1, t2⟩, t3⟩ := id H
  refine xx_clv (lv2 := [(0, .ref b), (1, .int (-2))]) rfl ?_
  refine xx_iconst (v := 0) dX8_load_0 (by decide) ?_
  refine xx_istore_n dX8_load_1 (by decide) ?_
  refine xx_clv (lv2 := [(0, .ref b), (1, .int (-2)), (2, .int 0)]) rfl ?_
  refine xx_iload_n dX8_load_2 rfl ?_
  refine xx_iconst (v := 2) dX8_load_3 (by decide) ?_
  refine xx_icmp_ge (tgt := 132) dX8_load_4 (by decide) (fun h => absurd h (by decide)) (fun j4 => ?_)
  refine xx_aload_n dX8_load_7 rfl ?_
  refine xx_get xx_c8 dX8_load_8 wf_X8_66 (j := 12) (by decide) hb rfl ?_
  refine xx_iload_n dX8_load_11 rfl ?_
  refine xx_aald (kd := 17) (b := b + 234) dX8_load_12 (by decide) rfl k1 (by unfold vp_in; decide) (k2 0 (by decide)) ?_
  refine xx_astore_n dX8_load_13 (by decide) ?_
  refine xx_clv (lv2 := [(0, .ref b), (1, .int (-2)), (2, .int 0), (3, .ref (b + 234))]) rfl ?_
  refine xx_aload_n dX8_load_14 rfl ?_
  have w1 : xx_wt A (b + 234) (X 0) (t 0) := (k3 0 (by decide))
  refine xx_callV (N := mX7_clear) (vs := []) (b := (b + 234)) (rest := []) (d2 := 2) (c2 := 0) (s2 := 0) (c3 := 0) (s3 := 0) dX8_load_15 wm_X8_292 wi_X7_clear wv_X7_clear (k := 7) rfl (by decide) w1.1 nX7_clear ⟨pX7_clear, Nat.le_of_ble_eq_true rfl, by decide, Nat.le_of_ble_eq_true rfl, by decide, by decide⟩ (c_X7_clear w1) (fun v9 E1 hC => ?_) (fun E9 B9 hC => absurd hC.1 (by simp))
  obtain ⟨hv9, z1, v1, fr1⟩ := hC
  cases hv9
  refine xx_cst (st2 := []) rfl ?_
  have hb1 := ((fr1 _ (by omega)).trans hb)
  refine xx_iload_n dX8_load_18 rfl ?_
  refine xx_bipush (v := (-2)) dX8_load_19 (by decide) ?_
  refine xx_icmp_ne (tgt := 37) dX8_load_21 (by decide) (fun h => absurd rfl h) (fun j21 => ?_)
  refine xx_aload_n dX8_load_24 rfl ?_
  refine xx_get xx_c8 dX8_load_25 wf_X8_23 (j := 2) (by decide) hb1 rfl ?_
  refine xx_iload_n dX8_load_28 rfl ?_
  refine xx_aald (kd := 16) (b := b + 12) dX8_load_29 (by decide) rfl ((fr1 _ (by omega)).trans t1) (by unfold vp_in; decide) (t2 0 (by decide)) ?_
  refine xx_aload_n dX8_load_30 rfl ?_
  have l2 := ((t3 0 (by decide)).to (fun q9 a9 b9 => fr1 q9 (by omega)))
  refine xx_callV (N := mX6_read) (vs := [.ref (b + 234)]) (b := (b + 12)) (rest := []) (d2 := 2) (c2 := 0) (s2 := 0) (c3 := 0) (s3 := 0) dX8_load_31 wm_X8_293 wi_X6_read wv_X6_read (k := 6) rfl (by decide) l2.1 nX6_read ⟨pX6_read, Nat.le_of_ble_eq_true rfl, by decide, Nat.le_of_ble_eq_true rfl, by decide, by decide⟩ (c_X6_read l2 v1 (by omega)) (fun v9 E2 hC => ?_) (fun E9 B9 hC => absurd hC.1 (by simp))
  obtain ⟨hv9, z2, v2, fr2⟩ := hC
  cases hv9
  refine xx_cst (st2 := []) rfl ?_
  have hb2 := (((fr2 _ (by omega)).trans (fr1 _ (by omega))).trans hb)
  refine xx_goto (tgt := 122) dX8_load_34 (by decide) ?_
  refine xx_aload_n dX8_load_122 rfl ?_
  refine xx_callV (N := mX7_sumUp) (vs := []) (b := (b + 234)) (rest := []) (d2 := 4) (c2 := 0) (s2 := 0) (c3 := 0) (s3 := 0) dX8_load_123 wm_X8_301 wi_X7_sumUp wv_X7_sumUp (k := 7) rfl (by decide) v2.1 nX7_sumUp ⟨pX7_sumUp, Nat.le_of_ble_eq_true rfl, by decide, Nat.le_of_ble_eq_true rfl, by decide, by decide⟩ (c_X7_sumUp v2 (fun k hk => yb_60 (t3 0 (by decide)).2.2.2 hk)) (fun v9 E3 hC => ?_) (fun E9 B9 hC => absurd hC.1 (by simp))
  obtain ⟨hv9, z3, v3, fr3⟩ := hC
  cases hv9
  refine xx_cst (st2 := []) rfl ?_
  have hb3 := (((fr3 _ (by omega)).trans ((fr2 _ (by omega)).trans (fr1 _ (by omega)))).trans hb)
  refine xx_iinc (v := 1) dX8_load_126 rfl (by decide) (by decide) ?_
  refine xx_clv (lv2 := [(0, .ref b), (1, .int (-2)), (2, .int 1), (3, .ref (b + 234))]) rfl ?_
  refine xx_goto (tgt := 2) dX8_load_129 (by decide) ?_
  refine xx_iload_n dX8_load_2 rfl ?_
  refine xx_iconst (v := 2) dX8_load_3 (by decide) ?_
  refine xx_icmp_ge (tgt := 132) dX8_load_4 (by decide) (fun h => absurd h (by decide)) (fun j4 => ?_)
  refine xx_aload_n dX8_load_7 rfl ?_
  refine xx_get xx_c8 dX8_load_8 wf_X8_66 (j := 12) (by decide) hb3 rfl ?_
  refine xx_iload_n dX8_load_11 rfl ?_
  refine xx_aald (kd := 17) (b := b + 250) dX8_load_12 (by decide) rfl (((fr3 _ (by omega)).trans ((fr2 _ (by omega)).trans (fr1 _ (by omega)))).trans k1) (by unfold vp_in; decide) (k2 1 (by decide)) ?_
  refine xx_astore_n dX8_load_13 (by decide) ?_
  refine xx_clv (lv2 := [(0, .ref b), (1, .int (-2)), (2, .int 1), (3, .ref (b + 250))]) rfl ?_
  refine xx_aload_n dX8_load_14 rfl ?_
  have w4 : xx_wt E3 (b + 250) (X 1) (t 1) := ((k3 1 (by decide)).to (fun q9 a9 b9 => (fr3 q9 (by omega)).trans ((fr2 q9 (by omega)).trans (fr1 q9 (by omega)))))
  refine xx_callV (N := mX7_clear) (vs := []) (b := (b + 250)) (rest := []) (d2 := 2) (c2 := 0) (s2 := 0) (c3 := 0) (s3 := 0) dX8_load_15 wm_X8_292 wi_X7_clear wv_X7_clear (k := 7) rfl (by decide) w4.1 nX7_clear ⟨pX7_clear, Nat.le_of_ble_eq_true rfl, by decide, Nat.le_of_ble_eq_true rfl, by decide, by decide⟩ (c_X7_clear w4) (fun v9 E4 hC => ?_) (fun E9 B9 hC => absurd hC.1 (by simp))
  obtain ⟨hv9, z4, v4, fr4⟩ := hC
  cases hv9
  refine xx_cst (st2 := []) rfl ?_
  have hb4 := (((fr4 _ (by omega)).trans ((fr3 _ (by omega)).trans ((fr2 _ (by omega)).trans (fr1 _ (by omega))))).trans hb)
  refine xx_iload_n dX8_load_18 rfl ?_
  refine xx_bipush (v := (-2)) dX8_load_19 (by decide) ?_
  refine xx_icmp_ne (tgt := 37) dX8_load_21 (by decide) (fun h => absurd rfl h) (fun j21 => ?_)
  refine xx_aload_n dX8_load_24 rfl ?_
  refine xx_get xx_c8 dX8_load_25 wf_X8_23 (j := 2) (by decide) hb4 rfl ?_
  refine xx_iload_n dX8_load_28 rfl ?_
  refine xx_aald (kd := 16) (b := b + 15) dX8_load_29 (by decide) rfl (((fr4 _ (by omega)).trans ((fr3 _ (by omega)).trans ((fr2 _ (by omega)).trans (fr1 _ (by omega))))).trans t1) (by unfold vp_in; decide) (t2 1 (by decide)) ?_
  refine xx_aload_n dX8_load_30 rfl ?_
  have l5 := ((t3 1 (by decide)).to (fun q9 a9 b9 => (fr4 q9 (by omega)).trans ((fr3 q9 (by omega)).trans ((fr2 q9 (by omega)).trans (fr1 q9 (by omega))))))
  refine xx_callV (N := mX6_read) (vs := [.ref (b + 250)]) (b := (b + 15)) (rest := []) (d2 := 2) (c2 := 0) (s2 := 0) (c3 := 0) (s3 := 0) dX8_load_31 wm_X8_293 wi_X6_read wv_X6_read (k := 6) rfl (by decide) l5.1 nX6_read ⟨pX6_read, Nat.le_of_ble_eq_true rfl, by decide, Nat.le_of_ble_eq_true rfl, by decide, by decide⟩ (c_X6_read l5 v4 (by omega)) (fun v9 E5 hC => ?_) (fun E9 B9 hC => absurd hC.1 (by simp))
  obtain ⟨hv9, z5, v5, fr5⟩ := hC
  cases hv9
  refine xx_cst (st2 := []) rfl ?_
  have hb5 := (((fr5 _ (by omega)).trans ((fr4 _ (by omega)).trans ((fr3 _ (by omega)).trans ((fr2 _ (by omega)).trans (fr1 _ (by omega)))))).trans hb)
  refine xx_goto (tgt := 122) dX8_load_34 (by decide) ?_
  refine xx_aload_n dX8_load_122 rfl ?_
  refine xx_callV (N := mX7_sumUp) (vs := []) (b := (b + 250)) (rest := []) (d2 := 4) (c2 := 0) (s2 := 0) (c3 := 0) (s3 := 0) dX8_load_123 wm_X8_301 wi_X7_sumUp wv_X7_sumUp (k := 7) rfl (by decide) v5.1 nX7_sumUp ⟨pX7_sumUp, Nat.le_of_ble_eq_true rfl, by decide, Nat.le_of_ble_eq_true rfl, by decide, by decide⟩ (c_X7_sumUp v5 (fun k hk => yb_60 (t3 1 (by decide)).2.2.2 hk)) (fun v9 E6 hC => ?_) (fun E9 B9 hC => absurd hC.1 (by simp))
  obtain ⟨hv9, z6, v6, fr6⟩ := hC
  cases hv9
  refine xx_cst (st2 := []) rfl ?_
  have hb6 := (((fr6 _ (by omega)).trans ((fr5 _ (by omega)).trans ((fr4 _ (by omega)).trans ((fr3 _ (by omega)).trans ((fr2 _ (by omega)).trans (fr1 _ (by omega))))))).trans hb)
  refine xx_iinc (v := 2) dX8_load_126 rfl (by decide) (by decide) ?_
  refine xx_clv (lv2 := [(0, .ref b), (1, .int (-2)), (2, .int 2), (3, .ref (b + 250))]) rfl ?_
  refine xx_goto (tgt := 2) dX8_load_129 (by decide) ?_
  refine xx_iload_n dX8_load_2 rfl ?_
  refine xx_iconst (v := 2) dX8_load_3 (by decide) ?_
  refine xx_icmp_ge (tgt := 132) dX8_load_4 (by decide) (fun j4 => ?_) (fun h => absurd (by decide) h)
  refine xx_vret dX8_load_132 rfl ⟨rfl, by omega, hk.str (v3.to (fun q9 a9 b9 => (fr6 q9 (by omega)).trans ((fr5 q9 (by omega)).trans (fr4 q9 (by omega))))) v6 (fun q9 a9 b9 => (fr6 q9 (by omega)).trans ((fr5 q9 (by omega)).trans ((fr4 q9 (by omega)).trans ((fr3 q9 (by omega)).trans ((fr2 q9 (by omega)).trans (fr1 q9 (by omega))))))), fun q9 a9 => (fr6 q9 (by omega)).trans ((fr5 q9 (by omega)).trans ((fr4 q9 (by omega)).trans ((fr3 q9 (by omega)).trans ((fr2 q9 (by omega)).trans (fr1 q9 (by omega))))))⟩
set_option maxRecDepth 100000 in
theorem c_X8_load_r {G : xx_G} {l : Launch} {A : xx_H} {b m n : Nat} {u6 u7 u8 u10 u11 : Value} {X : Nat → Nat → Int} {t V : Nat → Int} {o u w : Int} {W : Nat → Nat → Nat → Int} {le : Nat → Int} {ht : Nat → Option Nat} {s9 : yq_S} {fc : Nat → Int32} (hb : A.2 b = xx_o 8 [.ref (b + 1), .ref (b + 2), .ref (b + 11), .ref (b + 18), .ref (b + 19), .ref (b + 226), u6, u7, u8, .ref (b + 230), u10, u11, .ref (b + 233), .ref (b + 266), .ref (b + 279), .ref (b + 281), .ref (b + 283), .ref (b + 288)]) (hc : A.2 (b + 1) = xx_i 2 fc) (hc2 : ∀ p, p < 2 → fc p = nI (yy_cn m n p)) (hm : m ≤ 6) (hn : n ≤ 6) (htb : A.2 (b + 19) = xx_r 15 2 ht) (ht2 : ∀ t, t < 2 → ht t = some (yt_t b t)) (hq : ∀ t, t < 2 → xx_tq A (yt_t b t) m n t (yg_a m n W le t) (s9.1 t)) (lf : ∀ t, t < 2 → yq_lf m n (yg_a m n W le) t (s9.1 t)) (bd : ∀ p, p < 2 → ∀ k, k < 6 → (yw_w m n (yg_a m n W le) s9 p k).natAbs < 2 ^ 400) (hk : xx_wk A b X t V o u w) : xx_X G l mX8_load 5 0 0 0 (lv_args 0 [.ref b, .int (-1)]) [] A (fun z B => z = .inl none ∧ B.1 = A.1 ∧ xx_wk B b (yw_w m n (yg_a m n W le) s9) (fun p => yd_s 6 (yw_w m n (yg_a m n W le) s9 p)) V o u w ∧ ∀ q, (q < b + 234 ∨ b + 266 ≤ q) → B.2 q = A.2 q) := by
  obtain ⟨⟨hs, k1, k2⟩, k3, _⟩ := id hk
  refine xx_clv (lv2 := [(0, .ref b), (1, .int (-1))]) rfl ?_
  refine xx_iconst (v := 0) dX8_load_0 (by decide) ?_
  refine xx_istore_n dX8_load_1 (by decide) ?_
  refine xx_clv (lv2 := [(0, .ref b), (1, .int (-1)), (2, .int 0)]) rfl ?_
  refine xx_iload_n dX8_load_2 rfl ?_
  refine xx_iconst (v := 2) dX8_load_3 (by decide) ?_
  refine xx_icmp_ge (tgt := 132) dX8_load_4 (by decide) (fun h => absurd h (by decide)) (fun j4 => ?_)
  refine xx_aload_n dX8_load_7 rfl ?_
  refine xx_get xx_c8 dX8_load_8 wf_X8_66 (j := 12) (by decide) hb rfl ?_
  refine xx_iload_n dX8_load_11 rfl ?_
  refine xx_aald (kd := 17) (b := b + 234) dX8_load_12 (by decide) rfl k1 (by unfold vp_in; decide) (k2 0 (by decide)) ?_
  refine xx_astore_n dX8_load_13 (by decide) ?_
  refine xx_clv (lv2 := [(0, .ref b), (1, .int (-1)), (2, .int 0), (3, .ref (b + 234))]) rfl ?_
  refine xx_aload_n dX8_load_14 rfl ?_
  have w1 : xx_wt A (b + 234) (X 0) (t 0) := (k3 0 (by decide))
  refine xx_callV (N := mX7_clear) (vs := []) (b := (b + 234)) (rest := []) (d2 := 2) (c2 := 0) (s2 := 0) (c3 := 0) (s3 := 0) dX8_load_15 wm_X8_292 wi_X7_clear wv_X7_clear (k := 7) rfl (by decide) w1.1 nX7_clear ⟨pX7_clear, Nat.le_of_ble_eq_true rfl, by decide, Nat.le_of_ble_eq_true rfl, by decide, by decide⟩ (c_X7_clear w1) (fun v9 E1 hC => ?_) (fun E9 B9 hC => absurd hC.1 (by simp))
  obtain ⟨hv9, z1, v1, fr1⟩ := hC
  cases hv9
  refine xx_cst (st2 := []) rfl ?_
  have hb1 := ((fr1 _ (by omega)).trans hb)
  refine xx_iload_n dX8_load_18 rfl ?_
  refine xx_bipush (v := (-2)) dX8_load_19 (by decide) ?_
  refine xx_icmp_ne (tgt := 37) dX8_load_21 (by decide) (fun j21 => ?_) (fun h => absurd h (by decide))
  refine xx_iload_n dX8_load_37 rfl ?_
  refine xx_iconst (v := (-1)) dX8_load_38 (by decide) ?_
  refine xx_icmp_ne (tgt := 75) dX8_load_39 (by decide) (fun h => absurd rfl h) (fun j39 => ?_)
  refine xx_aload_n dX8_load_42 rfl ?_
  refine xx_get xx_c8 dX8_load_43 wf_X8_33 (j := 4) (by decide) hb1 rfl ?_
  refine xx_iload_n dX8_load_46 rfl ?_
  refine xx_aald (kd := 15) (b := b + 20) dX8_load_47 (by decide) rfl ((fr1 _ (by omega)).trans htb) (by unfold vp_in; decide) (ht2 0 (by decide)) ?_
  refine xx_iload_n dX8_load_48 rfl ?_
  refine xx_if_ne (tgt := 56) dX8_load_49 (by decide) (fun h => absurd rfl h) (fun j49 => ?_)
  refine xx_iconst (v := 0) dX8_load_52 (by decide) ?_
  refine xx_goto (tgt := 62) dX8_load_53 (by decide) ?_
  refine xx_aload_n dX8_load_62 rfl ?_
  refine xx_get xx_c8 dX8_load_63 wf_X8_7 (j := 0) (by decide) hb1 rfl ?_
  refine xx_iload_n dX8_load_66 rfl ?_
  refine xx_iald dX8_load_67 ((fr1 _ (by omega)).trans hc) (by unfold vp_in; decide) ?_
  refine xx_eqi (y := nI m) (hc2 0 (by decide)) ?_
  refine xx_aload_n dX8_load_68 rfl ?_
  have lq2 : xx_tq A (b + 20) m n 0 (yg_a m n W le 0) (s9.1 0) := hq 0 (by decide)
  have l2 : xx_tq E1 (b + 20) m n 0 (yg_a m n W le 0) (s9.1 0) := (lq2.to (fun q9 a9 b9 => fr1 q9 (by omega)))
  obtain ⟨_, _, _, _, tb2, _⟩ := id l2
  refine xx_callV (N := mX5_read) (vs := [.int 0, .int (nI m), .ref (b + 234)]) (b := (b + 20)) (rest := []) (d2 := 2) (c2 := 0) (s2 := 0) (c3 := 0) (s3 := 0) dX8_load_69 wm_X8_297 wi_X5_read wv_X5_read (k := 5) rfl (by decide) tb2.1 nX5_read ⟨pX5_read, Nat.le_of_ble_eq_true rfl, by decide, Nat.le_of_ble_eq_true rfl, by decide, by decide⟩ (c_X5_read (p := 0) l2 (by decide) hm hn (yq_inj (lf 0 (by decide))) (by omega) v1 (fun _ _ => rfl) (lf 0 (by decide)).2) (fun v9 E2 hC => ?_) (fun E9 B9 hC => absurd hC.1 (by simp))
  obtain ⟨hv9, z2, v2, fr2⟩ := hC
  cases hv9
  refine xx_cst (st2 := []) rfl ?_
  have hb2 := (((fr2 _ (by omega)).trans (fr1 _ (by omega))).trans hb)
  refine xx_goto (tgt := 122) dX8_load_72 (by decide) ?_
  refine xx_aload_n dX8_load_122 rfl ?_
  refine xx_callV (N := mX7_sumUp) (vs := []) (b := (b + 234)) (rest := []) (d2 := 4) (c2 := 0) (s2 := 0) (c3 := 0) (s3 := 0) dX8_load_123 wm_X8_301 wi_X7_sumUp wv_X7_sumUp (k := 7) rfl (by decide) v2.1 nX7_sumUp ⟨pX7_sumUp, Nat.le_of_ble_eq_true rfl, by decide, Nat.le_of_ble_eq_true rfl, by decide, by decide⟩ (c_X7_sumUp v2 (bd 0 (by decide))) (fun v9 E3 hC => ?_) (fun E9 B9 hC => absurd hC.1 (by simp))
  obtain ⟨hv9, z3, v3, fr3⟩ := hC
  cases hv9
  refine xx_cst (st2 := []) rfl ?_
  have hb3 := (((fr3 _ (by omega)).trans ((fr2 _ (by omega)).trans (fr1 _ (by omega)))).trans hb)
  refine xx_iinc (v := 1) dX8_load_126 rfl (by decide) (by decide) ?_
  refine xx_clv (lv2 := [(0, .ref b), (1, .int (-1)), (2, .int 1), (3, .ref (b + 234))]) rfl ?_
  refine xx_goto (tgt := 2) dX8_load_129 (by decide) ?_
  refine xx_iload_n dX8_load_2 rfl ?_
  refine xx_iconst (v := 2) dX8_load_3 (by decide) ?_
  refine xx_icmp_ge (tgt := 132) dX8_load_4 (by decide) (fun h => absurd h (by decide)) (fun j4 => ?_)
  refine xx_aload_n dX8_load_7 rfl ?_
  refine xx_get xx_c8 dX8_load_8 wf_X8_66 (j := 12) (by decide) hb3 rfl ?_
  refine xx_iload_n dX8_load_11 rfl ?_
  refine xx_aald (kd := 17) (b := b + 250) dX8_load_12 (by decide) rfl (((fr3 _ (by omega)).trans ((fr2 _ (by omega)).trans (fr1 _ (by omega)))).trans k1) (by unfold vp_in; decide) (k2 1 (by decide)) ?_
  refine xx_astore_n dX8_load_13 (by decide) ?_
  refine xx_clv (lv2 := [(0, .ref b), (1, .int (-1)), (2, .int 1), (3, .ref (b + 250))]) rfl ?_
  refine xx_aload_n dX8_load_14 rfl ?_
  have w4 : xx_wt E3 (b + 250) (X 1) (t 1) := ((k3 1 (by decide)).to (fun q9 a9 b9 => (fr3 q9 (by omega)).trans ((fr2 q9 (by omega)).trans (fr1 q9 (by omega)))))
  refine xx_callV (N := mX7_clear) (vs := []) (b := (b + 250)) (rest := []) (d2 := 2) (c2 := 0) (s2 := 0) (c3 := 0) (s3 := 0) dX8_load_15 wm_X8_292 wi_X7_clear wv_X7_clear (k := 7) rfl (by decide) w4.1 nX7_clear ⟨pX7_clear, Nat.le_of_ble_eq_true rfl, by decide, Nat.le_of_ble_eq_true rfl, by decide, by decide⟩ (c_X7_clear w4) (fun v9 E4 hC => ?_) (fun E9 B9 hC => absurd hC.1 (by simp))
  obtain ⟨hv9, z4, v4, fr4⟩ := hC
  cases hv9
  refine xx_cst (st2 := []) rfl ?_
  have hb4 := (((fr4 _ (by omega)).trans ((fr3 _ (by omega)).trans ((fr2 _ (by omega)).trans (fr1 _ (by omega))))).trans hb)
  refine xx_iload_n dX8_load_18 rfl ?_
  refine xx_bipush (v := (-2)) dX8_load_19 (by decide) ?_
  refine xx_icmp_ne (tgt := 37) dX8_load_21 (by decide) (fun j21 => ?_) (fun h => absurd h (by decide))
  refine xx_iload_n dX8_load_37 rfl ?_
  refine xx_iconst (v := (-1)) dX8_load_38 (by decide) ?_
  refine xx_icmp_ne (tgt := 75) dX8_load_39 (by decide) (fun h => absurd rfl h) (fun j39 => ?_)
  refine xx_aload_n dX8_load_42 rfl ?_
  refine xx_get xx_c8 dX8_load_43 wf_X8_33 (j := 4) (by decide) hb4 rfl ?_
  refine xx_iload_n dX8_load_46 rfl ?_
  refine xx_aald (kd := 15) (b := b + 123) dX8_load_47 (by decide) rfl (((fr4 _ (by omega)).trans ((fr3 _ (by omega)).trans ((fr2 _ (by omega)).trans (fr1 _ (by omega))))).trans htb) (by unfold vp_in; decide) (ht2 1 (by decide)) ?_
  refine xx_iload_n dX8_load_48 rfl ?_
  refine xx_if_ne (tgt := 56) dX8_load_49 (by decide) (fun j49 => ?_) (fun h => absurd h (by decide))
  refine xx_aload_n dX8_load_56 rfl ?_
  refine xx_get xx_c8 dX8_load_57 wf_X8_7 (j := 0) (by decide) hb4 rfl ?_
  refine xx_iconst (v := 0) dX8_load_60 (by decide) ?_
  refine xx_iald dX8_load_61 (((fr4 _ (by omega)).trans ((fr3 _ (by omega)).trans ((fr2 _ (by omega)).trans (fr1 _ (by omega))))).trans hc) (by unfold vp_in; decide) ?_
  refine xx_eqi (y := nI m) (hc2 0 (by decide)) ?_
  refine xx_aload_n dX8_load_62 rfl ?_
  refine xx_get xx_c8 dX8_load_63 wf_X8_7 (j := 0) (by decide) hb4 rfl ?_
  refine xx_iload_n dX8_load_66 rfl ?_
  refine xx_iald dX8_load_67 (((fr4 _ (by omega)).trans ((fr3 _ (by omega)).trans ((fr2 _ (by omega)).trans (fr1 _ (by omega))))).trans hc) (by unfold vp_in; decide) ?_
  refine xx_eqi (y := nI n) (hc2 1 (by decide)) ?_
  refine xx_aload_n dX8_load_68 rfl ?_
  have lq5 : xx_tq A (b + 123) m n 1 (yg_a m n W le 1) (s9.1 1) := hq 1 (by decide)
  have l5 : xx_tq E4 (b + 123) m n 1 (yg_a m n W le 1) (s9.1 1) := (lq5.to (fun q9 a9 b9 => (fr4 q9 (by omega)).trans ((fr3 q9 (by omega)).trans ((fr2 q9 (by omega)).trans (fr1 q9 (by omega))))))
  obtain ⟨_, _, _, _, tb5, _⟩ := id l5
  refine xx_callV (N := mX5_read) (vs := [.int (nI m), .int (nI n), .ref (b + 250)]) (b := (b + 123)) (rest := []) (d2 := 2) (c2 := 0) (s2 := 0) (c3 := 0) (s3 := 0) dX8_load_69 wm_X8_297 wi_X5_read wv_X5_read (k := 5) rfl (by decide) tb5.1 nX5_read ⟨pX5_read, Nat.le_of_ble_eq_true rfl, by decide, Nat.le_of_ble_eq_true rfl, by decide, by decide⟩ (c_X5_read (p := 1) l5 (by decide) hm hn (yq_inj (lf 1 (by decide))) (by omega) v4 (fun _ _ => rfl) (lf 1 (by decide)).2) (fun v9 E5 hC => ?_) (fun E9 B9 hC => absurd hC.1 (by simp))
  obtain ⟨hv9, z5, v5, fr5⟩ := hC
  cases hv9
  refine xx_cst (st2 := []) rfl ?_
  have hb5 := (((fr5 _ (by omega)).trans ((fr4 _ (by omega)).trans ((fr3 _ (by omega)).trans ((fr2 _ (by omega)).trans (fr1 _ (by omega)))))).trans hb)
  refine xx_goto (tgt := 122) dX8_load_72 (by decide) ?_
  refine xx_aload_n dX8_load_122 rfl ?_
  refine xx_callV (N := mX7_sumUp) (vs := []) (b := (b + 250)) (rest := []) (d2 := 4) (c2 := 0) (s2 := 0) (c3 := 0) (s3 := 0) dX8_load_123 wm_X8_301 wi_X7_sumUp wv_X7_sumUp (k := 7) rfl (by decide) v5.1 nX7_sumUp ⟨pX7_sumUp, Nat.le_of_ble_eq_true rfl, by decide, Nat.le_of_ble_eq_true rfl, by decide, by decide⟩ (c_X7_sumUp v5 (bd 1 (by decide))) (fun v9 E6 hC => ?_) (fun E9 B9 hC => absurd hC.1 (by simp))
  obtain ⟨hv9, z6, v6, fr6⟩ := hC
  cases hv9
  refine xx_cst (st2 := []) rfl ?_
  have hb6 := (((fr6 _ (by omega)).trans ((fr5 _ (by omega)).trans ((fr4 _ (by omega)).trans ((fr3 _ (by omega)).trans ((fr2 _ (by omega)).trans (fr1 _ (by omega))))))).trans hb)
  refine xx_iinc (v := 2) dX8_load_126 rfl (by decide) (by decide) ?_
  refine xx_clv (lv2 := [(0, .ref b), (1, .int (-1)), (2, .int 2), (3, .ref (b + 250))]) rfl ?_
  refine xx_goto (tgt := 2) dX8_load_129 (by decide) ?_
  refine xx_iload_n dX8_load_2 rfl ?_
  refine xx_iconst (v := 2) dX8_load_3 (by decide) ?_
  refine xx_icmp_ge (tgt := 132) dX8_load_4 (by decide) (fun j4 => ?_) (fun h => absurd (by decide) h)
  refine xx_vret dX8_load_132 rfl ⟨rfl, by omega, hk.str (v3.to (fun q9 a9 b9 => (fr6 q9 (by omega)).trans ((fr5 q9 (by omega)).trans (fr4 q9 (by omega))))) v6 (fun q9 a9 b9 => (fr6 q9 (by omega)).trans ((fr5 q9 (by omega)).trans ((fr4 q9 (by omega)).trans ((fr3 q9 (by omega)).trans ((fr2 q9 (by omega)).trans (fr1 q9 (by omega))))))), fun q9 a9 => (fr6 q9 (by omega)).trans ((fr5 q9 (by omega)).trans ((fr4 q9 (by omega)).trans ((fr3 q9 (by omega)).trans ((fr2 q9 (by omega)).trans (fr1 q9 (by omega))))))⟩
