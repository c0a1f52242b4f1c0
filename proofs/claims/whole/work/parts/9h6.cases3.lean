/-! ===== round, weight, pay, run in a game ===== -/
theorem yt_ok_u {m n p r a d : Nat} {ta tb : Nat → Nat → Nat} (h : yt_ok m n ta tb) (hr : r < yy_cn m n p) (ha : a ≤ 999) (hd : 1 ≤ d) (hd2 : d ≤ 999) : yt_ok m n (fun q => if q = p then yy_u2 (ta q) r a else ta q) (fun q => if q = p then yy_u2 (tb q) r d else tb q) := by
  intro q hq k hk
  obtain ⟨h1, h2, h3, h4⟩ := h q hq k hk
  dsimp only
  by_cases e : q = p
  · rw [if_pos e, if_pos e]
    unfold yy_u2
    by_cases e2 : k = r
    · rw [if_pos e2, if_pos e2]
      exact ⟨ha, hd, hd2, fun h => by rw [e] at h; omega⟩
    · rw [if_neg e2, if_neg e2]; exact ⟨h1, h2, h3, h4⟩
  · rw [if_neg e, if_neg e]; exact ⟨h1, h2, h3, h4⟩
theorem yn_dec (m n : Nat) (W : Nat → Nat → Nat → Int) (le : Nat → Int) : ∃ E : Nat → Nat → Bool, ∀ S U, E S U = true ↔ yn_h m n W le S U := ⟨fun S U => @decide (yn_h m n W le S U) (Classical.propDecidable _), fun S U => @decide_eq_true_iff _ (Classical.propDecidable _)⟩
def yr_all (m n p : Nat) : Nat := 2 ^ yy_cn m n p - 1
theorem yr_all_t {m n p k : Nat} : Nat.testBit (yr_all m n p) k = decide (k < yy_cn m n p) := Nat.testBit_two_pow_sub_one _ _
theorem yr_all64 {m n p : Nat} (hm : m ≤ 6) (hn : n ≤ 6) : yr_all m n p < 64 := by
  have := yk_pw (yy_cn6 (p := p) hm hn)
  have h0 : 0 < 2 ^ yy_cn m n p := Nat.two_pow_pos _
  unfold yr_all
  omega
/-- a game that has just been told -/
theorem yx_p0 {m n : Nat} {ra : Nat → Nat → Int} {rd : Nat → Nat → Nat} {W : Nat → Nat → Nat → Int} {le : Nat → Int} {mu : Nat → Nat} {ta tb : Nat → Nat → Nat} {lb : Nat} (hm1 : 1 ≤ m) (hm : m ≤ 6) (hn1 : 1 ≤ n) (hn : n ≤ 6) (hr : yl_raw ra rd) (hs : yl_st m n ra rd W le mu) (ht : yt_ok m n ta tb) : yx_p m n ra rd W le mu ta tb (yr_all m n) 0 lb false yn_0 := by
  obtain ⟨E, hE⟩ := yn_dec m n W le
  refine ⟨(yl_ok hm1 hm hn1 hn hr hs).1, hr, hs, ht, fun p _ => yr_all64 hm hn, fun q _ => ⟨0, ?_, ?_⟩, Or.inl rfl, fun _ => rfl, E, hE, yn_0_ok, fun h => absurd h (by decide)⟩
  · unfold yy_cn; split <;> omega
  · rw [yr_all_t]
    refine decide_eq_true ?_
    unfold yy_cn; split <;> omega
theorem yx_mn.no {B C : xx_H} {b : Nat} {u8 : Value} {li : Bool} {m n m2 n2 : Nat} {W W2 : Nat → Nat → Nat → Int} {le le2 : Nat → Int} (h : yx_mn B b u8 li m n W le) (hq : ∀ q, b + 320 ≤ q → C.2 q = B.2 q) : yx_mn C b u8 false m2 n2 W2 le2 := by
  rcases h with h | ⟨z, h1, h2, h3, _⟩
  · exact Or.inl ⟨h.1, rfl⟩
  · exact Or.inr ⟨z, h1, h2, h3.to (fun q a c => hq q (by omega)), fun e => absurd e (by decide)⟩
set_option maxRecDepth 100000 in
theorem a_round {G : xx_G} {l : Launch} {A : xx_H} {z b i L cR sR : Nat} {xs : Nat → Int32} {Q : Option Value ⊕ String → xx_H → Prop} (I : yx_I A z b L xs) (hi : i + 6 ≤ L) (hL : L ≤ 3072) (K : ∀ C : xx_H, yx_I C z b L xs → xx_X G l mL_law 12 cR sR 1182 (xx_lv5 z b (b + 297) (b + 319) i) [] C Q) : xx_X G l mL_law 12 (cR + 14) (sR + 11400) 911 (xx_lv5 z b (b + 297) (b + 319) i) [] A Q := by
  obtain ⟨hz, zb, bA, ⟨gw, hw⟩, m, n, ra, rd, W, le, mu, ta, tb, th9, st, lb, li, s9, u, w9, P, ⟨u8, HC⟩, k0, tu, N, S9, HM⟩ := I
  have HC2 := HC
  have HM2 := HM
  obtain ⟨c1, ⟨fc, c2, c3⟩, c4, c5, c6, c7, c8, ⟨ft, c9, c10⟩, ⟨ht, c11, c12⟩, c13, ⟨hp, c14, c15⟩, c16, c17, c18, c19, ⟨X0, t0, V0, o0, c20⟩⟩ := HC2
  obtain ⟨p1, p2, p3, p4, p5, p6, p7, p8, ⟨E, p9, p10, p11⟩⟩ := id P
  have hm1 := p1.1
  have hm := p1.2.1
  have hn1 := p1.2.2.1
  have hn := p1.2.2.2.1
  refine xx_room (d2 := 12) (c2 := 0 + (0 + cR)) (s2 := 0 + (0 + sR)) (by omega) (by omega) (by omega) ?_
  refine k_round (d1 := 8) (c1 := 0) (s1 := 0) (d2 := 2) (c2 := 0) (s2 := 0) (P1 := fun k B => b + 320 ≤ B.1 ∧ B.2 z = xx_s L xs ∧ yx_m B (b + 297) m n ra rd W le mu ta tb th9 st lb li s9 u w9 (.int k0) tu N S9 ∧ (k = 0 ∧ (∃ g, B.2 (b + 319) = xx_l 1 g ∧ g 0 = (nI (yb_c (yr_g m n W th9 0) + yb_c (yr_g m n W th9 1))).toInt64) ∧ yx_c B b m n ra rd W le mu ta tb (yr_tn m n W th9) st lb li s9 u w9 u8)) (P2 := fun k v C => yx_J C z b L xs k ∧ (k = 0 → ∃ g, C.2 (b + 319) = xx_l 1 g ∧ g 0 = v.toInt64)) hi (by omega) (by decide) (by decide) hz (h_L_round c1 (c_X8_round c1 c2 c3 hm1 hm hn1 hn c6 ⟨ft, c9, c10⟩ p5) (fun r B hr => ?_)) ?_ (fun k v C hC => ⟨hC.1.1, hC.2, K C hC.1.2⟩)
  · obtain ⟨h1, h2, ⟨f9, h3, h4⟩, h5⟩ := hr
    refine Or.inl ⟨_, h1, gw, (h5 _ (by omega)).trans hw, fun C y1 y2 y3 => ?_⟩
    have fC : ∀ q, q ≠ b + 18 → q ≠ b + 319 → C.2 q = A.2 q := fun q a1 a2 => (y3 q a2).trans (h5 q a1)
    exact ⟨by omega, (fC z (by omega) (by omega)).trans hz, HM.fr (fun q a1 a2 => fC q (by omega) (by omega)), rfl, ⟨_, y2, rfl⟩, ⟨(fC b (by omega) (by omega)).trans c1, ⟨fc, (fC _ (by omega) (by omega)).trans c2, c3⟩, (fC _ (by omega) (by omega)).trans c4, (fC _ (by omega) (by omega)).trans c5, c6.to (fun q a d => (fC q (by omega) (by omega))), c7.to (fun q a d => (fC q (by omega) (by omega))), c8.to (fun q a d => (fC q (by omega) (by omega))), ⟨f9, (y3 _ (by omega)).trans h3, h4⟩, ⟨ht, (fC _ (by omega) (by omega)).trans c11, c12⟩, fun t ht9 => (c13 t ht9).to (fun q a d => fC q (by have := yt_tb (b := b) ht9; omega) (by have := yt_tb (b := b) ht9; omega)), ⟨hp, (fC _ (by omega) (by omega)).trans c14, c15⟩, c16.to (fun q a d => (fC q (by omega) (by omega))), fun s0 t ht9 => (c17 s0 t ht9).to (fun q a d => fC q (by have := yt_tb (b := b) ht9; omega) (by have := yt_tb (b := b) ht9; omega)), c18.to (fun q a d => (fC q (by omega) (by omega))), c19.to (fun q a => (fC q (by omega) (by omega))), X0, t0, V0, o0, c20.to (fun q a d => (fC q (by omega) (by omega)))⟩⟩
  · rintro k B ⟨q1, q2, hmB, rfl, ⟨g, e1, e2⟩, hcB⟩
    obtain ⟨m1, m2, m3, m4, m5, m6, m7, m8, m9, m10, ⟨f12, m11⟩, m12, ⟨g19, m13⟩, ⟨g20, m14⟩, m15, ⟨g21, m16⟩⟩ := id hmB
    refine ⟨q2, ⟨_, m1⟩, xx_mono (fun r C hr => ?_) (c_X9_round m1 m7 hm hn m10 hm1 hn1 ⟨g21, m16⟩)⟩
    obtain ⟨z5, g1, z6, ⟨f9, z7, z8⟩, ⟨g9, z9⟩, g2⟩ := hr
    have fC : ∀ q, q ≠ b + 297 → q ≠ b + 297 + 13 → q ≠ b + 297 + 21 → C.2 q = B.2 q := g2
    refine ⟨_, z5, yx_J.mk ((fC z (by omega) (by omega) (by omega)).trans q2) zb (by omega) ⟨g, (fC _ (by omega) (by omega) (by omega)).trans e1⟩ ⟨p1, p2, p3, p4, fun p _ => yr_tn64 p, yr_tn_ne hm hn p6, p7, p8, E, p9, p10, p11⟩ (hcB.to (fun q a1 a2 => fC q (by omega) (by omega) (by omega)) (fun q a1 => fC q (by omega) (by omega) (by omega))) (S9 := fun j => S9 j && !yr_go m n W th9 S9 j) ⟨z6, m2.to (fC _ (by omega) (by omega) (by omega)) (fC _ (by omega) (by omega) (by omega)) (fC _ (by omega) (by omega) (by omega)) (fC _ (by omega) (by omega) (by omega)) (fC _ (by omega) (by omega) (by omega)), m3, m4, m5, m6, m7.to (fC _ (by omega) (by omega) (by omega)) (fC _ (by omega) (by omega) (by omega)) (fC _ (by omega) (by omega) (by omega)), m8.to (fC _ (by omega) (by omega) (by omega)) (fC _ (by omega) (by omega) (by omega)), m9.to (fC _ (by omega) (by omega) (by omega)) (fC _ (by omega) (by omega) (by omega)), ⟨⟨f9, z7, z8⟩, yr_tn_s hm hn m10.2 p6⟩, ⟨f12, (fC _ (by omega) (by omega) (by omega)).trans m11⟩, m12.to (fun q a d => (fC q (by omega) (by omega) (by omega))), ⟨g19, (fC _ (by omega) (by omega) (by omega)).trans m13⟩, ⟨g20, (fC _ (by omega) (by omega) (by omega)).trans m14⟩, m15.to (fC _ (by omega) (by omega) (by omega)), g9, z9⟩, fun _ => ⟨g, (fC _ (by omega) (by omega) (by omega)).trans e1, ?_⟩⟩
    rw [e2, yr_n_c hm hn m10.2 p6]
set_option maxRecDepth 100000 in
theorem a_weight {G : xx_G} {l : Launch} {A : xx_H} {z b i L cR sR : Nat} {xs : Nat → Int32} {Q : Option Value ⊕ String → xx_H → Prop} (I : yx_I A z b L xs) (hi : i + 6 ≤ L) (hL : L ≤ 3072) (K : ∀ C : xx_H, yx_I C z b L xs → xx_X G l mL_law 12 cR sR 1182 (xx_lv5 z b (b + 297) (b + 319) i) [] C Q) : xx_X G l mL_law 12 (cR + 14) (sR + 11400) 380 (xx_lv5 z b (b + 297) (b + 319) i) [] A Q := by
  obtain ⟨hz, zb, bA, ⟨gw, hw⟩, m, n, ra, rd, W, le, mu, ta, tb, th9, st, lb, li, s9, u, w9, P, ⟨u8, HC⟩, k0, tu, N, S9, HM⟩ := I
  have HC2 := HC
  have HM2 := HM
  obtain ⟨c1, ⟨fc, c2, c3⟩, c4, c5, c6, c7, c8, ⟨ft, c9, c10⟩, ⟨ht, c11, c12⟩, c13, ⟨hp, c14, c15⟩, c16, c17, c18, c19, ⟨X0, t0, V0, o0, c20⟩⟩ := HC2
  obtain ⟨p1, p2, p3, p4, p5, p6, p7, p8, ⟨E, p9, p10, p11⟩⟩ := id P
  have hm1 := p1.1
  have hm := p1.2.1
  have hn1 := p1.2.2.1
  have hn := p1.2.2.2.1
  refine xx_room (d2 := 12) (c2 := 3 + (0 + cR)) (s2 := 18 + (0 + sR)) (by omega) (by omega) (by omega) ?_
  refine k_weight (d1 := 9) (c1 := 3) (s1 := 18) (d2 := 2) (c2 := 0) (s2 := 0) (P1 := fun k B => b + 320 ≤ B.1 ∧ B.2 z = xx_s L xs ∧ yx_m B (b + 297) m n ra rd W le mu ta tb th9 st lb li s9 u w9 (.int k0) tu N S9 ∧ ((k = 0 ∧ (yy_hp m n (xs (i + 1)) (xs (i + 2)) ∧ yy_ii (xs (i + 3)) 0 999 ∧ yy_ii (xs (i + 4)) 1 999) ∧ ∃ p r9 a9 d9, p < 2 ∧ r9 < yy_cn m n p ∧ a9 ≤ 999 ∧ 1 ≤ d9 ∧ d9 ≤ 999 ∧ xs (i + 1) = nI p ∧ xs (i + 2) = nI r9 ∧ xs (i + 3) = nI a9 ∧ xs (i + 4) = nI d9 ∧ (∃ g, B.2 (b + 319) = xx_l 1 g) ∧ yx_c B b m n ra rd W le mu (fun q => if q = p then yy_u2 (ta q) r9 a9 else ta q) (fun q => if q = p then yy_u2 (tb q) r9 d9 else tb q) th9 st lb li s9 u w9 u8) ∨ (k = 2 ∧ ¬ (yy_hp m n (xs (i + 1)) (xs (i + 2)) ∧ yy_ii (xs (i + 3)) 0 999 ∧ yy_ii (xs (i + 4)) 1 999) ∧ (∃ g, B.2 (b + 319) = xx_l 1 g) ∧ yx_c B b m n ra rd W le mu ta tb th9 st lb li s9 u w9 u8))) (P2 := fun k C => yx_J C z b L xs k) hi (by omega) (by decide) (by decide) hz (h_L_weight c1 (c_X8_weight c1 c2 c3 hm1 hm hn1 hn c8) (fun r B hr => ?_)) ?_ (fun k C hC => ⟨hC.1, K C hC.2⟩)
  · rcases hr with ⟨h0, ⟨p, r9, a9, d9, h1, h2, h3, h4, h5, h6, h7, h8, h9, h10⟩, h11, h12, fC⟩ | ⟨h1, h2, h3, eB⟩
    · exact Or.inl ⟨h11, by omega, (fC z (by omega)).trans hz, HM.fr (fun q a1 a2 => fC q (by omega)), Or.inl ⟨rfl, h0, p, r9, a9, d9, h1, h2, h3, h4, h5, h6, h7, h8, h9, ⟨gw, (fC _ (by omega)).trans hw⟩, ⟨(fC b (by omega)).trans c1, ⟨fc, (fC _ (by omega)).trans c2, c3⟩, (fC _ (by omega)).trans c4, (fC _ (by omega)).trans c5, c6.to (fun q a d => (fC q (by omega))), c7.to (fun q a d => (fC q (by omega))), h10, ⟨ft, (fC _ (by omega)).trans c9, c10⟩, ⟨ht, (fC _ (by omega)).trans c11, c12⟩, fun t ht9 => (c13 t ht9).to (fun q a d => fC q (by have := yt_tb (b := b) ht9; omega)), ⟨hp, (fC _ (by omega)).trans c14, c15⟩, c16.to (fun q a d => (fC q (by omega))), fun s0 t ht9 => (c17 s0 t ht9).to (fun q a d => fC q (by have := yt_tb (b := b) ht9; omega)), c18.to (fun q a d => (fC q (by omega))), c19.to (fun q a => (fC q (by omega))), X0, t0, V0, o0, c20.to (fun q a d => (fC q (by omega)))⟩⟩⟩
    · exact Or.inr (Or.inr ⟨h2, ⟨by omega, by rw [eB]; exact hz, HM.fr (fun q _ _ => by rw [eB]), Or.inr ⟨rfl, h1, ⟨gw, by rw [eB]; exact hw⟩, HC.to (fun q _ _ => by rw [eB]) (fun q _ => by rw [eB])⟩⟩⟩)
  · rintro k B ⟨q1, q2, hmB, hout⟩
    obtain ⟨m1, m2, m3, m4, m5, m6, m7, m8, m9, m10, ⟨f12, m11⟩, m12, ⟨g19, m13⟩, ⟨g20, m14⟩, m15, ⟨g21, m16⟩⟩ := id hmB
    refine ⟨q2, ⟨_, m1⟩, xx_mono (fun r C hr => ?_) (c_X9_weight m1 hm1 hm hn1 hn m9)⟩
    obtain ⟨z5, g1, hr⟩ := hr
    rcases hout with ⟨rfl, h0, p, r9, a9, d9, h1, h2, h3, h4, h5, h6, h7, h8, h9, ⟨g, e1⟩, hcB⟩ | ⟨rfl, h1, hwB, hcB⟩
    · rcases hr with ⟨_, ⟨pp, r2, a2, d2, x1, x2, x3, x4, x5, x6, x7, x8, x9, x10⟩, z6, g2⟩ | ⟨z1, _⟩
      · have ep : p = pp := nI_inj2 (by omega) (by omega) (h6.symm.trans x6)
        subst ep
        have c6 := yy_cn6 (p := p) hm hn
        have er : r9 = r2 := nI_inj2 (by omega) (by omega) (h7.symm.trans x7)
        subst er
        have ea : a9 = a2 := nI_inj2 (by omega) (by omega) (h8.symm.trans x8)
        subst ea
        have ed : d9 = d2 := nI_inj2 (by omega) (by omega) (h9.symm.trans x9)
        subst ed
        have fC : ∀ q, q ≠ b + 297 → q ≠ b + 297 + 6 → q ≠ b + 297 + 7 → C.2 q = B.2 q := g2
        exact ⟨z5, yx_J.mk ((fC z (by omega) (by omega) (by omega)).trans q2) zb (by omega) ⟨g, (fC _ (by omega) (by omega) (by omega)).trans e1⟩ ⟨p1, p2, p3, yt_ok_u p4 h2 h3 h4 h5, p5, p6, p7, p8, E, p9, p10, p11⟩ (hcB.to (fun q a1 a2 => fC q (by omega) (by omega) (by omega)) (fun q a1 => fC q (by omega) (by omega) (by omega))) ⟨z6, m2.to (fC _ (by omega) (by omega) (by omega)) (fC _ (by omega) (by omega) (by omega)) (fC _ (by omega) (by omega) (by omega)) (fC _ (by omega) (by omega) (by omega)) (fC _ (by omega) (by omega) (by omega)), m3, m4, m5, m6, m7.to (fC _ (by omega) (by omega) (by omega)) (fC _ (by omega) (by omega) (by omega)) (fC _ (by omega) (by omega) (by omega)), m8.to (fC _ (by omega) (by omega) (by omega)) (fC _ (by omega) (by omega) (by omega)), x10, m10.to (fC _ (by omega) (by omega) (by omega)), ⟨f12, (fC _ (by omega) (by omega) (by omega)).trans m11⟩, m12.to (fun q a d => (fC q (by omega) (by omega) (by omega))), ⟨g19, (fC _ (by omega) (by omega) (by omega)).trans m13⟩, ⟨g20, (fC _ (by omega) (by omega) (by omega)).trans m14⟩, m15.to (fC _ (by omega) (by omega) (by omega)), g21, (fC _ (by omega) (by omega) (by omega)).trans m16⟩⟩
      · exact absurd h0 z1
    · rcases hr with ⟨h0, _⟩ | ⟨_, z6, g2⟩
      · exact absurd h0 h1
      · exact ⟨z5, yx_J.th q2 zb q1 hwB P hcB hmB g1 z6 g2⟩
set_option maxRecDepth 100000 in
theorem a_pay {G : xx_G} {l : Launch} {A : xx_H} {z b i L cR sR : Nat} {xs : Nat → Int32} {Q : Option Value ⊕ String → xx_H → Prop} (I : yx_I A z b L xs) (hi : i + 6 ≤ L) (hL : L ≤ 3072) (K : ∀ C : xx_H, yx_I C z b L xs → xx_X G l mL_law 12 cR sR 1182 (xx_lv5 z b (b + 297) (b + 319) i) [] C Q) : xx_X G l mL_law 12 (cR + 14) (sR + 11400) 172 (xx_lv5 z b (b + 297) (b + 319) i) [] A Q := by
  obtain ⟨hz, zb, bA, ⟨gw, hw⟩, m, n, ra, rd, W, le, mu, ta, tb, th9, st, lb, li, s9, u, w9, P, ⟨u8, HC⟩, k0, tu, N, S9, HM⟩ := I
  have HC2 := HC
  have HM2 := HM
  obtain ⟨c1, ⟨fc, c2, c3⟩, c4, c5, c6, c7, c8, ⟨ft, c9, c10⟩, ⟨ht, c11, c12⟩, c13, ⟨hp, c14, c15⟩, c16, c17, c18, c19, ⟨X0, t0, V0, o0, c20⟩⟩ := HC2
  obtain ⟨p1, p2, p3, p4, p5, p6, p7, p8, ⟨E, p9, p10, p11⟩⟩ := id P
  have hm1 := p1.1
  have hm := p1.2.1
  have hn1 := p1.2.2.1
  have hn := p1.2.2.2.1
  refine xx_room (d2 := 12) (c2 := 4 + (0 + cR)) (s2 := 24 + (0 + sR)) (by omega) (by omega) (by omega) ?_
  refine k_pay (d1 := 9) (c1 := 4) (s1 := 24) (d2 := 2) (c2 := 0) (s2 := 0) (P1 := fun k B => b + 320 ≤ B.1 ∧ B.2 z = xx_s L xs ∧ yx_m B (b + 297) m n ra rd W le mu ta tb th9 st lb li s9 u w9 (.int k0) tu N S9 ∧ ((k = 0 ∧ (yy_in (xs (i + 1)) 2 ∧ yy_in (xs (i + 2)) m ∧ yy_in (xs (i + 3)) n ∧ yy_ii (xs (i + 4)) (-9999) 9999 ∧ yy_ii (xs (i + 5)) 1 12) ∧ ∃ p r9 c9 x9 d9 W2 le2 mu2, p < 2 ∧ r9 < m ∧ c9 < n ∧ x9.natAbs ≤ 9999 ∧ 1 ≤ d9 ∧ d9 ≤ 12 ∧ xs (i + 1) = nI p ∧ xs (i + 2) = nI r9 ∧ xs (i + 3) = nI c9 ∧ xs (i + 4) = iz x9 ∧ xs (i + 5) = nI d9 ∧ yl_st m n (yl_ua ra p (6 * r9 + c9) x9) (yl_ud rd p (6 * r9 + c9) d9) W2 le2 mu2 ∧ (∃ g, B.2 (b + 319) = xx_l 1 g) ∧ yx_c B b m n (yl_ua ra p (6 * r9 + c9) x9) (yl_ud rd p (6 * r9 + c9) d9) W2 le2 mu2 ta tb (yr_all m n) 0 lb false yn_0 u w9 u8) ∨ (k = 2 ∧ ¬ (yy_in (xs (i + 1)) 2 ∧ yy_in (xs (i + 2)) m ∧ yy_in (xs (i + 3)) n ∧ yy_ii (xs (i + 4)) (-9999) 9999 ∧ yy_ii (xs (i + 5)) 1 12) ∧ (∃ g, B.2 (b + 319) = xx_l 1 g) ∧ yx_c B b m n ra rd W le mu ta tb th9 st lb li s9 u w9 u8))) (P2 := fun k C => yx_J C z b L xs k) hi (by omega) (by decide) (by decide) hz (h_L_pay c1 (c_X8_pay c1 c2 c3 hm1 hm hn1 hn c6 c7 p3 ⟨ft, c9⟩) (fun r B hr => ?_)) ?_ (fun k C hC => ⟨hC.1, K C hC.2⟩)
  · rcases hr with ⟨h0, ⟨p, r9, c9, x9, d9, h1, h2, h3, h4, h5, h6, h7, h8, h9, h10, h11, ⟨W2, le2, mu2, h12, h13⟩, h14⟩, h15, h16, h17, ⟨f9, h18, h19⟩, fC⟩ | ⟨h1, h2, h3, eB⟩
    · exact Or.inl ⟨h15, by omega, (fC z (by omega) (by omega)).trans hz, HM.fr (fun q a1 a2 => fC q (by omega) (by omega)), Or.inl ⟨rfl, h0, p, r9, c9, x9, d9, W2, le2, mu2, h1, h2, h3, h4, h5, h6, h7, h8, h9, h10, h11, h12, ⟨gw, (fC _ (by omega) (by omega)).trans hw⟩, ⟨h17, ⟨fc, (fC _ (by omega) (by omega)).trans c2, c3⟩, (fC _ (by omega) (by omega)).trans c4, (fC _ (by omega) (by omega)).trans c5, h13, h14, c8.to (fun q a d => (fC q (by omega) (by omega))), ⟨f9, h18, h19⟩, ⟨ht, (fC _ (by omega) (by omega)).trans c11, c12⟩, fun t ht9 => (c13 t ht9).to (fun q a d => fC q (by have := yt_tb (b := b) ht9; omega) (by have := yt_tb (b := b) ht9; omega)), ⟨hp, (fC _ (by omega) (by omega)).trans c14, c15⟩, (c16.to (fun q a d => fC q (by omega) (by omega))).no, fun s0 => absurd s0 (Nat.lt_irrefl 0), (c18.to (fun q a d => fC q (by omega) (by omega))).mo, c19.no (fun q a => fC q (by omega) (by omega)), X0, t0, V0, o0, c20.to (fun q a d => (fC q (by omega) (by omega)))⟩⟩⟩
    · exact Or.inr (Or.inr ⟨h2, ⟨by omega, by rw [eB]; exact hz, HM.fr (fun q _ _ => by rw [eB]), Or.inr ⟨rfl, h1, ⟨gw, by rw [eB]; exact hw⟩, HC.to (fun q _ _ => by rw [eB]) (fun q _ => by rw [eB])⟩⟩⟩)
  · rintro k B ⟨q1, q2, hmB, hout⟩
    obtain ⟨m1, m2, m3, m4, m5, m6, m7, m8, m9, m10, ⟨f12, m11⟩, m12, ⟨g19, m13⟩, ⟨g20, m14⟩, m15, ⟨g21, m16⟩⟩ := id hmB
    refine ⟨q2, ⟨_, m1⟩, xx_mono (fun r C hr => ?_) (c_X9_pay m1 hm1 hm hn1 hn m7 m8 p2 (let ⟨⟨f, f1, _⟩, _⟩ := m10; ⟨f, f1⟩))⟩
    obtain ⟨z5, g1, hr⟩ := hr
    rcases hout with ⟨rfl, h0, p, r9, c9, x9, d9, W2, le2, mu2, h1, h2, h3, h4, h5, h6, h7, h8, h9, h10, h11, h12, ⟨g, e1⟩, hcB⟩ | ⟨rfl, h1, hwB, hcB⟩
    · rcases hr with ⟨_, ⟨pp, r2, cc, x2, d2, y1, y2, y3, y4, y5, y6, y7, y8, y9, y10, y11, ⟨W3, le3, mu3, y12, y13⟩, y14⟩, z6, z7, g2⟩ | ⟨z1, _⟩
      · have ep : p = pp := nI_inj2 (by omega) (by omega) (h7.symm.trans y7)
        subst ep
        have er : r9 = r2 := nI_inj2 (by omega) (by omega) (h8.symm.trans y8)
        subst er
        have ec : c9 = cc := nI_inj2 (by omega) (by omega) (h9.symm.trans y9)
        subst ec
        have ex : x9 = x2 := by
          have := congrArg Int32.toInt (h10.symm.trans y10)
          rw [iz_toInt (by omega) (by omega), iz_toInt (by omega) (by omega)] at this
          exact this
        subst ex
        have ed : d9 = d2 := nI_inj2 (by omega) (by omega) (h11.symm.trans y11)
        subst ed
        have fC : ∀ q, q ≠ b + 297 → q ≠ b + 297 + 4 → q ≠ b + 297 + 5 → (q < b + 297 + 13 ∨ b + 297 + 17 ≤ q) → C.2 q = B.2 q := g2
        have hraw := yl_raw_u (p := p) (k := 6 * r9 + c9) p2 h4 h5 h6
        obtain ⟨fs9, m15a, _⟩ := m15
        exact ⟨z5, yx_J.mk (lb := lb) ((fC z (by omega) (by omega) (by omega) (by omega)).trans q2) zb (by omega) ⟨g, (fC _ (by omega) (by omega) (by omega) (by omega)).trans e1⟩ (yx_p0 hm1 hm hn1 hn hraw h12 p4) (hcB.to (fun q a1 a2 => fC q (by omega) (by omega) (by omega) (by omega)) (fun q a1 => fC q (by omega) (by omega) (by omega) (by omega))) (S9 := fun _ => true) ⟨z6, m2.to (fC _ (by omega) (by omega) (by omega) (by omega)) (fC _ (by omega) (by omega) (by omega) (by omega)) (fC _ (by omega) (by omega) (by omega) (by omega)) (fC _ (by omega) (by omega) (by omega) (by omega)) (fC _ (by omega) (by omega) (by omega) (by omega)), m3, m4, fun s0 => absurd s0 (Nat.lt_irrefl 0), fun e he => absurd he (Nat.not_lt_zero e), y13.cg (yl_st_u y12 h12), y14, m9.to (fC _ (by omega) (by omega) (by omega) (by omega)) (fC _ (by omega) (by omega) (by omega) (by omega)), ⟨⟨_, z7, fun j _ => rfl⟩, fun q hq k hk => by rw [yr_all_t]; exact (decide_eq_true hk).symm⟩, ⟨f12, (fC _ (by omega) (by omega) (by omega) (by omega)).trans m11⟩, (m12.to (fun q a d => fC q (by omega) (by omega) (by omega) (by omega))).no, ⟨g19, (fC _ (by omega) (by omega) (by omega) (by omega)).trans m13⟩, ⟨g20, (fC _ (by omega) (by omega) (by omega) (by omega)).trans m14⟩, ⟨fs9, (fC _ (by omega) (by omega) (by omega) (by omega)).trans m15a, fun e he => absurd he (Nat.not_lt_zero e)⟩, g21, (fC _ (by omega) (by omega) (by omega) (by omega)).trans m16⟩⟩
      · exact absurd h0 z1
    · rcases hr with ⟨h0, _⟩ | ⟨_, z6, g2⟩
      · exact absurd h0 h1
      · exact ⟨z5, yx_J.th q2 zb q1 hwB P hcB hmB g1 z6 g2⟩
set_option maxRecDepth 100000 in
theorem a_run {G : xx_G} {l : Launch} {A : xx_H} {z b i L cR sR : Nat} {xs : Nat → Int32} {Q : Option Value ⊕ String → xx_H → Prop} (I : yx_I A z b L xs) (hi : i + 6 ≤ L) (hL : L ≤ 3072) (K : ∀ C : xx_H, yx_I C z b L xs → xx_X G l mL_law 12 cR sR 1182 (xx_lv5 z b (b + 297) (b + 319) i) [] C Q) : xx_X G l mL_law 12 (cR + 14) (sR + 11400) 256 (xx_lv5 z b (b + 297) (b + 319) i) [] A Q := by
  obtain ⟨hz, zb, bA, ⟨gw, hw⟩, m, n, ra, rd, W, le, mu, ta, tb, th9, st, lb, li, s9, u, w9, P, ⟨u8, HC⟩, k0, tu, N, S9, HM⟩ := I
  have HC2 := HC
  have HM2 := HM
  obtain ⟨c1, ⟨fc, c2, c3⟩, c4, c5, c6, c7, c8, ⟨ft, c9, c10⟩, ⟨ht, c11, c12⟩, c13, ⟨hp, c14, c15⟩, c16, c17, c18, c19, ⟨X0, t0, V0, o0, c20⟩⟩ := HC2
  obtain ⟨p1, p2, p3, p4, p5, p6, p7, p8, ⟨E, p9, p10, p11⟩⟩ := id P
  have hm1 := p1.1
  have hm := p1.2.1
  have hn1 := p1.2.2.1
  have hn := p1.2.2.2.1
  obtain ⟨⟨hpa, pa1, pa2⟩, po⟩ := id c6
  refine xx_room (d2 := 12) (c2 := 1 + (0 + cR)) (s2 := 6 + (0 + sR)) (by omega) (by omega) (by omega) ?_
  refine k_run (d1 := 9) (c1 := 1) (s1 := 6) (d2 := 6) (c2 := 0) (s2 := 0) (P1 := fun k B => b + 320 ≤ B.1 ∧ B.2 z = xx_s L xs ∧ yx_m B (b + 297) m n ra rd W le mu ta tb th9 st lb li s9 u w9 (.int k0) tu N S9 ∧ ((k = 0 ∧ ∃ lb2 q9, lb2 < m + n ∧ xs (i + 1) = nI lb2 ∧ yg_q m n W le lb2 q9 ∧ (∃ g, B.2 (b + 319) = xx_l 1 g ∧ g 0 = (nI (q9 + 1)).toInt64) ∧ yx_c B b m n ra rd W le mu ta tb th9 (q9 + 1) lb2 li s9 u w9 u8) ∨ (k = 2 ∧ ¬ yy_in (xs (i + 1)) (m + n) ∧ (∃ g, B.2 (b + 319) = xx_l 1 g) ∧ yx_c B b m n ra rd W le mu ta tb th9 st lb li s9 u w9 u8))) (P2 := fun k v C => yx_J C z b L xs k ∧ (k = 0 → ∃ g, C.2 (b + 319) = xx_l 1 g ∧ g 0 = v.toInt64)) hi (by omega) (by decide) (by decide) hz (h_L_run c1 (c_X8_run (W := W) (le := le) (mu := mu) c1 c2 c3 pa1 (pa2 0 (by decide)) (pa2 1 (by decide)) (po 0 (by decide)) (po 1 (by decide)) c11 c12 c13 c14 c15 c16.no p1) (fun r B hr => ?_)) ?_ (fun k v C hC => ⟨hC.1.1, hC.2, K C hC.1.2⟩)
  · rcases hr with ⟨lb2, q9, h1, h2, h3, h4, h5, h6, h7, h8, h9⟩ | ⟨h1, h2, h3, eB⟩
    · refine Or.inl ⟨_, h4, gw, (h9 _ (by omega) (by omega)).trans hw, fun C y1 y2 y3 => ?_⟩
      have fC : ∀ q, q ≠ b → (q < b + 20 ∨ b + 230 ≤ q ∨ q = b + 226) → q ≠ b + 319 → C.2 q = A.2 q := fun q a1 a2 a3 => (y3 q a3).trans (h9 q a1 a2)
      have tq2 : ∀ t, t < 2 → xx_tq C (yt_t b t) m n t (yg_a m n W le t) ((yg_p m n W le lb2 (q9 + 1)).1 t) := fun t ht9 => (h7 t ht9).to (fun q a d => y3 q (by have := yt_tb (b := b) ht9; omega))
      exact ⟨by omega, (fC z (by omega) (by omega) (by omega)).trans hz, HM.fr (fun q a1 a2 => fC q (by omega) (by omega) (by omega)), Or.inl ⟨rfl, lb2, q9, h1, h2, h3, ⟨_, y2, rfl⟩, ⟨by rw [if_neg (by omega)]; exact (y3 b (by omega)).trans h6, ⟨fc, (fC _ (by omega) (by omega) (by omega)).trans c2, c3⟩, (fC _ (by omega) (by omega) (by omega)).trans c4, (fC _ (by omega) (by omega) (by omega)).trans c5, c6.to (fun q a d => (fC q (by omega) (by omega) (by omega))), c7.to (fun q a d => (fC q (by omega) (by omega) (by omega))), c8.to (fun q a d => (fC q (by omega) (by omega) (by omega))), ⟨ft, (fC _ (by omega) (by omega) (by omega)).trans c9, c10⟩, ⟨ht, (fC _ (by omega) (by omega) (by omega)).trans c11, c12⟩, fun t ht9 => (tq2 t ht9).ta, ⟨hp, (fC _ (by omega) (by omega) (by omega)).trans c14, c15⟩, h8.to (fun q a d => y3 q (by omega)), fun _ => tq2, c18.to (fun q a d => (fC q (by omega) (by omega) (by omega))), c19.to (fun q a => (fC q (by omega) (by omega) (by omega))), X0, t0, V0, o0, c20.to (fun q a d => (fC q (by omega) (by omega) (by omega)))⟩⟩⟩
    · exact Or.inr (Or.inr ⟨h2, ⟨by omega, by rw [eB]; exact hz, HM.fr (fun q _ _ => by rw [eB]), Or.inr ⟨rfl, h1, ⟨gw, by rw [eB]; exact hw⟩, HC.to (fun q _ _ => by rw [eB]) (fun q _ => by rw [eB])⟩⟩⟩)
  · rintro k B ⟨q1, q2, hmB, hout⟩
    obtain ⟨m1, m2, m3, m4, m5, m6, m7, m8, m9, m10, ⟨f12, m11⟩, m12, ⟨g19, m13⟩, ⟨g20, m14⟩, m15, ⟨g21, m16⟩⟩ := id hmB
    refine ⟨q2, ⟨_, m1⟩, xx_mono (fun r C hr => ?_) (c_X9_run m1 m2 m7 ⟨f12, m11⟩ m12.no p1)⟩
    rcases hout with ⟨rfl, lb2, q9, h1, h2, h3, ⟨g, e1, e2⟩, hcB⟩ | ⟨rfl, h1, hwB, hcB⟩
    · rcases hr with ⟨lb3, q8, y1, y2, y3, z5, g1, z6, ⟨f8, z7⟩, z8, ⟨N2, z9, z10, z11⟩, g2⟩ | ⟨z1, _⟩
      · have el : lb2 = lb3 := nI_inj2 (by omega) (by omega) (h2.symm.trans y2)
        subst el
        have eq9 : q9 = q8 := yg_q_u h3 y3
        subst eq9
        have fC : ∀ q, q ≠ b + 297 → q ≠ b + 297 + 1 → q ≠ b + 297 + 2 → q ≠ b + 297 + 3 → q ≠ b + 297 + 8 → q ≠ b + 297 + 9 → q ≠ b + 297 + 10 → q ≠ b + 297 + 12 → q ≠ b + 297 + 17 → q ≠ b + 297 + 18 → C.2 q = B.2 q := g2
        exact ⟨_, z5, yx_J.mk ((fC z (by omega) (by omega) (by omega) (by omega) (by omega) (by omega) (by omega) (by omega) (by omega) (by omega)).trans q2) zb (by omega) ⟨g, (fC _ (by omega) (by omega) (by omega) (by omega) (by omega) (by omega) (by omega) (by omega) (by omega) (by omega)).trans e1⟩ ⟨p1, p2, p3, p4, p5, p6, Or.inr ⟨h1, q9, rfl, h3⟩, p8, E, p9, p10, p11⟩ (hcB.to (fun q a1 a2 => fC q (by omega) (by omega) (by omega) (by omega) (by omega) (by omega) (by omega) (by omega) (by omega) (by omega)) (fun q a1 => fC q (by omega) (by omega) (by omega) (by omega) (by omega) (by omega) (by omega) (by omega) (by omega) (by omega))) ⟨by rw [if_neg (by omega)]; exact z6, z9, (z11 16 (by omega)).trans m3, (z11 17 (by omega)).trans m4, fun _ => z10, m6.to (fun r a d => z11 r (by omega)), m7.to (fC _ (by omega) (by omega) (by omega) (by omega) (by omega) (by omega) (by omega) (by omega) (by omega) (by omega)) (fC _ (by omega) (by omega) (by omega) (by omega) (by omega) (by omega) (by omega) (by omega) (by omega) (by omega)) (fC _ (by omega) (by omega) (by omega) (by omega) (by omega) (by omega) (by omega) (by omega) (by omega) (by omega)), m8.to (fC _ (by omega) (by omega) (by omega) (by omega) (by omega) (by omega) (by omega) (by omega) (by omega) (by omega)) (fC _ (by omega) (by omega) (by omega) (by omega) (by omega) (by omega) (by omega) (by omega) (by omega) (by omega)), m9.to (fC _ (by omega) (by omega) (by omega) (by omega) (by omega) (by omega) (by omega) (by omega) (by omega) (by omega)) (fC _ (by omega) (by omega) (by omega) (by omega) (by omega) (by omega) (by omega) (by omega) (by omega) (by omega)), m10.to (fC _ (by omega) (by omega) (by omega) (by omega) (by omega) (by omega) (by omega) (by omega) (by omega) (by omega)), ⟨f8, z7⟩, z8, ⟨g19, (fC _ (by omega) (by omega) (by omega) (by omega) (by omega) (by omega) (by omega) (by omega) (by omega) (by omega)).trans m13⟩, ⟨g20, (fC _ (by omega) (by omega) (by omega) (by omega) (by omega) (by omega) (by omega) (by omega) (by omega) (by omega)).trans m14⟩, m15.to (fC _ (by omega) (by omega) (by omega) (by omega) (by omega) (by omega) (by omega) (by omega) (by omega) (by omega)), g21, (fC _ (by omega) (by omega) (by omega) (by omega) (by omega) (by omega) (by omega) (by omega) (by omega) (by omega)).trans m16⟩, fun _ => ⟨g, (fC _ (by omega) (by omega) (by omega) (by omega) (by omega) (by omega) (by omega) (by omega) (by omega) (by omega)).trans e1, e2⟩⟩
      · exact absurd ⟨lb2, h1, h2⟩ z1
    · rcases hr with ⟨lb3, q8, y1, y2, _⟩ | ⟨_, z5, g1, z6, g2⟩
      · exact absurd ⟨lb3, y1, y2⟩ h1
      · exact ⟨_, z5, yx_J.th q2 zb q1 hwB P hcB hmB g1 z6 g2, fun q => absurd q (by decide)⟩
