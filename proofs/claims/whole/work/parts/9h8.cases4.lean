/-! ===== support, strategy, gets, replies, judge in a game ===== -/
/-- the class after it has worked with a source -/
theorem yx_c.wk {A B : xx_H} {b : Nat} {m n : Nat} {ra : Nat → Nat → Int} {rd : Nat → Nat → Nat} {W : Nat → Nat → Nat → Int} {le : Nat → Int} {mu : Nat → Nat} {ta tb : Nat → Nat → Nat} {th9 : Nat → Nat} {st lb : Nat} {li : Bool} {s9 : yn_S} {u w9 : Int} {u2 w2 : Int} {u8 : Value} {X : Nat → Nat → Int} {t V : Nat → Int} {o : Int} (h : yx_c A b m n ra rd W le mu ta tb th9 st lb li s9 u w9 u8) (hq : ∀ q, b ≤ q → q < b + 233 → B.2 q = A.2 q) (hmn : yx_mn B b u8 li m n W le) (hwk : xx_wk B b X t V o u2 w2) : yx_c B b m n ra rd W le mu ta tb th9 st lb li s9 u2 w2 u8 := by
  obtain ⟨c1, ⟨fc, c2, c3⟩, c4, c5, c6, c7, c8, ⟨ft, c9, c10⟩, ⟨ht, c11, c12⟩, c13, ⟨hp, c14, c15⟩, c16, c17, c18, c19, ⟨X0, t0, V0, o0, c20⟩⟩ := h
  exact ⟨(hq b (by omega) (by omega)).trans c1, ⟨fc, (hq _ (by omega) (by omega)).trans c2, c3⟩, (hq _ (by omega) (by omega)).trans c4, (hq _ (by omega) (by omega)).trans c5, c6.to (fun q a d => (hq q (by omega) (by omega))), c7.to (fun q a d => (hq q (by omega) (by omega))), c8.to (fun q a d => (hq q (by omega) (by omega))), ⟨ft, (hq _ (by omega) (by omega)).trans c9, c10⟩, ⟨ht, (hq _ (by omega) (by omega)).trans c11, c12⟩, fun t ht9 => (c13 t ht9).to (fun q a d => hq q (by have := yt_tb (b := b) ht9; omega) (by have := yt_tb (b := b) ht9; omega)), ⟨hp, (hq _ (by omega) (by omega)).trans c14, c15⟩, c16.to (fun q a d => (hq q (by omega) (by omega))), fun s0 t ht9 => (c17 s0 t ht9).to (fun q a d => hq q (by have := yt_tb (b := b) ht9; omega) (by have := yt_tb (b := b) ht9; omega)), c18.to (fun q a d => (hq q (by omega) (by omega))), hmn, X, t, V, o, hwk⟩
/-- and the reference -/
theorem yx_J.hd {B C : xx_H} {z b L : Nat} {xs : Nat → Int32} {m n : Nat} {ra : Nat → Nat → Int} {rd : Nat → Nat → Nat} {W : Nat → Nat → Nat → Int} {le : Nat → Int} {mu : Nat → Nat} {ta tb : Nat → Nat → Nat} {th9 : Nat → Nat} {st lb : Nat} {li : Bool} {s9 : yn_S} {u w9 : Int} {u2 w2 : Int} {u8 th tu : Value} {k : Int32} {N N2 : Nat → Int} {S9 : Nat → Bool} (hz : B.2 z = xx_s L xs) (zb : z < b) (hB : b + 320 ≤ B.1) (hw : ∃ g, B.2 (b + 319) = xx_l 1 g) (hp : yx_p m n ra rd W le mu ta tb th9 st lb li s9) (hc : yx_c B b m n ra rd W le mu ta tb th9 st lb li s9 u2 w2 u8) (hm : yx_m B (b + 297) m n ra rd W le mu ta tb th9 st lb li s9 u w9 th tu N S9) (h1 : C.1 = B.1) (hb : C.2 (b + 297) = xx_o 9 (xx_mf (b + 297) (.int k) (.int (nI m)) (.int (nI n)) (.int (if st = 0 then -1 else nI lb)) (.int (nI st)) (.int (if li then 1 else 0)) (.int (nI s9.1)) tu)) (hN : xx_rw C (b + 297) N2) (e16 : N2 16 = u2) (e17 : N2 17 = w2) (hn : xx_nh N2 N) (hq : ∀ q, q ≠ b + 297 → q ≠ b + 297 + 1 → q ≠ b + 297 + 2 → q ≠ b + 297 + 3 → q ≠ b + 297 + 17 → q ≠ b + 297 + 18 → C.2 q = B.2 q) : yx_J C z b L xs k := by
  obtain ⟨g, hw⟩ := hw
  exact yx_J.mk ((hq z (by omega) (by omega) (by omega) (by omega) (by omega) (by omega)).trans hz) zb (by omega) ⟨g, (hq _ (by omega) (by omega) (by omega) (by omega) (by omega) (by omega)).trans hw⟩ hp (hc.to (fun q a1 a2 => hq q (by omega) (by omega) (by omega) (by omega) (by omega) (by omega)) (fun q a1 => hq q (by omega) (by omega) (by omega) (by omega) (by omega) (by omega))) (hm.hd hb hN e16 e17 hn hq)
set_option maxRecDepth 100000 in
theorem a_support {G : xx_G} {l : Launch} {A : xx_H} {z b i L cR sR : Nat} {xs : Nat → Int32} {Q : Option Value ⊕ String → xx_H → Prop} (I : yx_I A z b L xs) (hi : i + 6 ≤ L) (hL : L ≤ 3072) (K : ∀ C : xx_H, yx_I C z b L xs → xx_X G l mL_law 12 cR sR 1182 (xx_lv5 z b (b + 297) (b + 319) i) [] C Q) : xx_X G l mL_law 12 (cR + 14) (sR + 11400) 496 (xx_lv5 z b (b + 297) (b + 319) i) [] A Q := by
  obtain ⟨hz, zb, bA, ⟨gw, hw⟩, m, n, ra, rd, W, le, mu, ta, tb, th9, st, lb, li, s9, u, w9, P, ⟨u8, HC⟩, k0, tu, N, S9, HM⟩ := I
  have HC2 := HC
  have HM2 := HM
  obtain ⟨c1, ⟨fc, c2, c3⟩, c4, c5, c6, c7, c8, ⟨ft, c9, c10⟩, ⟨ht, c11, c12⟩, c13, ⟨hp, c14, c15⟩, c16, c17, c18, c19, ⟨X0, t0, V0, o0, c20⟩⟩ := HC2
  obtain ⟨p1, p2, p3, p4, p5, p6, p7, p8, ⟨E, p9, p10, p11⟩⟩ := id P
  have hm1 := p1.1
  have hm := p1.2.1
  have hn1 := p1.2.2.1
  have hn := p1.2.2.2.1
  obtain ⟨X, t, wq, w1, w2, tt, hX, hX0, hload, hpl⟩ := yx_source (G := G) (l := l) HC P c20 (xs (i + 1))
  have stB : st < 2 ^ 31 := by
    rcases p7 with h | ⟨_, q9, h, hq9⟩
    · omega
    · have := hq9.1
      omega
  have ecB : s9.1 < 2 ^ 31 := by
    have := p10.1
    omega
  have hmu := (yl_ok hm1 hm hn1 hn p2 p3).2
  have need : xx_X G l mX8_needSource 7 1 6 0 (lv_args 0 [.ref b, .int (xs (i + 1))]) [] A (xx_oe (ys_ok ta tb st s9.1 li (xs (i + 1))) R_ise A) := c_X8_needSource c1 c2 c3 hm1 hm c8 stB ecB
  have hKK : ∀ B C : xx_H, yx_mn B b u8 li m n W le → (∀ q, (q < b + 233 ∨ b + 297 ≤ q) → C.2 q = B.2 q) → yx_mn C b u8 li m n W le := fun B C h hq => h.to (fun q a => hq q (by omega))
  refine xx_room (d2 := 12) (c2 := 2 + (0 + cR)) (s2 := 12 + (0 + sR)) (by omega) (by omega) (by omega) ?_
  refine k_support (d1 := 10) (c1 := 2) (s1 := 12) (d2 := 6) (c2 := 0) (s2 := 0) (P1 := fun k B => b + 320 ≤ B.1 ∧ B.2 z = xx_s L xs ∧ yx_m B (b + 297) m n ra rd W le mu ta tb th9 st lb li s9 u w9 (.int k0) tu N S9 ∧ ((k = 0 ∧ ys_ok ta tb st s9.1 li (xs (i + 1)) ∧ (∃ p, p < 2 ∧ xs (i + 2) = nI p ∧ (∃ g, B.2 (b + 319) = xx_l 1 g ∧ g 0 = (nI (yb_n (fun k => decide (0 < X p k)) 6)).toInt64)) ∧ yx_c B b m n ra rd W le mu ta tb th9 st lb li s9 u w9 u8) ∨ (k = 1 ∧ ¬ ys_ok ta tb st s9.1 li (xs (i + 1)) ∧ (∃ g, B.2 (b + 319) = xx_l 1 g) ∧ yx_c B b m n ra rd W le mu ta tb th9 st lb li s9 u w9 u8) ∨ (k = 2 ∧ ys_ok ta tb st s9.1 li (xs (i + 1)) ∧ ¬ yy_in (xs (i + 2)) 2 ∧ (∃ g, B.2 (b + 319) = xx_l 1 g) ∧ yx_c B b m n ra rd W le mu ta tb th9 st lb li s9 u w9 u8))) (P2 := fun k v C => yx_J C z b L xs k ∧ (k = 0 → ∃ g, C.2 (b + 319) = xx_l 1 g ∧ g 0 = v.toInt64)) hi (by omega) (by decide) (by decide) hz (h_L_support c1 (c_X8_supportK (m := m) (n := n) (S := ys_ok ta tb st s9.1 li (xs (i + 1))) (KK := fun B => yx_mn B b u8 li m n W le) (FR := (fun q => q < b + 234 ∨ (b + 266 ≤ q ∧ q < b + 320))) c1 need hload hKK (fun q h => Or.inl (by omega))) (fun r B hr => ?_)) ?_ (fun k v C hC => ⟨hC.1.1, hC.2, K C hC.1.2⟩)
  · rcases hr with ⟨hS, p, h1, h2, h3, h4, h5, h6, h7⟩ | ⟨h1, h2, h3, eB⟩ | ⟨hS, h1, h2, h3, eB⟩
    · refine Or.inl ⟨_, h3, gw, (h7 (b + 319) (Or.inr (by omega))).trans hw, fun C y1 y2 y3 => ?_⟩
      have fC : ∀ q, (q < b + 233 ∨ (b + 297 ≤ q ∧ q < b + 319)) → C.2 q = A.2 q := fun q a => (y3 q (by omega)).trans (h7 q (show q < b + 234 ∨ (b + 266 ≤ q ∧ q < b + 320) by omega))
      exact ⟨by omega, (fC z (by omega)).trans hz, HM.fr (fun q a1 a2 => fC q (by omega)), Or.inl ⟨rfl, hS, ⟨p, h1, h2, ⟨_, y2, rfl⟩⟩, HC.wk (fun q a1 a2 => fC q (by omega)) (h6.to (fun q a => y3 q (by omega))) (h5.to (fun q a1 a2 => y3 q (by omega)))⟩⟩
    · exact Or.inr (Or.inl ⟨h2, ⟨by omega, by rw [eB]; exact hz, HM.fr (fun q _ _ => by rw [eB]), Or.inr (Or.inl ⟨rfl, h1, ⟨gw, by rw [eB]; exact hw⟩, HC.to (fun q _ _ => by rw [eB]) (fun q _ => by rw [eB])⟩)⟩⟩)
    · exact Or.inr (Or.inr ⟨h2, ⟨by omega, by rw [eB]; exact hz, HM.fr (fun q _ _ => by rw [eB]), Or.inr (Or.inr ⟨rfl, hS, h1, ⟨gw, by rw [eB]; exact hw⟩, HC.to (fun q _ _ => by rw [eB]) (fun q _ => by rw [eB])⟩)⟩⟩)
  · rintro k B ⟨q1, q2, hmB, hout⟩
    obtain ⟨m1, m2, m3, m4, m5, m6, m7, m8, m9, m10, ⟨f12, m11⟩, m12, ⟨g19, m13⟩, ⟨g20, m14⟩, m15, ⟨g21, m16⟩⟩ := id hmB
    refine ⟨q2, ⟨_, m1⟩, xx_mono (fun r C hr => ?_) (c_X9_support m1 (hpl B _ _ N S9 hmB) w1 w2)⟩
    obtain ⟨g1, ⟨N2, g3, g4⟩, g2, hr⟩ := hr
    rcases hout with ⟨rfl, hS, ⟨p, h1, h2, ⟨g, e1, e2⟩⟩, hcB⟩ | ⟨rfl, hS, hwB, hcB⟩ | ⟨rfl, hS, h1, hwB, hcB⟩
    · rcases hr with ⟨_, ⟨pp, z1, z2, z5⟩, z6⟩ | ⟨z1, _⟩ | ⟨_, z1, _⟩
      · have ep : p = pp := nI_inj2 (by omega) (by omega) (h2.symm.trans z2)
        subst ep
        exact ⟨_, z5, yx_J.hd q2 zb q1 ⟨g, e1⟩ P hcB hmB g1 z6 g3 (g4.1.trans m3) (g4.2.1.trans m4) g4.2.2 g2, fun _ => ⟨g, (g2 _ (by omega) (by omega) (by omega) (by omega) (by omega) (by omega)).trans e1, e2⟩⟩
      · exact absurd hS z1
      · exact absurd ⟨p, h1, h2⟩ z1
    · rcases hr with ⟨z1, _⟩ | ⟨_, z5, z6⟩ | ⟨z1, _⟩
      · exact absurd z1 hS
      · exact ⟨_, z5, yx_J.hd q2 zb q1 hwB P hcB hmB g1 z6 g3 (g4.1.trans m3) (g4.2.1.trans m4) g4.2.2 g2, fun q => absurd q (by decide)⟩
      · exact absurd z1 hS
    · rcases hr with ⟨_, ⟨pp, z1, z2, z5⟩, z6⟩ | ⟨z1, _⟩ | ⟨_, _, z5, z6⟩
      · exact absurd ⟨pp, z1, z2⟩ h1
      · exact absurd hS z1
      · exact ⟨_, z5, yx_J.hd q2 zb q1 hwB P hcB hmB g1 z6 g3 (g4.1.trans m3) (g4.2.1.trans m4) g4.2.2 g2, fun q => absurd q (by decide)⟩
set_option maxRecDepth 100000 in
theorem a_strategy {G : xx_G} {l : Launch} {A : xx_H} {z b i L cR sR : Nat} {xs : Nat → Int32} {Q : Option Value ⊕ String → xx_H → Prop} (I : yx_I A z b L xs) (hi : i + 6 ≤ L) (hL : L ≤ 3072) (K : ∀ C : xx_H, yx_I C z b L xs → xx_X G l mL_law 12 cR sR 1182 (xx_lv5 z b (b + 297) (b + 319) i) [] C Q) : xx_X G l mL_law 12 (cR + 14) (sR + 11400) 564 (xx_lv5 z b (b + 297) (b + 319) i) [] A Q := by
  obtain ⟨hz, zb, bA, ⟨gw, hw⟩, m, n, ra, rd, W, le, mu, ta, tb, th9, st, lb, li, s9, u, w9, P, ⟨u8, HC⟩, k0, tu, N, S9, HM⟩ := I
  have HC2 := HC
  have HM2 := HM
  obtain ⟨c1, ⟨fc, c2, c3⟩, c4, c5, c6, c7, c8, ⟨ft, c9, c10⟩, ⟨ht, c11, c12⟩, c13, ⟨hp, c14, c15⟩, c16, c17, c18, c19, ⟨X0, t0, V0, o0, c20⟩⟩ := HC2
  obtain ⟨p1, p2, p3, p4, p5, p6, p7, p8, ⟨E, p9, p10, p11⟩⟩ := id P
  have hm1 := p1.1
  have hm := p1.2.1
  have hn1 := p1.2.2.1
  have hn := p1.2.2.2.1
  obtain ⟨X, t, wq, w1, w2, tt, hX, hX0, hload, hpl⟩ := yx_source (G := G) (l := l) HC P c20 (xs (i + 1))
  have stB : st < 2 ^ 31 := by
    rcases p7 with h | ⟨_, q9, h, hq9⟩
    · omega
    · have := hq9.1
      omega
  have ecB : s9.1 < 2 ^ 31 := by
    have := p10.1
    omega
  have hmu := (yl_ok hm1 hm hn1 hn p2 p3).2
  have need : xx_X G l mX8_needSource 7 1 6 0 (lv_args 0 [.ref b, .int (xs (i + 1))]) [] A (xx_oe (ys_ok ta tb st s9.1 li (xs (i + 1))) R_ise A) := c_X8_needSource c1 c2 c3 hm1 hm c8 stB ecB
  have hKK : ∀ B C : xx_H, yx_mn B b u8 li m n W le → (∀ q, (q < b + 233 ∨ b + 297 ≤ q) → C.2 q = B.2 q) → yx_mn C b u8 li m n W le := fun B C h hq => h.to (fun q a => hq q (by omega))
  refine xx_room (d2 := 12) (c2 := 3 + (0 + cR)) (s2 := 18 + (0 + sR)) (by omega) (by omega) (by omega) ?_
  refine k_strategy (d1 := 10) (c1 := 3) (s1 := 18) (d2 := 6) (c2 := 0) (s2 := 0) (P1 := fun k B => b + 320 ≤ B.1 ∧ B.2 z = xx_s L xs ∧ yx_m B (b + 297) m n ra rd W le mu ta tb th9 st lb li s9 u w9 (.int k0) tu N S9 ∧ ((k = 0 ∧ ys_ok ta tb st s9.1 li (xs (i + 1)) ∧ yy_hp m n (xs (i + 2)) (xs (i + 3)) ∧ ∃ p r9, p < 2 ∧ r9 < yy_cn m n p ∧ xs (i + 2) = nI p ∧ xs (i + 3) = nI r9 ∧ (∃ g, B.2 (b + 319) = xx_l 1 g ∧ g 0 = (iz (X p r9).sign).toInt64) ∧ yx_c B b m n ra rd W le mu ta tb th9 st lb li s9 (yf_n (X p r9) (t p)) (yf_d (X p r9) (t p)) u8) ∨ (k = 1 ∧ ¬ ys_ok ta tb st s9.1 li (xs (i + 1)) ∧ (∃ g, B.2 (b + 319) = xx_l 1 g) ∧ yx_c B b m n ra rd W le mu ta tb th9 st lb li s9 u w9 u8) ∨ (k = 2 ∧ ys_ok ta tb st s9.1 li (xs (i + 1)) ∧ ¬ yy_hp m n (xs (i + 2)) (xs (i + 3)) ∧ (∃ g, B.2 (b + 319) = xx_l 1 g) ∧ yx_c B b m n ra rd W le mu ta tb th9 st lb li s9 u w9 u8))) (P2 := fun k v C => yx_J C z b L xs k ∧ (k = 0 → ∃ g, C.2 (b + 319) = xx_l 1 g ∧ g 0 = v.toInt64)) hi (by omega) (by decide) (by decide) hz (h_L_strategy c1 (c_X8_strategyK (S := ys_ok ta tb st s9.1 li (xs (i + 1))) (KK := fun B => yx_mn B b u8 li m n W le) (FR := (fun q => q < b + 234 ∨ (b + 266 ≤ q ∧ q < b + 320))) c1 c2 c3 hm1 hm hn1 hn need hload hKK (fun q h => Or.inl (by omega)) (fun q hq => Int.le_of_lt (tt q hq).1)) (fun r B hr => ?_)) ?_ (fun k v C hC => ⟨hC.1.1, hC.2, K C hC.1.2⟩)
  · rcases hr with ⟨hS, p, r9, h1, h2, h3, h4, h8, h9, h5, h6, h7⟩ | ⟨h1, h2, h3, eB⟩ | ⟨hS, h1, h2, h3, eB⟩
    · refine Or.inl ⟨_, h8, gw, (h7 (b + 319) (Or.inr (by omega)) (Or.inr (by omega))).trans hw, fun C y1 y2 y3 => ?_⟩
      have fC : ∀ q, (q < b + 233 ∨ (b + 297 ≤ q ∧ q < b + 319)) → C.2 q = A.2 q := fun q a => (y3 q (by omega)).trans (h7 q (show q < b + 234 ∨ (b + 266 ≤ q ∧ q < b + 320) by omega) (by omega))
      exact ⟨by omega, (fC z (by omega)).trans hz, HM.fr (fun q a1 a2 => fC q (by omega)), Or.inl ⟨rfl, hS, ⟨p, h1, h3, r9, h2, h4⟩, p, r9, h1, h2, h3, h4, ⟨_, y2, rfl⟩, HC.wk (fun q a1 a2 => fC q (by omega)) (h6.to (fun q a => y3 q (by omega))) (h5.to (fun q a1 a2 => y3 q (by omega)))⟩⟩
    · exact Or.inr (Or.inl ⟨h2, ⟨by omega, by rw [eB]; exact hz, HM.fr (fun q _ _ => by rw [eB]), Or.inr (Or.inl ⟨rfl, h1, ⟨gw, by rw [eB]; exact hw⟩, HC.to (fun q _ _ => by rw [eB]) (fun q _ => by rw [eB])⟩)⟩⟩)
    · exact Or.inr (Or.inr ⟨h2, ⟨by omega, by rw [eB]; exact hz, HM.fr (fun q _ _ => by rw [eB]), Or.inr (Or.inr ⟨rfl, hS, h1, ⟨gw, by rw [eB]; exact hw⟩, HC.to (fun q _ _ => by rw [eB]) (fun q _ => by rw [eB])⟩)⟩⟩)
  · rintro k B ⟨q1, q2, hmB, hout⟩
    obtain ⟨m1, m2, m3, m4, m5, m6, m7, m8, m9, m10, ⟨f12, m11⟩, m12, ⟨g19, m13⟩, ⟨g20, m14⟩, m15, ⟨g21, m16⟩⟩ := id hmB
    refine ⟨q2, ⟨_, m1⟩, xx_mono (fun r C hr => ?_) (c_X9_strategy m1 hm1 hm hn1 hn (hpl B _ _ N S9 hmB) w1 w2 tt)⟩
    obtain ⟨g1, g2, hr⟩ := hr
    rcases hout with ⟨rfl, hS, hh9, p, r9, h1, h2, h3, h4, ⟨g, e1, e2⟩, hcB⟩ | ⟨rfl, hS, hwB, hcB⟩ | ⟨rfl, hS, h1, hwB, hcB⟩
    · rcases hr with ⟨_, ⟨pp, r2, x1, x2, x3, x4, z5, N2, z7, z8, z9, z10⟩, z6⟩ | ⟨z1, _⟩ | ⟨_, z1, _⟩
      · have ep : p = pp := nI_inj2 (by omega) (by omega) (h3.symm.trans x3)
        subst ep
        have c6 := yy_cn6 (p := p) hm hn
        have er : r9 = r2 := nI_inj2 (by omega) (by omega) (h4.symm.trans x4)
        subst er
        exact ⟨_, z5, yx_J.hd q2 zb q1 ⟨g, e1⟩ P hcB hmB g1 z6 z7 z9 z10 z8 g2, fun _ => ⟨g, (g2 _ (by omega) (by omega) (by omega) (by omega) (by omega) (by omega)).trans e1, e2⟩⟩
      · exact absurd hS z1
      · exact absurd hh9 z1
    · rcases hr with ⟨z1, _⟩ | ⟨_, z5, ⟨N2, g3, g4⟩, z6⟩ | ⟨z1, _⟩
      · exact absurd z1 hS
      · exact ⟨_, z5, yx_J.hd q2 zb q1 hwB P hcB hmB g1 z6 g3 (g4.1.trans m3) (g4.2.1.trans m4) g4.2.2 g2, fun q => absurd q (by decide)⟩
      · exact absurd z1 hS
    · rcases hr with ⟨_, ⟨pp, r2, x1, x2, x3, x4, z5, N2, z7, z8, z9, z10⟩, z6⟩ | ⟨z1, _⟩ | ⟨_, _, z5, ⟨N2, g3, g4⟩, z6⟩
      · exact absurd ⟨pp, x1, x3, r2, x2, x4⟩ h1
      · exact absurd hS z1
      · exact ⟨_, z5, yx_J.hd q2 zb q1 hwB P hcB hmB g1 z6 g3 (g4.1.trans m3) (g4.2.1.trans m4) g4.2.2 g2, fun q => absurd q (by decide)⟩
theorem yx_gu {m n p : Nat} {x : Int32} {y y2 d d2 : Int} {W : Nat → Nat → Nat → Int} {X : Nat → Nat → Int} {mu : Nat → Nat} {t : Nat → Int} (hm : m ≤ 6) (hn : n ≤ 6) (h : (x = -1 ∧ y = ye_o m n W X p (yy_cn m n p) ∧ d = (mu p : Int) * t 0 * t 1) ∨ ∃ r, r < yy_cn m n p ∧ x = nI r ∧ y = ye_v m n W X p r ∧ d = (mu p : Int) * t (1 - p)) (h2 : (x = -1 ∧ y2 = ye_o m n W X p (yy_cn m n p) ∧ d2 = (mu p : Int) * t 0 * t 1) ∨ ∃ r, r < yy_cn m n p ∧ x = nI r ∧ y2 = ye_v m n W X p r ∧ d2 = (mu p : Int) * t (1 - p)) : y = y2 ∧ d = d2 := by
  have c6 := yy_cn6 (p := p) hm hn
  rcases h with ⟨a1, a2, a3⟩ | ⟨r, a1, a2, a3, a4⟩
  · rcases h2 with ⟨_, b2, b3⟩ | ⟨r, b1, b2, _⟩
    · exact ⟨a2.trans b2.symm, a3.trans b3.symm⟩
    · exact absurd (b2.symm.trans a1) (ys_ng r (by omega)).2
  · rcases h2 with ⟨b1, _⟩ | ⟨r2, b1, b2, b3, b4⟩
    · exact absurd (a2.symm.trans b1) (ys_ng r (by omega)).2
    · have er : r = r2 := nI_inj2 (by omega) (by omega) (a2.symm.trans b2)
      subst er
      exact ⟨a3.trans b3.symm, a4.trans b4.symm⟩
theorem yx_gp {m n p : Nat} {x xp : Int32} {y d : Int} {W : Nat → Nat → Nat → Int} {X : Nat → Nat → Int} {mu : Nat → Nat} {t : Nat → Int} (hp : p < 2) (hx : xp = nI p) (h : (x = -1 ∧ y = ye_o m n W X p (yy_cn m n p) ∧ d = (mu p : Int) * t 0 * t 1) ∨ ∃ r, r < yy_cn m n p ∧ x = nI r ∧ y = ye_v m n W X p r ∧ d = (mu p : Int) * t (1 - p)) : ∃ p, p < 2 ∧ xp = nI p ∧ (x = -1 ∨ yy_in x (yy_cn m n p)) := by
  rcases h with ⟨a1, _⟩ | ⟨r, a1, a2, _⟩
  · exact ⟨p, hp, hx, Or.inl a1⟩
  · exact ⟨p, hp, hx, Or.inr ⟨r, a1, a2⟩⟩
set_option maxRecDepth 100000 in
theorem a_gets {G : xx_G} {l : Launch} {A : xx_H} {z b i L cR sR : Nat} {xs : Nat → Int32} {Q : Option Value ⊕ String → xx_H → Prop} (I : yx_I A z b L xs) (hi : i + 6 ≤ L) (hL : L ≤ 3072) (K : ∀ C : xx_H, yx_I C z b L xs → xx_X G l mL_law 12 cR sR 1182 (xx_lv5 z b (b + 297) (b + 319) i) [] C Q) : xx_X G l mL_law 12 (cR + 14) (sR + 11400) 644 (xx_lv5 z b (b + 297) (b + 319) i) [] A Q := by
  obtain ⟨hz, zb, bA, ⟨gw, hw⟩, m, n, ra, rd, W, le, mu, ta, tb, th9, st, lb, li, s9, u, w9, P, ⟨u8, HC⟩, k0, tu, N, S9, HM⟩ := I
  have HC2 := HC
  have HM2 := HM
  obtain ⟨c1, ⟨fc, c2, c3⟩, c4, c5, c6, c7, c8, ⟨ft, c9, c10⟩, ⟨ht, c11, c12⟩, c13, ⟨hp, c14, c15⟩, c16, c17, c18, c19, ⟨X0, t0, V0, o0, c20⟩⟩ := HC2
  obtain ⟨p1, p2, p3, p4, p5, p6, p7, p8, ⟨E, p9, p10, p11⟩⟩ := id P
  have hm1 := p1.1
  have hm := p1.2.1
  have hn1 := p1.2.2.1
  have hn := p1.2.2.2.1
  obtain ⟨X, t, wq, w1, w2, tt, hX, hX0, hload, hpl⟩ := yx_source (G := G) (l := l) HC P c20 (xs (i + 1))
  have stB : st < 2 ^ 31 := by
    rcases p7 with h | ⟨_, q9, h, hq9⟩
    · omega
    · have := hq9.1
      omega
  have ecB : s9.1 < 2 ^ 31 := by
    have := p10.1
    omega
  have hmu := (yl_ok hm1 hm hn1 hn p2 p3).2
  have need : xx_X G l mX8_needSource 7 1 6 0 (lv_args 0 [.ref b, .int (xs (i + 1))]) [] A (xx_oe (ys_ok ta tb st s9.1 li (xs (i + 1))) R_ise A) := c_X8_needSource c1 c2 c3 hm1 hm c8 stB ecB
  have hKK : ∀ B C : xx_H, yx_mn B b u8 li m n W le → (∀ q, (q < b + 233 ∨ b + 297 ≤ q) → C.2 q = B.2 q) → yx_mn C b u8 li m n W le := fun B C h hq => h.to (fun q a => hq q (by omega))
  refine xx_room (d2 := 12) (c2 := 3 + (0 + cR)) (s2 := 18 + (0 + sR)) (by omega) (by omega) (by omega) ?_
  refine k_gets (d1 := 10) (c1 := 3) (s1 := 18) (d2 := 6) (c2 := 0) (s2 := 0) (P1 := fun k B => b + 320 ≤ B.1 ∧ B.2 z = xx_s L xs ∧ yx_m B (b + 297) m n ra rd W le mu ta tb th9 st lb li s9 u w9 (.int k0) tu N S9 ∧ ((k = 0 ∧ ys_ok ta tb st s9.1 li (xs (i + 1)) ∧ (∃ p, p < 2 ∧ xs (i + 2) = nI p ∧ (xs (i + 3) = -1 ∨ yy_in (xs (i + 3)) (yy_cn m n p))) ∧ ∃ p y d, p < 2 ∧ xs (i + 2) = nI p ∧ ((xs (i + 3) = -1 ∧ y = ye_o m n W X p (yy_cn m n p) ∧ d = (mu p : Int) * t 0 * t 1) ∨ ∃ r, r < yy_cn m n p ∧ xs (i + 3) = nI r ∧ y = ye_v m n W X p r ∧ d = (mu p : Int) * t (1 - p)) ∧ (∃ g, B.2 (b + 319) = xx_l 1 g ∧ g 0 = (iz y.sign).toInt64) ∧ yx_c B b m n ra rd W le mu ta tb th9 st lb li s9 (yf_n y d) (yf_d y d) u8) ∨ (k = 1 ∧ ¬ ys_ok ta tb st s9.1 li (xs (i + 1)) ∧ (∃ g, B.2 (b + 319) = xx_l 1 g) ∧ yx_c B b m n ra rd W le mu ta tb th9 st lb li s9 u w9 u8) ∨ (k = 2 ∧ ys_ok ta tb st s9.1 li (xs (i + 1)) ∧ ¬ (∃ p, p < 2 ∧ xs (i + 2) = nI p ∧ (xs (i + 3) = -1 ∨ yy_in (xs (i + 3)) (yy_cn m n p))) ∧ (∃ g, B.2 (b + 319) = xx_l 1 g) ∧ yx_c B b m n ra rd W le mu ta tb th9 st lb li s9 u w9 u8))) (P2 := fun k v C => yx_J C z b L xs k ∧ (k = 0 → ∃ g, C.2 (b + 319) = xx_l 1 g ∧ g 0 = v.toInt64)) hi (by omega) (by decide) (by decide) hz (h_L_gets c1 (c_X8_getsK (S := ys_ok ta tb st s9.1 li (xs (i + 1))) (KK := fun B => yx_mn B b u8 li m n W le) (FR := (fun q => q < b + 234 ∨ (b + 266 ≤ q ∧ q < b + 320))) c1 c2 c3 hm1 hm hn1 hn need hload hKK (fun q h => Or.inl (by omega)) c6 (fun p hp => (hmu p hp).1) hX (fun q hq => ⟨Int.le_of_lt (tt q hq).1, (tt q hq).2⟩)) (fun r B hr => ?_)) ?_ (fun k v C hC => ⟨hC.1.1, hC.2, K C hC.1.2⟩)
  · rcases hr with ⟨hS, p, y, d, V2, o2, h1, h2, h3, h8, h9, h5, h6, h7⟩ | ⟨h1, h2, h3, eB⟩ | ⟨hS, h1, h2, h3, eB⟩
    · refine Or.inl ⟨_, h8, gw, (h7 (b + 319) (Or.inr (by omega)) (Or.inr (by omega))).trans hw, fun C y1 y2 y3 => ?_⟩
      have fC : ∀ q, (q < b + 233 ∨ (b + 297 ≤ q ∧ q < b + 319)) → C.2 q = A.2 q := fun q a => (y3 q (by omega)).trans (h7 q (show q < b + 234 ∨ (b + 266 ≤ q ∧ q < b + 320) by omega) (by omega))
      exact ⟨by omega, (fC z (by omega)).trans hz, HM.fr (fun q a1 a2 => fC q (by omega)), Or.inl ⟨rfl, hS, yx_gp h1 h2 h3, p, y, d, h1, h2, h3, ⟨_, y2, rfl⟩, HC.wk (fun q a1 a2 => fC q (by omega)) (h6.to (fun q a => y3 q (by omega))) (h5.to (fun q a1 a2 => y3 q (by omega)))⟩⟩
    · exact Or.inr (Or.inl ⟨h2, ⟨by omega, by rw [eB]; exact hz, HM.fr (fun q _ _ => by rw [eB]), Or.inr (Or.inl ⟨rfl, h1, ⟨gw, by rw [eB]; exact hw⟩, HC.to (fun q _ _ => by rw [eB]) (fun q _ => by rw [eB])⟩)⟩⟩)
    · exact Or.inr (Or.inr ⟨h2, ⟨by omega, by rw [eB]; exact hz, HM.fr (fun q _ _ => by rw [eB]), Or.inr (Or.inr ⟨rfl, hS, h1, ⟨gw, by rw [eB]; exact hw⟩, HC.to (fun q _ _ => by rw [eB]) (fun q _ => by rw [eB])⟩)⟩⟩)
  · rintro k B ⟨q1, q2, hmB, hout⟩
    obtain ⟨m1, m2, m3, m4, m5, m6, m7, m8, m9, m10, ⟨f12, m11⟩, m12, ⟨g19, m13⟩, ⟨g20, m14⟩, m15, ⟨g21, m16⟩⟩ := id hmB
    refine ⟨q2, ⟨_, m1⟩, xx_mono (fun r C hr => ?_) (c_X9_gets m1 hm1 hm hn1 hn (hpl B _ _ N S9 hmB) w1 w2 tt m7 hmu hX)⟩
    obtain ⟨g1, g2, hr⟩ := hr
    rcases hout with ⟨rfl, hS, hh9, p, y, d, h1, h2, h3, ⟨g, e1, e2⟩, hcB⟩ | ⟨rfl, hS, hwB, hcB⟩ | ⟨rfl, hS, h1, hwB, hcB⟩
    · rcases hr with ⟨_, ⟨pp, y9, d9, x1, x2, x3, z5, N2, z7, z8, z9, z10⟩, z6⟩ | ⟨z1, _⟩ | ⟨_, z1, _⟩
      · have ep : p = pp := nI_inj2 (by omega) (by omega) (h2.symm.trans x2)
        subst ep
        obtain ⟨ey, ed⟩ := yx_gu hm hn h3 x3
        subst ey
        subst ed
        exact ⟨_, z5, yx_J.hd q2 zb q1 ⟨g, e1⟩ P hcB hmB g1 z6 z7 z9 z10 z8 g2, fun _ => ⟨g, (g2 _ (by omega) (by omega) (by omega) (by omega) (by omega) (by omega)).trans e1, e2⟩⟩
      · exact absurd hS z1
      · exact absurd hh9 z1
    · rcases hr with ⟨z1, _⟩ | ⟨_, z5, ⟨N2, g3, g4⟩, z6⟩ | ⟨z1, _⟩
      · exact absurd z1 hS
      · exact ⟨_, z5, yx_J.hd q2 zb q1 hwB P hcB hmB g1 z6 g3 (g4.1.trans m3) (g4.2.1.trans m4) g4.2.2 g2, fun q => absurd q (by decide)⟩
      · exact absurd z1 hS
    · rcases hr with ⟨_, ⟨pp, y9, d9, x1, x2, x3, z5, N2, z7, z8, z9, z10⟩, z6⟩ | ⟨z1, _⟩ | ⟨_, _, z5, ⟨N2, g3, g4⟩, z6⟩
      · exact absurd (yx_gp x1 x2 x3) h1
      · exact absurd hS z1
      · exact ⟨_, z5, yx_J.hd q2 zb q1 hwB P hcB hmB g1 z6 g3 (g4.1.trans m3) (g4.2.1.trans m4) g4.2.2 g2, fun q => absurd q (by decide)⟩
set_option maxRecDepth 100000 in
theorem a_replies {G : xx_G} {l : Launch} {A : xx_H} {z b i L cR sR : Nat} {xs : Nat → Int32} {Q : Option Value ⊕ String → xx_H → Prop} (I : yx_I A z b L xs) (hi : i + 6 ≤ L) (hL : L ≤ 3072) (K : ∀ C : xx_H, yx_I C z b L xs → xx_X G l mL_law 12 cR sR 1182 (xx_lv5 z b (b + 297) (b + 319) i) [] C Q) : xx_X G l mL_law 12 (cR + 14) (sR + 11400) 724 (xx_lv5 z b (b + 297) (b + 319) i) [] A Q := by
  obtain ⟨hz, zb, bA, ⟨gw, hw⟩, m, n, ra, rd, W, le, mu, ta, tb, th9, st, lb, li, s9, u, w9, P, ⟨u8, HC⟩, k0, tu, N, S9, HM⟩ := I
  have HC2 := HC
  have HM2 := HM
  obtain ⟨c1, ⟨fc, c2, c3⟩, c4, c5, c6, c7, c8, ⟨ft, c9, c10⟩, ⟨ht, c11, c12⟩, c13, ⟨hp, c14, c15⟩, c16, c17, c18, c19, ⟨X0, t0, V0, o0, c20⟩⟩ := HC2
  obtain ⟨p1, p2, p3, p4, p5, p6, p7, p8, ⟨E, p9, p10, p11⟩⟩ := id P
  have hm1 := p1.1
  have hm := p1.2.1
  have hn1 := p1.2.2.1
  have hn := p1.2.2.2.1
  obtain ⟨X, t, wq, w1, w2, tt, hX, hX0, hload, hpl⟩ := yx_source (G := G) (l := l) HC P c20 (xs (i + 1))
  have stB : st < 2 ^ 31 := by
    rcases p7 with h | ⟨_, q9, h, hq9⟩
    · omega
    · have := hq9.1
      omega
  have ecB : s9.1 < 2 ^ 31 := by
    have := p10.1
    omega
  have hmu := (yl_ok hm1 hm hn1 hn p2 p3).2
  have need : xx_X G l mX8_needSource 7 1 6 0 (lv_args 0 [.ref b, .int (xs (i + 1))]) [] A (xx_oe (ys_ok ta tb st s9.1 li (xs (i + 1))) R_ise A) := c_X8_needSource c1 c2 c3 hm1 hm c8 stB ecB
  have hKK : ∀ B C : xx_H, yx_mn B b u8 li m n W le → (∀ q, (q < b + 233 ∨ b + 297 ≤ q) → C.2 q = B.2 q) → yx_mn C b u8 li m n W le := fun B C h hq => h.to (fun q a => hq q (by omega))
  refine xx_room (d2 := 12) (c2 := 2 + (0 + cR)) (s2 := 12 + (0 + sR)) (by omega) (by omega) (by omega) ?_
  refine k_replies (d1 := 10) (c1 := 2) (s1 := 12) (d2 := 6) (c2 := 0) (s2 := 0) (P1 := fun k B => b + 320 ≤ B.1 ∧ B.2 z = xx_s L xs ∧ yx_m B (b + 297) m n ra rd W le mu ta tb th9 st lb li s9 u w9 (.int k0) tu N S9 ∧ ((k = 0 ∧ ys_ok ta tb st s9.1 li (xs (i + 1)) ∧ yy_in (xs (i + 2)) 2 ∧ ∃ p, p < 2 ∧ xs (i + 2) = nI p ∧ (∃ g, B.2 (b + 319) = xx_l 1 g ∧ g 0 = (nI (ye_b (ye_v m n W X p) (yy_cn m n p - 1))).toInt64) ∧ yx_c B b m n ra rd W le mu ta tb th9 st lb li s9 (yf_n (ye_m (ye_v m n W X p) (yy_cn m n p - 1) * t p - ye_o m n W X p (yy_cn m n p)) ((mu p : Int) * t 0 * t 1)) (yf_d (ye_m (ye_v m n W X p) (yy_cn m n p - 1) * t p - ye_o m n W X p (yy_cn m n p)) ((mu p : Int) * t 0 * t 1)) u8) ∨ (k = 1 ∧ ¬ ys_ok ta tb st s9.1 li (xs (i + 1)) ∧ (∃ g, B.2 (b + 319) = xx_l 1 g) ∧ yx_c B b m n ra rd W le mu ta tb th9 st lb li s9 u w9 u8) ∨ (k = 2 ∧ ys_ok ta tb st s9.1 li (xs (i + 1)) ∧ ¬ yy_in (xs (i + 2)) 2 ∧ (∃ g, B.2 (b + 319) = xx_l 1 g) ∧ yx_c B b m n ra rd W le mu ta tb th9 st lb li s9 u w9 u8))) (P2 := fun k v C => yx_J C z b L xs k ∧ (k = 0 → ∃ g, C.2 (b + 319) = xx_l 1 g ∧ g 0 = v.toInt64)) hi (by omega) (by decide) (by decide) hz (h_L_replies c1 (c_X8_repliesK (S := ys_ok ta tb st s9.1 li (xs (i + 1))) (KK := fun B => yx_mn B b u8 li m n W le) (FR := (fun q => q < b + 234 ∨ (b + 266 ≤ q ∧ q < b + 320))) c1 c2 c3 hm1 hm hn1 hn need hload hKK (fun q h => Or.inl (by omega)) c6 (fun p hp => (hmu p hp).1) hX (fun q hq => ⟨Int.le_of_lt (tt q hq).1, (tt q hq).2⟩)) (fun r B hr => ?_)) ?_ (fun k v C hC => ⟨hC.1.1, hC.2, K C hC.1.2⟩)
  · rcases hr with ⟨hS, p, V2, o2, h1, h2, h8, h9, h5, h6, h7⟩ | ⟨h1, h2, h3, eB⟩ | ⟨hS, h1, h2, h3, eB⟩
    · refine Or.inl ⟨_, h8, gw, (h7 (b + 319) (Or.inr (by omega)) (Or.inr (by omega))).trans hw, fun C y1 y2 y3 => ?_⟩
      have fC : ∀ q, (q < b + 233 ∨ (b + 297 ≤ q ∧ q < b + 319)) → C.2 q = A.2 q := fun q a => (y3 q (by omega)).trans (h7 q (show q < b + 234 ∨ (b + 266 ≤ q ∧ q < b + 320) by omega) (by omega))
      exact ⟨by omega, (fC z (by omega)).trans hz, HM.fr (fun q a1 a2 => fC q (by omega)), Or.inl ⟨rfl, hS, ⟨p, h1, h2⟩, p, h1, h2, ⟨_, y2, rfl⟩, HC.wk (fun q a1 a2 => fC q (by omega)) (h6.to (fun q a => y3 q (by omega))) (h5.to (fun q a1 a2 => y3 q (by omega)))⟩⟩
    · exact Or.inr (Or.inl ⟨h2, ⟨by omega, by rw [eB]; exact hz, HM.fr (fun q _ _ => by rw [eB]), Or.inr (Or.inl ⟨rfl, h1, ⟨gw, by rw [eB]; exact hw⟩, HC.to (fun q _ _ => by rw [eB]) (fun q _ => by rw [eB])⟩)⟩⟩)
    · exact Or.inr (Or.inr ⟨h2, ⟨by omega, by rw [eB]; exact hz, HM.fr (fun q _ _ => by rw [eB]), Or.inr (Or.inr ⟨rfl, hS, h1, ⟨gw, by rw [eB]; exact hw⟩, HC.to (fun q _ _ => by rw [eB]) (fun q _ => by rw [eB])⟩)⟩⟩)
  · rintro k B ⟨q1, q2, hmB, hout⟩
    obtain ⟨m1, m2, m3, m4, m5, m6, m7, m8, m9, m10, ⟨f12, m11⟩, m12, ⟨g19, m13⟩, ⟨g20, m14⟩, m15, ⟨g21, m16⟩⟩ := id hmB
    refine ⟨q2, ⟨_, m1⟩, xx_mono (fun r C hr => ?_) (c_X9_replies m1 hm1 hm hn1 hn (hpl B _ _ N S9 hmB) w1 w2 tt m7 hmu hX)⟩
    obtain ⟨g1, g2, hr⟩ := hr
    rcases hout with ⟨rfl, hS, hh9, p, h1, h2, ⟨g, e1, e2⟩, hcB⟩ | ⟨rfl, hS, hwB, hcB⟩ | ⟨rfl, hS, h1, hwB, hcB⟩
    · rcases hr with ⟨_, ⟨pp, x1, x2, z5, N2, z7, z8, z9, z10⟩, z6⟩ | ⟨z1, _⟩ | ⟨_, z1, _⟩
      · have ep : p = pp := nI_inj2 (by omega) (by omega) (h2.symm.trans x2)
        subst ep
        exact ⟨_, z5, yx_J.hd q2 zb q1 ⟨g, e1⟩ P hcB hmB g1 z6 z7 z9 z10 z8 g2, fun _ => ⟨g, (g2 _ (by omega) (by omega) (by omega) (by omega) (by omega) (by omega)).trans e1, e2⟩⟩
      · exact absurd hS z1
      · exact absurd hh9 z1
    · rcases hr with ⟨z1, _⟩ | ⟨_, z5, ⟨N2, g3, g4⟩, z6⟩ | ⟨z1, _⟩
      · exact absurd z1 hS
      · exact ⟨_, z5, yx_J.hd q2 zb q1 hwB P hcB hmB g1 z6 g3 (g4.1.trans m3) (g4.2.1.trans m4) g4.2.2 g2, fun q => absurd q (by decide)⟩
      · exact absurd z1 hS
    · rcases hr with ⟨_, ⟨pp, x1, x2, z5, N2, z7, z8, z9, z10⟩, z6⟩ | ⟨z1, _⟩ | ⟨_, _, z5, ⟨N2, g3, g4⟩, z6⟩
      · exact absurd ⟨pp, x1, x2⟩ h1
      · exact absurd hS z1
      · exact ⟨_, z5, yx_J.hd q2 zb q1 hwB P hcB hmB g1 z6 g3 (g4.1.trans m3) (g4.2.1.trans m4) g4.2.2 g2, fun q => absurd q (by decide)⟩
set_option maxRecDepth 100000 in
theorem a_judge {G : xx_G} {l : Launch} {A : xx_H} {z b i L cR sR : Nat} {xs : Nat → Int32} {Q : Option Value ⊕ String → xx_H → Prop} (I : yx_I A z b L xs) (hi : i + 6 ≤ L) (hL : L ≤ 3072) (K : ∀ C : xx_H, yx_I C z b L xs → xx_X G l mL_law 12 cR sR 1182 (xx_lv5 z b (b + 297) (b + 319) i) [] C Q) : xx_X G l mL_law 12 (cR + 14) (sR + 11400) 792 (xx_lv5 z b (b + 297) (b + 319) i) [] A Q := by
  obtain ⟨hz, zb, bA, ⟨gw, hw⟩, m, n, ra, rd, W, le, mu, ta, tb, th9, st, lb, li, s9, u, w9, P, ⟨u8, HC⟩, k0, tu, N, S9, HM⟩ := I
  have HC2 := HC
  have HM2 := HM
  obtain ⟨c1, ⟨fc, c2, c3⟩, c4, c5, c6, c7, c8, ⟨ft, c9, c10⟩, ⟨ht, c11, c12⟩, c13, ⟨hp, c14, c15⟩, c16, c17, c18, c19, ⟨X0, t0, V0, o0, c20⟩⟩ := HC2
  obtain ⟨p1, p2, p3, p4, p5, p6, p7, p8, ⟨E, p9, p10, p11⟩⟩ := id P
  have hm1 := p1.1
  have hm := p1.2.1
  have hn1 := p1.2.2.1
  have hn := p1.2.2.2.1
  obtain ⟨X, t, wq, w1, w2, tt, hX, hX0, hload, hpl⟩ := yx_source (G := G) (l := l) HC P c20 (xs (i + 1))
  have stB : st < 2 ^ 31 := by
    rcases p7 with h | ⟨_, q9, h, hq9⟩
    · omega
    · have := hq9.1
      omega
  have ecB : s9.1 < 2 ^ 31 := by
    have := p10.1
    omega
  have hmu := (yl_ok hm1 hm hn1 hn p2 p3).2
  have need : xx_X G l mX8_needSource 7 1 6 0 (lv_args 0 [.ref b, .int (xs (i + 1))]) [] A (xx_oe (ys_ok ta tb st s9.1 li (xs (i + 1))) R_ise A) := c_X8_needSource c1 c2 c3 hm1 hm c8 stB ecB
  have hKK : ∀ B C : xx_H, yx_mn B b u8 li m n W le → (∀ q, (q < b + 233 ∨ b + 297 ≤ q) → C.2 q = B.2 q) → yx_mn C b u8 li m n W le := fun B C h hq => h.to (fun q a => hq q (by omega))
  refine xx_room (d2 := 12) (c2 := 1 + (0 + cR)) (s2 := 6 + (0 + sR)) (by omega) (by omega) (by omega) ?_
  refine k_judge (d1 := 10) (c1 := 1) (s1 := 6) (d2 := 6) (c2 := 0) (s2 := 0) (P1 := fun k B => b + 320 ≤ B.1 ∧ B.2 z = xx_s L xs ∧ yx_m B (b + 297) m n ra rd W le mu ta tb th9 st lb li s9 u w9 (.int k0) tu N S9 ∧ ((k = 0 ∧ ys_ok ta tb st s9.1 li (xs (i + 1)) ∧ (∃ v : Int32, (((∀ p, p < 2 → ∀ k, k < 6 → 0 < X p k → Nat.testBit (ye_b (ye_v m n W X p) (yy_cn m n p - 1)) k = true) ∧ v = 1) ∨ (¬ (∀ p, p < 2 → ∀ k, k < 6 → 0 < X p k → Nat.testBit (ye_b (ye_v m n W X p) (yy_cn m n p - 1)) k = true) ∧ v = 0)) ∧ (∃ g, B.2 (b + 319) = xx_l 1 g ∧ g 0 = (if v = 0 then 0 else 1))) ∧ yx_c B b m n ra rd W le mu ta tb th9 st lb li s9 u w9 u8) ∨ (k = 1 ∧ ¬ ys_ok ta tb st s9.1 li (xs (i + 1)) ∧ (∃ g, B.2 (b + 319) = xx_l 1 g) ∧ yx_c B b m n ra rd W le mu ta tb th9 st lb li s9 u w9 u8))) (P2 := fun k v C => yx_J C z b L xs k ∧ (k = 0 → ∃ g, C.2 (b + 319) = xx_l 1 g ∧ g 0 = (if v = 0 then 0 else 1))) hi (by omega) (by decide) (by decide) hz (h_L_judge c1 (c_X8_judgeK (xp := 0) (S := ys_ok ta tb st s9.1 li (xs (i + 1))) (KK := fun B => yx_mn B b u8 li m n W le) (FR := (fun q => q < b + 234 ∨ (b + 266 ≤ q ∧ q < b + 320))) c1 c2 c3 hm1 hm hn1 hn need hload hKK (fun q h => Or.inl (by omega)) c6 (fun p hp => (hmu p hp).1) hX (fun q hq => ⟨Int.le_of_lt (tt q hq).1, (tt q hq).2⟩)) (fun r B hr => ?_)) ?_ (fun k v C hC => ⟨hC.1.1, hC.2, K C hC.1.2⟩)
  · rcases hr with ⟨hS, V2, o2, h4, h5, h6, h7, hv9⟩ | ⟨h1, h2, h3, eB⟩
    · have hv8 : ∃ v : Int32, (((∀ p, p < 2 → ∀ k, k < 6 → 0 < X p k → Nat.testBit (ye_b (ye_v m n W X p) (yy_cn m n p - 1)) k = true) ∧ v = 1) ∨ (¬ (∀ p, p < 2 → ∀ k, k < 6 → 0 < X p k → Nat.testBit (ye_b (ye_v m n W X p) (yy_cn m n p - 1)) k = true) ∧ v = 0)) ∧ r = .inl (some (.int v)) := by
        rcases hv9 with ⟨a1, a2⟩ | ⟨a1, a2⟩
        · exact ⟨1, Or.inl ⟨a1, rfl⟩, a2⟩
        · exact ⟨0, Or.inr ⟨a1, rfl⟩, a2⟩
      obtain ⟨v9, hv, hz5⟩ := hv8
      refine Or.inl ⟨_, hz5, gw, (h7 (b + 319) (Or.inr (by omega)) (Or.inr (by omega))).trans hw, fun C y1 y2 y3 => ?_⟩
      have fC : ∀ q, (q < b + 233 ∨ (b + 297 ≤ q ∧ q < b + 319)) → C.2 q = A.2 q := fun q a => (y3 q (by omega)).trans (h7 q (show q < b + 234 ∨ (b + 266 ≤ q ∧ q < b + 320) by omega) (by omega))
      exact ⟨by omega, (fC z (by omega)).trans hz, HM.fr (fun q a1 a2 => fC q (by omega)), Or.inl ⟨rfl, hS, ⟨_, hv, ⟨_, y2, rfl⟩⟩, HC.wk (fun q a1 a2 => fC q (by omega)) (h6.to (fun q a => y3 q (by omega))) (h5.to (fun q a1 a2 => y3 q (by omega)))⟩⟩
    · exact Or.inr ⟨h2, ⟨by omega, by rw [eB]; exact hz, HM.fr (fun q _ _ => by rw [eB]), Or.inr ⟨rfl, h1, ⟨gw, by rw [eB]; exact hw⟩, HC.to (fun q _ _ => by rw [eB]) (fun q _ => by rw [eB])⟩⟩⟩
  · rintro k B ⟨q1, q2, hmB, hout⟩
    obtain ⟨m1, m2, m3, m4, m5, m6, m7, m8, m9, m10, ⟨f12, m11⟩, m12, ⟨g19, m13⟩, ⟨g20, m14⟩, m15, ⟨g21, m16⟩⟩ := id hmB
    refine ⟨q2, ⟨_, m1⟩, xx_mono (fun r C hr => ?_) (c_X9_judge m1 hm1 hm hn1 hn (hpl B _ _ N S9 hmB) w1 w2 m7 hmu hX hX0)⟩
    obtain ⟨g1, ⟨N2, g3, g4⟩, g2, hr⟩ := hr
    rcases hout with ⟨rfl, hS, ⟨v9, hv, ⟨g, e1, e2⟩⟩, hcB⟩ | ⟨rfl, hS, hwB, hcB⟩
    · rcases hr with ⟨_, hz5, z6⟩ | ⟨z1, _⟩
      · have hJ : yx_J C z b L xs 0 := yx_J.hd q2 zb q1 ⟨g, e1⟩ P hcB hmB g1 z6 g3 (g4.1.trans m3) (g4.2.1.trans m4) g4.2.2 g2
        rcases hz5 with ⟨a1, z5⟩ | ⟨a1, z5⟩
        · rcases hv with ⟨_, rfl⟩ | ⟨a2, _⟩
          · exact ⟨_, z5, hJ, fun _ => ⟨g, (g2 _ (by omega) (by omega) (by omega) (by omega) (by omega) (by omega)).trans e1, e2⟩⟩
          · exact absurd a1 a2
        · rcases hv with ⟨a2, _⟩ | ⟨_, rfl⟩
          · exact absurd a2 a1
          · exact ⟨_, z5, hJ, fun _ => ⟨g, (g2 _ (by omega) (by omega) (by omega) (by omega) (by omega) (by omega)).trans e1, e2⟩⟩
      · exact absurd hS z1
    · rcases hr with ⟨z1, _⟩ | ⟨_, z5, z6⟩
      · exact absurd z1 hS
      · exact ⟨_, z5, yx_J.hd q2 zb q1 hwB P hcB hmB g1 z6 g3 (g4.1.trans m3) (g4.2.1.trans m4) g4.2.2 g2, fun q => absurd q (by decide)⟩
