/-! ===== list, index in a game ===== -/
set_option maxRecDepth 100000 in
theorem a_list1 {G : xx_G} {l : Launch} {A : xx_H} {z b i L cR sR : Nat} {xs : Nat → Int32} {Q : Option Value ⊕ String → xx_H → Prop} (I : yx_I A z b L xs) (hi : i + 6 ≤ L) (hL : L ≤ 3072) (K : ∀ C : xx_H, yx_I C z b L xs → xx_X G l mL_law 12 cR sR 1182 (xx_lv5 z b (b + 297) (b + 319) i) [] C Q) (hli : ∃ m n ra rd W le mu ta tb th9 st lb s9 u w9, yx_p m n ra rd W le mu ta tb th9 st lb true s9 ∧ (∃ u8, yx_c A b m n ra rd W le mu ta tb th9 st lb true s9 u w9 u8) ∧ ∃ (k : Int32) (tu : Value) (N : Nat → Int) (S9 : Nat → Bool), yx_m A (b + 297) m n ra rd W le mu ta tb th9 st lb true s9 u w9 (.int k) tu N S9) : xx_X G l mL_law 12 (cR + 14) (sR + 11400) 452 (xx_lv5 z b (b + 297) (b + 319) i) [] A Q := by
  obtain ⟨hz, zb, bA, ⟨gw, hw⟩, _⟩ := I
  obtain ⟨m, n, ra, rd, W, le, mu, ta, tb, th9, st, lb, s9, u, w9, P, ⟨u8, HC⟩, k0, tu, N, S9, HM⟩ := hli
  have HC2 := HC
  have HM2 := HM
  obtain ⟨c1, ⟨fc, c2, c3⟩, c4, c5, c6, c7, c8, ⟨ft, c9, c10⟩, ⟨ht, c11, c12⟩, c13, ⟨hp, c14, c15⟩, c16, c17, c18, c19, ⟨X0, t0, V0, o0, c20⟩⟩ := HC2
  obtain ⟨p1, p2, p3, p4, p5, p6, p7, p8, ⟨E, p9, p10, p11⟩⟩ := id P
  have hm1 := p1.1
  have hm := p1.2.1
  have hn1 := p1.2.2.1
  have hn := p1.2.2.2.1
  have c1b : A.2 b = xx_o 8 [.ref (b + 1), .ref (b + 2), .ref (b + 11), .ref (b + 18), .ref (b + 19), .ref (b + 226), .int (nI st), .int (if st = 0 then -1 else nI lb), u8, .ref (b + 230), .int (nI s9.1), .int 1, .ref (b + 233), .ref (b + 266), .ref (b + 279), .ref (b + 281), .ref (b + 283), .ref (b + 288)] := c1
  refine xx_room (d2 := 12) (c2 := 0 + (0 + cR)) (s2 := 0 + (0 + sR)) (by omega) (by omega) (by omega) ?_
  refine k_list (d1 := 8) (c1 := 0) (s1 := 0) (d2 := 7) (c2 := 0) (s2 := 0) (P1 := fun k B => b + 320 ≤ B.1 ∧ B.2 z = xx_s L xs ∧ yx_m B (b + 297) m n ra rd W le mu ta tb th9 st lb true s9 u w9 (.int k0) tu N S9 ∧ (k = 0 ∧ (∃ g, B.2 (b + 319) = xx_l 1 g ∧ g 0 = (nI s9.1).toInt64) ∧ yx_c B b m n ra rd W le mu ta tb th9 st lb true s9 u w9 u8)) (P2 := fun k v C => yx_J C z b L xs k ∧ (k = 0 → ∃ g, C.2 (b + 319) = xx_l 1 g ∧ g 0 = v.toInt64)) hi (by omega) (by decide) (by decide) hz (h_L_list c1 (c_X8_list1 c1b c2 c3 hm1 hm) (fun r B hr => ?_)) ?_ (fun k v C hC => ⟨hC.1.1, hC.2, K C hC.1.2⟩)
  · obtain ⟨h5, e⟩ := hr
    subst e
    exact Or.inl ⟨_, h5, gw, hw, fun C y1 y2 y3 => ⟨by omega, (y3 z (by omega)).trans hz, HM.fr (fun q a1 a2 => y3 q (by omega)), ⟨rfl, ⟨_, y2, rfl⟩, HC.to (fun q a1 a2 => y3 q (by omega)) (fun q a1 => y3 q (by omega))⟩⟩⟩
  · rintro k B ⟨q1, q2, hmB, rfl, ⟨g, e1, e2⟩, hcB⟩
    obtain ⟨m1, m2, m3, m4, m5, m6, m7, m8, m9, m10, ⟨f12, m11⟩, m12, ⟨g19, m13⟩, ⟨g20, m14⟩, m15, ⟨g21, m16⟩⟩ := id hmB
    obtain ⟨fs9, m15a, _⟩ := id m15
    refine ⟨q2, ⟨_, m1⟩, xx_mono (fun r C hr => ?_) (c_X9_list (E := E) m1 m2 p1 m7 (fun S hS U hU hc => p9 S U) m13 m14 m15a)⟩
    obtain ⟨z5, g1, ⟨tu2, z6⟩, ⟨g7, z7⟩, ⟨g8, z8⟩, z9, ⟨N2, z10, z11, z12⟩, g2⟩ := hr
    have fC : ∀ q, q ≠ b + 297 → q ≠ b + 297 + 1 → q ≠ b + 297 + 2 → q ≠ b + 297 + 3 → q ≠ b + 297 + 11 → q ≠ b + 297 + 17 → q ≠ b + 297 + 18 → q ≠ b + 297 + 19 → q ≠ b + 297 + 20 → C.2 q = B.2 q := g2
    have h16 : N2 16 = u := (z12 16 (by omega) (by omega) (by omega) (by omega) (by omega) (by omega) (by omega) (by omega) (by omega)).trans m3
    have h17 : N2 17 = w9 := (z12 17 (by omega) (by omega) (by omega) (by omega) (by omega) (by omega) (by omega) (by omega) (by omega)).trans m4
    rw [← p11 rfl] at z5 z6 z9 z11
    exact ⟨_, z5, yx_J.mk ((fC z (by omega) (by omega) (by omega) (by omega) (by omega) (by omega) (by omega) (by omega) (by omega)).trans q2) zb (by omega) ⟨g, (fC _ (by omega) (by omega) (by omega) (by omega) (by omega) (by omega) (by omega) (by omega) (by omega)).trans e1⟩ P (hcB.to (fun q a1 a2 => fC q (by omega) (by omega) (by omega) (by omega) (by omega) (by omega) (by omega) (by omega) (by omega)) (fun q a1 => fC q (by omega) (by omega) (by omega) (by omega) (by omega) (by omega) (by omega) (by omega) (by omega))) ⟨z6, z10, h16, h17, fun s0 p hp => ⟨fun j hj => (z12 _ (by omega) (by omega) (by omega) (by omega) (by omega) (by omega) (by omega) (by omega) (by omega)).trans ((m5 s0 p hp).1 j hj), (z12 _ (by omega) (by omega) (by omega) (by omega) (by omega) (by omega) (by omega) (by omega) (by omega)).trans (m5 s0 p hp).2⟩, z11, m7.to (fC _ (by omega) (by omega) (by omega) (by omega) (by omega) (by omega) (by omega) (by omega) (by omega)) (fC _ (by omega) (by omega) (by omega) (by omega) (by omega) (by omega) (by omega) (by omega) (by omega)) (fC _ (by omega) (by omega) (by omega) (by omega) (by omega) (by omega) (by omega) (by omega) (by omega)), m8.to (fC _ (by omega) (by omega) (by omega) (by omega) (by omega) (by omega) (by omega) (by omega) (by omega)) (fC _ (by omega) (by omega) (by omega) (by omega) (by omega) (by omega) (by omega) (by omega) (by omega)), m9.to (fC _ (by omega) (by omega) (by omega) (by omega) (by omega) (by omega) (by omega) (by omega) (by omega)) (fC _ (by omega) (by omega) (by omega) (by omega) (by omega) (by omega) (by omega) (by omega) (by omega)), m10.to (fC _ (by omega) (by omega) (by omega) (by omega) (by omega) (by omega) (by omega) (by omega) (by omega)), ⟨f12, (fC _ (by omega) (by omega) (by omega) (by omega) (by omega) (by omega) (by omega) (by omega) (by omega)).trans m11⟩, m12.to (fun q a d => (fC q (by omega) (by omega) (by omega) (by omega) (by omega) (by omega) (by omega) (by omega) (by omega))), ⟨g7, z7⟩, ⟨g8, z8⟩, z9, g21, (fC _ (by omega) (by omega) (by omega) (by omega) (by omega) (by omega) (by omega) (by omega) (by omega)).trans m16⟩, fun _ => ⟨g, (fC _ (by omega) (by omega) (by omega) (by omega) (by omega) (by omega) (by omega) (by omega) (by omega)).trans e1, e2⟩⟩
set_option maxRecDepth 100000 in
theorem a_list0 {G : xx_G} {l : Launch} {A : xx_H} {z b i L cR sR : Nat} {xs : Nat → Int32} {Q : Option Value ⊕ String → xx_H → Prop} (I : yx_I A z b L xs) (hi : i + 6 ≤ L) (hL : L ≤ 3072) (K : ∀ C : xx_H, yx_I C z b L xs → xx_X G l mL_law 12 cR sR 1182 (xx_lv5 z b (b + 297) (b + 319) i) [] C Q) (hli : ∃ m n ra rd W le mu ta tb th9 st lb s9 u w9, yx_p m n ra rd W le mu ta tb th9 st lb false s9 ∧ (∃ u8, yx_c A b m n ra rd W le mu ta tb th9 st lb false s9 u w9 u8) ∧ ∃ (k : Int32) (tu : Value) (N : Nat → Int) (S9 : Nat → Bool), yx_m A (b + 297) m n ra rd W le mu ta tb th9 st lb false s9 u w9 (.int k) tu N S9) : xx_X G l mL_law 12 (cR + 14) (sR + 11400) 452 (xx_lv5 z b (b + 297) (b + 319) i) [] A Q := by
  obtain ⟨hz, zb, bA, ⟨gw, hw⟩, _⟩ := I
  obtain ⟨m, n, ra, rd, W, le, mu, ta, tb, th9, st, lb, s9, u, w9, P, ⟨u8, HC⟩, k0, tu, N, S9, HM⟩ := hli
  have HC2 := HC
  have HM2 := HM
  obtain ⟨c1, ⟨fc, c2, c3⟩, c4, c5, c6, c7, c8, ⟨ft, c9, c10⟩, ⟨ht, c11, c12⟩, c13, ⟨hp, c14, c15⟩, c16, c17, c18, c19, ⟨X0, t0, V0, o0, c20⟩⟩ := HC2
  obtain ⟨p1, p2, p3, p4, p5, p6, p7, p8, ⟨E, p9, p10, p11⟩⟩ := id P
  have hm1 := p1.1
  have hm := p1.2.1
  have hn1 := p1.2.2.1
  have hn := p1.2.2.2.1
  have key : xx_X G l mX8_list 7 13 11326 0 (lv_args 0 [.ref b]) [] A (fun r B => r = .inl (some (.int (nI (yn_all E m n yn_0 (if n < m then n else m)).1))) ∧ A.1 ≤ B.1 ∧ (∃ zm, b + 320 ≤ zm ∧ B.2 b = xx_o 8 [.ref (b + 1), .ref (b + 2), .ref (b + 11), .ref (b + 18), .ref (b + 19), .ref (b + 226), .int (nI st), .int (if st = 0 then -1 else nI lb), .ref zm, .ref (b + 230), .int (nI (yn_all E m n yn_0 (if n < m then n else m)).1), .int 1, .ref (b + 233), .ref (b + 266), .ref (b + 279), .ref (b + 281), .ref (b + 283), .ref (b + 288)] ∧ xx_mns B zm b (yk_H (yn_a W le 0) m n) (yk_H (yn_a W le 1) n m)) ∧ xx_ent B b (yn_all E m n yn_0 (if n < m then n else m)) ∧ ∀ q, q ≠ b → q ≠ b + 231 → q ≠ b + 232 → q < b + 320 → B.2 q = A.2 q) := by
    rcases c19 with ⟨e0, _⟩ | ⟨zm, e0, e2, e3, e4⟩
    · subst e0
      have c1b : A.2 b = xx_o 8 [.ref (b + 1), .ref (b + 2), .ref (b + 11), .ref (b + 18), .ref (b + 19), .ref (b + 226), .int (nI st), .int (if st = 0 then -1 else nI lb), .null, .ref (b + 230), .int (nI s9.1), .int 0, .ref (b + 233), .ref (b + 266), .ref (b + 279), .ref (b + 281), .ref (b + 283), .ref (b + 288)] := c1
      refine xx_mono (fun r B hr => ?_) (c_X8_listN c1b c2 c3 p1 c6 (by omega) (fun S hS U hU hc => p9 S U) c18.mo)
      obtain ⟨h1, h2, h3, h4, h5, h6⟩ := hr
      exact ⟨h1, by omega, ⟨A.1, by omega, h3, h4⟩, h5, fun q a1 a2 a3 a4 => h6 q a1 a2 a3 (by omega)⟩
    · subst e0
      have c1b : A.2 b = xx_o 8 [.ref (b + 1), .ref (b + 2), .ref (b + 11), .ref (b + 18), .ref (b + 19), .ref (b + 226), .int (nI st), .int (if st = 0 then -1 else nI lb), .ref zm, .ref (b + 230), .int (nI s9.1), .int 0, .ref (b + 233), .ref (b + 266), .ref (b + 279), .ref (b + 281), .ref (b + 283), .ref (b + 288)] := c1
      refine xx_mono (fun r B hr => ?_) (c_X8_list c1b c2 c3 p1 c6 (by omega) (fun S hS U hU hc => p9 S U) e3 c18.mo)
      obtain ⟨h1, h2, h3, h4, h5, h6⟩ := hr
      exact ⟨h1, by omega, ⟨zm, e2, h3, h4⟩, h5, fun q a1 a2 a3 a4 => h6 q a1 a2 a3 (by omega)⟩
  refine xx_room (d2 := 12) (c2 := 13 + (0 + cR)) (s2 := 11326 + (0 + sR)) (by omega) (by omega) (by omega) ?_
  refine k_list (d1 := 8) (c1 := 13) (s1 := 11326) (d2 := 7) (c2 := 0) (s2 := 0) (P1 := fun k B => b + 320 ≤ B.1 ∧ B.2 z = xx_s L xs ∧ yx_m B (b + 297) m n ra rd W le mu ta tb th9 st lb false s9 u w9 (.int k0) tu N S9 ∧ (k = 0 ∧ (∃ g, B.2 (b + 319) = xx_l 1 g ∧ g 0 = (nI (yn_all E m n yn_0 (if n < m then n else m)).1).toInt64) ∧ ∃ u9, yx_c B b m n ra rd W le mu ta tb th9 st lb true (yn_all E m n yn_0 (if n < m then n else m)) u w9 u9)) (P2 := fun k v C => yx_J C z b L xs k ∧ (k = 0 → ∃ g, C.2 (b + 319) = xx_l 1 g ∧ g 0 = v.toInt64)) hi (by omega) (by decide) (by decide) hz (h_L_list c1 (key) (fun r B hr => ?_)) ?_ (fun k v C hC => ⟨hC.1.1, hC.2, K C hC.1.2⟩)
  · obtain ⟨h1, h2, ⟨zm, h3, h4, h5⟩, h6, h7⟩ := hr
    refine Or.inl ⟨_, h1, gw, (h7 _ (by omega) (by omega) (by omega) (by omega)).trans hw, fun C y1 y2 y3 => ?_⟩
    have fC : ∀ q, q ≠ b → q ≠ b + 231 → q ≠ b + 232 → q < b + 319 → C.2 q = A.2 q := fun q a1 a2 a3 a4 => (y3 q (by omega)).trans (h7 q a1 a2 a3 (by omega))
    exact ⟨by omega, (fC z (by omega) (by omega) (by omega) (by omega)).trans hz, HM.fr (fun q a1 a2 => fC q (by omega) (by omega) (by omega) (by omega)), rfl, ⟨_, y2, rfl⟩, .ref zm, ⟨(y3 b (by omega)).trans h4, ⟨fc, (fC _ (by omega) (by omega) (by omega) (by omega)).trans c2, c3⟩, (fC _ (by omega) (by omega) (by omega) (by omega)).trans c4, (fC _ (by omega) (by omega) (by omega) (by omega)).trans c5, c6.to (fun q a d => (fC q (by omega) (by omega) (by omega) (by omega))), c7.to (fun q a d => (fC q (by omega) (by omega) (by omega) (by omega))), c8.to (fun q a d => (fC q (by omega) (by omega) (by omega) (by omega))), ⟨ft, (fC _ (by omega) (by omega) (by omega) (by omega)).trans c9, c10⟩, ⟨ht, (fC _ (by omega) (by omega) (by omega) (by omega)).trans c11, c12⟩, fun t ht9 => (c13 t ht9).to (fun q a d => fC q (by have := yt_tb (b := b) ht9; omega) (by have := yt_tb (b := b) ht9; omega) (by have := yt_tb (b := b) ht9; omega) (by have := yt_tb (b := b) ht9; omega)), ⟨hp, (fC _ (by omega) (by omega) (by omega) (by omega)).trans c14, c15⟩, c16.to (fun q a d => (fC q (by omega) (by omega) (by omega) (by omega))), fun s0 t ht9 => (c17 s0 t ht9).to (fun q a d => fC q (by have := yt_tb (b := b) ht9; omega) (by have := yt_tb (b := b) ht9; omega) (by have := yt_tb (b := b) ht9; omega) (by have := yt_tb (b := b) ht9; omega)), h6.to (fun q a d => y3 q (by omega)), Or.inr ⟨zm, rfl, h3, h5.mo.to (fun q a d => y3 q (by omega)), fun _ => h5.to (fun q a d => y3 q (by omega))⟩, X0, t0, V0, o0, c20.to (fun q a d => (fC q (by omega) (by omega) (by omega) (by omega)))⟩⟩
  · rintro k B ⟨q1, q2, hmB, rfl, ⟨g, e1, e2⟩, u9, hcB⟩
    obtain ⟨m1, m2, m3, m4, m5, m6, m7, m8, m9, m10, ⟨f12, m11⟩, m12, ⟨g19, m13⟩, ⟨g20, m14⟩, m15, ⟨g21, m16⟩⟩ := id hmB
    obtain ⟨fs9, m15a, _⟩ := id m15
    refine ⟨q2, ⟨_, m1⟩, xx_mono (fun r C hr => ?_) (c_X9_list (E := E) m1 m2 p1 m7 (fun S hS U hU hc => p9 S U) m13 m14 m15a)⟩
    obtain ⟨z5, g1, ⟨tu2, z6⟩, ⟨g7, z7⟩, ⟨g8, z8⟩, z9, ⟨N2, z10, z11, z12⟩, g2⟩ := hr
    have fC : ∀ q, q ≠ b + 297 → q ≠ b + 297 + 1 → q ≠ b + 297 + 2 → q ≠ b + 297 + 3 → q ≠ b + 297 + 11 → q ≠ b + 297 + 17 → q ≠ b + 297 + 18 → q ≠ b + 297 + 19 → q ≠ b + 297 + 20 → C.2 q = B.2 q := g2
    have h16 : N2 16 = u := (z12 16 (by omega) (by omega) (by omega) (by omega) (by omega) (by omega) (by omega) (by omega) (by omega)).trans m3
    have h17 : N2 17 = w9 := (z12 17 (by omega) (by omega) (by omega) (by omega) (by omega) (by omega) (by omega) (by omega) (by omega)).trans m4
    exact ⟨_, z5, yx_J.mk ((fC z (by omega) (by omega) (by omega) (by omega) (by omega) (by omega) (by omega) (by omega) (by omega)).trans q2) zb (by omega) ⟨g, (fC _ (by omega) (by omega) (by omega) (by omega) (by omega) (by omega) (by omega) (by omega) (by omega)).trans e1⟩ ⟨p1, p2, p3, p4, p5, p6, p7, fun q => absurd q (by decide), E, p9, yn_all_ok yn_0_ok _, fun _ => rfl⟩ (hcB.to (fun q a1 a2 => fC q (by omega) (by omega) (by omega) (by omega) (by omega) (by omega) (by omega) (by omega) (by omega)) (fun q a1 => fC q (by omega) (by omega) (by omega) (by omega) (by omega) (by omega) (by omega) (by omega) (by omega))) ⟨z6, z10, h16, h17, fun s0 p hp => ⟨fun j hj => (z12 _ (by omega) (by omega) (by omega) (by omega) (by omega) (by omega) (by omega) (by omega) (by omega)).trans ((m5 s0 p hp).1 j hj), (z12 _ (by omega) (by omega) (by omega) (by omega) (by omega) (by omega) (by omega) (by omega) (by omega)).trans (m5 s0 p hp).2⟩, z11, m7.to (fC _ (by omega) (by omega) (by omega) (by omega) (by omega) (by omega) (by omega) (by omega) (by omega)) (fC _ (by omega) (by omega) (by omega) (by omega) (by omega) (by omega) (by omega) (by omega) (by omega)) (fC _ (by omega) (by omega) (by omega) (by omega) (by omega) (by omega) (by omega) (by omega) (by omega)), m8.to (fC _ (by omega) (by omega) (by omega) (by omega) (by omega) (by omega) (by omega) (by omega) (by omega)) (fC _ (by omega) (by omega) (by omega) (by omega) (by omega) (by omega) (by omega) (by omega) (by omega)), m9.to (fC _ (by omega) (by omega) (by omega) (by omega) (by omega) (by omega) (by omega) (by omega) (by omega)) (fC _ (by omega) (by omega) (by omega) (by omega) (by omega) (by omega) (by omega) (by omega) (by omega)), m10.to (fC _ (by omega) (by omega) (by omega) (by omega) (by omega) (by omega) (by omega) (by omega) (by omega)), ⟨f12, (fC _ (by omega) (by omega) (by omega) (by omega) (by omega) (by omega) (by omega) (by omega) (by omega)).trans m11⟩, m12.to (fun q a d => (fC q (by omega) (by omega) (by omega) (by omega) (by omega) (by omega) (by omega) (by omega) (by omega))), ⟨g7, z7⟩, ⟨g8, z8⟩, z9, g21, (fC _ (by omega) (by omega) (by omega) (by omega) (by omega) (by omega) (by omega) (by omega) (by omega)).trans m16⟩, fun _ => ⟨g, (fC _ (by omega) (by omega) (by omega) (by omega) (by omega) (by omega) (by omega) (by omega) (by omega)).trans e1, e2⟩⟩
theorem a_list {G : xx_G} {l : Launch} {A : xx_H} {z b i L cR sR : Nat} {xs : Nat → Int32} {Q : Option Value ⊕ String → xx_H → Prop} (I : yx_I A z b L xs) (hi : i + 6 ≤ L) (hL : L ≤ 3072) (K : ∀ C : xx_H, yx_I C z b L xs → xx_X G l mL_law 12 cR sR 1182 (xx_lv5 z b (b + 297) (b + 319) i) [] C Q) : xx_X G l mL_law 12 (cR + 14) (sR + 11400) 452 (xx_lv5 z b (b + 297) (b + 319) i) [] A Q := by
  obtain ⟨hz, zb, bA, hw, m, n, ra, rd, W, le, mu, ta, tb, th9, st, lb, li, s9, u, w9, P, ⟨u8, HC⟩, k0, tu, N, S9, HM⟩ := id I
  cases li
  · exact a_list0 I hi hL K ⟨m, n, ra, rd, W, le, mu, ta, tb, th9, st, lb, s9, u, w9, P, ⟨u8, HC⟩, k0, tu, N, S9, HM⟩
  · exact a_list1 I hi hL K ⟨m, n, ra, rd, W, le, mu, ta, tb, th9, st, lb, s9, u, w9, P, ⟨u8, HC⟩, k0, tu, N, S9, HM⟩
set_option maxRecDepth 100000 in
theorem a_index0 {G : xx_G} {l : Launch} {A : xx_H} {z b i L cR sR : Nat} {xs : Nat → Int32} {Q : Option Value ⊕ String → xx_H → Prop} (I : yx_I A z b L xs) (hi : i + 6 ≤ L) (hL : L ≤ 3072) (K : ∀ C : xx_H, yx_I C z b L xs → xx_X G l mL_law 12 cR sR 1182 (xx_lv5 z b (b + 297) (b + 319) i) [] C Q) (hli : ∃ m n ra rd W le mu ta tb th9 st lb s9 u w9, yx_p m n ra rd W le mu ta tb th9 st lb false s9 ∧ (∃ u8, yx_c A b m n ra rd W le mu ta tb th9 st lb false s9 u w9 u8) ∧ ∃ (k : Int32) (tu : Value) (N : Nat → Int) (S9 : Nat → Bool), yx_m A (b + 297) m n ra rd W le mu ta tb th9 st lb false s9 u w9 (.int k) tu N S9) : xx_X G l mL_law 12 (cR + 14) (sR + 11400) 855 (xx_lv5 z b (b + 297) (b + 319) i) [] A Q := by
  obtain ⟨hz, zb, bA, ⟨gw, hw⟩, _⟩ := I
  obtain ⟨m, n, ra, rd, W, le, mu, ta, tb, th9, st, lb, s9, u, w9, P, ⟨u8, HC⟩, k0, tu, N, S9, HM⟩ := hli
  have HC2 := HC
  have HM2 := HM
  obtain ⟨c1, ⟨fc, c2, c3⟩, c4, c5, c6, c7, c8, ⟨ft, c9, c10⟩, ⟨ht, c11, c12⟩, c13, ⟨hp, c14, c15⟩, c16, c17, c18, c19, ⟨X0, t0, V0, o0, c20⟩⟩ := HC2
  obtain ⟨p1, p2, p3, p4, p5, p6, p7, p8, ⟨E, p9, p10, p11⟩⟩ := id P
  have hm1 := p1.1
  have hm := p1.2.1
  have hn1 := p1.2.2.1
  have hn := p1.2.2.2.1
  have c1b : A.2 b = xx_o 8 [.ref (b + 1), .ref (b + 2), .ref (b + 11), .ref (b + 18), .ref (b + 19), .ref (b + 226), .int (nI st), .int (if st = 0 then -1 else nI lb), u8, .ref (b + 230), .int (nI s9.1), .int 0, .ref (b + 233), .ref (b + 266), .ref (b + 279), .ref (b + 281), .ref (b + 283), .ref (b + 288)] := c1
  refine xx_room (d2 := 12) (c2 := 1 + (0 + cR)) (s2 := 6 + (0 + sR)) (by omega) (by omega) (by omega) ?_
  refine k_index (d1 := 7) (c1 := 1) (s1 := 6) (d2 := 1) (c2 := 0) (s2 := 0) (P1 := fun k B => b + 320 ≤ B.1 ∧ B.2 z = xx_s L xs ∧ yx_m B (b + 297) m n ra rd W le mu ta tb th9 st lb false s9 u w9 (.int k0) tu N S9 ∧ (k = 1 ∧ (∃ g, B.2 (b + 319) = xx_l 1 g) ∧ yx_c B b m n ra rd W le mu ta tb th9 st lb false s9 u w9 u8)) (P2 := fun k v C => yx_J C z b L xs k ∧ (k = 0 → ∃ g, C.2 (b + 319) = xx_l 1 g ∧ g 0 = v.toInt64)) hi (by omega) (by decide) (by decide) hz (h_L_index c1 (r_X8_index (f := fun _ => 0) c1b) (fun r B hr => ?_)) ?_ (fun k v C hC => ⟨hC.1.1, hC.2, K C hC.1.2⟩)
  · obtain ⟨h2, h3, eB⟩ := hr
    exact Or.inr ⟨h2, ⟨by omega, by rw [eB]; exact hz, HM.fr (fun q _ _ => by rw [eB]), ⟨rfl, ⟨gw, by rw [eB]; exact hw⟩, HC.to (fun q _ _ => by rw [eB]) (fun q _ => by rw [eB])⟩⟩⟩
  · rintro k B ⟨q1, q2, hmB, rfl, hwB, hcB⟩
    have m1b : B.2 (b + 297) = xx_o 9 (xx_mf (b + 297) (.int k0) (.int (nI m)) (.int (nI n)) (.int (if st = 0 then -1 else nI lb)) (.int (nI st)) (.int 0) (.int (nI s9.1)) tu) := hmB.1
    refine ⟨q2, ⟨_, m1b⟩, xx_mono (fun r C hr => ?_) (r_X9_index m1b)⟩
    obtain ⟨g0, g1, z6, g2⟩ := hr
    exact ⟨_, g0, yx_J.th q2 zb q1 hwB P hcB hmB g1 z6 g2, fun q => absurd q (by decide)⟩
set_option maxRecDepth 100000 in
theorem a_index1 {G : xx_G} {l : Launch} {A : xx_H} {z b i L cR sR : Nat} {xs : Nat → Int32} {Q : Option Value ⊕ String → xx_H → Prop} (I : yx_I A z b L xs) (hi : i + 6 ≤ L) (hL : L ≤ 3072) (K : ∀ C : xx_H, yx_I C z b L xs → xx_X G l mL_law 12 cR sR 1182 (xx_lv5 z b (b + 297) (b + 319) i) [] C Q) (hli : ∃ m n ra rd W le mu ta tb th9 st lb s9 u w9, yx_p m n ra rd W le mu ta tb th9 st lb true s9 ∧ (∃ u8, yx_c A b m n ra rd W le mu ta tb th9 st lb true s9 u w9 u8) ∧ ∃ (k : Int32) (tu : Value) (N : Nat → Int) (S9 : Nat → Bool), yx_m A (b + 297) m n ra rd W le mu ta tb th9 st lb true s9 u w9 (.int k) tu N S9) : xx_X G l mL_law 12 (cR + 14) (sR + 11400) 855 (xx_lv5 z b (b + 297) (b + 319) i) [] A Q := by
  obtain ⟨hz, zb, bA, ⟨gw, hw⟩, _⟩ := I
  obtain ⟨m, n, ra, rd, W, le, mu, ta, tb, th9, st, lb, s9, u, w9, P, ⟨u8, HC⟩, k0, tu, N, S9, HM⟩ := hli
  have HC2 := HC
  have HM2 := HM
  obtain ⟨c1, ⟨fc, c2, c3⟩, c4, c5, c6, c7, c8, ⟨ft, c9, c10⟩, ⟨ht, c11, c12⟩, c13, ⟨hp, c14, c15⟩, c16, c17, c18, c19, ⟨X0, t0, V0, o0, c20⟩⟩ := HC2
  obtain ⟨p1, p2, p3, p4, p5, p6, p7, p8, ⟨E, p9, p10, p11⟩⟩ := id P
  have hm1 := p1.1
  have hm := p1.2.1
  have hn1 := p1.2.2.1
  have hn := p1.2.2.2.1
  rcases id c19 with ⟨_, e0⟩ | ⟨zm, e0, ez, _, e4⟩
  · exact absurd e0 (by decide)
  subst e0
  have c1b : A.2 b = xx_o 8 [.ref (b + 1), .ref (b + 2), .ref (b + 11), .ref (b + 18), .ref (b + 19), .ref (b + 226), .int (nI st), .int (if st = 0 then -1 else nI lb), .ref zm, .ref (b + 230), .int (nI s9.1), .int 1, .ref (b + 233), .ref (b + 266), .ref (b + 279), .ref (b + 281), .ref (b + 283), .ref (b + 288)] := c1
  refine xx_room (d2 := 12) (c2 := 1 + (0 + cR)) (s2 := 6 + (0 + sR)) (by omega) (by omega) (by omega) ?_
  refine k_index (d1 := 7) (c1 := 1) (s1 := 6) (d2 := 6) (c2 := 0) (s2 := 0) (P1 := fun k B => b + 320 ≤ B.1 ∧ B.2 z = xx_s L xs ∧ yx_m B (b + 297) m n ra rd W le mu ta tb th9 st lb true s9 u w9 (.int k0) tu N S9 ∧ ((k = 0 ∧ ∃ e, e < s9.1 ∧ xs (i + 1) = nI e ∧ (∃ g, B.2 (b + 319) = xx_l 1 g ∧ g 0 = (iz (yn_ix (yn_a W le 0) (yn_a W le 1) (s9.2.1 e) (s9.2.2 e))).toInt64) ∧ yx_c B b m n ra rd W le mu ta tb th9 st lb true s9 u w9 (.ref zm)) ∨ (k = 1 ∧ (∀ e, e < s9.1 → xs (i + 1) ≠ nI e) ∧ (∃ g, B.2 (b + 319) = xx_l 1 g) ∧ yx_c B b m n ra rd W le mu ta tb th9 st lb true s9 u w9 (.ref zm)))) (P2 := fun k v C => yx_J C z b L xs k ∧ (k = 0 → ∃ g, C.2 (b + 319) = xx_l 1 g ∧ g 0 = v.toInt64)) hi (by omega) (by decide) (by decide) hz (h_L_index c1 (c_X8_index c1b p1 (e4 rfl) c18 p10) (fun r B hr => ?_)) ?_ (fun k v C hC => ⟨hC.1.1, hC.2, K C hC.1.2⟩)
  · rcases hr with ⟨e, h1, h2, h5, e9⟩ | ⟨h1, h2, h3, eB⟩
    · subst e9
      exact Or.inl ⟨_, h5, gw, hw, fun C y1 y2 y3 => ⟨by omega, (y3 z (by omega)).trans hz, HM.fr (fun q a1 a2 => y3 q (by omega)), Or.inl ⟨rfl, e, h1, h2, ⟨_, y2, rfl⟩, HC.to (fun q a1 a2 => y3 q (by omega)) (fun q a1 => y3 q (by omega))⟩⟩⟩
    · exact Or.inr ⟨h2, ⟨by omega, by rw [eB]; exact hz, HM.fr (fun q _ _ => by rw [eB]), Or.inr ⟨rfl, h1, ⟨gw, by rw [eB]; exact hw⟩, HC.to (fun q _ _ => by rw [eB]) (fun q _ => by rw [eB])⟩⟩⟩
  · rintro k B ⟨q1, q2, hmB, hout⟩
    obtain ⟨m1, m2, m3, m4, m5, m6, m7, m8, m9, m10, ⟨f12, m11⟩, m12, ⟨g19, m13⟩, ⟨g20, m14⟩, m15, ⟨g21, m16⟩⟩ := id hmB
    have m1b : B.2 (b + 297) = xx_o 9 (xx_mf (b + 297) (.int k0) (.int (nI m)) (.int (nI n)) (.int (if st = 0 then -1 else nI lb)) (.int (nI st)) (.int 1) (.int (nI s9.1)) tu) := m1
    rcases hout with ⟨rfl, e, h1, h2, ⟨g, e1, e2⟩, hcB⟩ | ⟨rfl, h1, hwB, hcB⟩
    · refine ⟨q2, ⟨_, m1⟩, ?_⟩
      rw [h2]
      refine xx_mono (fun r C hr => ?_) (c_X9_index m1b m2 p1 m7 m13 m14 m15 p10 h1)
      obtain ⟨z5, g1, ⟨tu2, z6⟩, ⟨g7, z7⟩, ⟨g8, z8⟩, ⟨N2, z9, z10⟩, g2⟩ := hr
      have fC : ∀ q, q ≠ b + 297 → q ≠ b + 297 + 1 → q ≠ b + 297 + 2 → q ≠ b + 297 + 3 → q ≠ b + 297 + 17 → q ≠ b + 297 + 18 → q ≠ b + 297 + 19 → q ≠ b + 297 + 20 → C.2 q = B.2 q := g2
      exact ⟨_, z5, yx_J.mk ((fC z (by omega) (by omega) (by omega) (by omega) (by omega) (by omega) (by omega) (by omega)).trans q2) zb (by omega) ⟨g, (fC _ (by omega) (by omega) (by omega) (by omega) (by omega) (by omega) (by omega) (by omega)).trans e1⟩ P (hcB.to (fun q a1 a2 => fC q (by omega) (by omega) (by omega) (by omega) (by omega) (by omega) (by omega) (by omega)) (fun q a1 => fC q (by omega) (by omega) (by omega) (by omega) (by omega) (by omega) (by omega) (by omega))) (hmB.to z6 z9 (z10 16 (by omega) (by omega) (by omega) (by omega)) (z10 17 (by omega) (by omega) (by omega) (by omega)) (fun q hq => z10 q (by omega) (by omega) (by omega) (by omega)) ⟨g7, z7⟩ ⟨g8, z8⟩ (fun q a1 a2 a3 a4 a5 a6 => fC q (by omega) (by omega) (by omega) (by omega) (by omega) (by omega) (by omega) (by omega))), fun _ => ⟨g, (fC _ (by omega) (by omega) (by omega) (by omega) (by omega) (by omega) (by omega) (by omega)).trans e1, e2⟩⟩
    · refine ⟨q2, ⟨_, m1⟩, xx_mono (fun r C hr => ?_) (c_X9_indexN m1b p10.1 h1)⟩
      obtain ⟨g0, g1, z6, g2⟩ := hr
      exact ⟨_, g0, yx_J.th q2 zb q1 hwB P hcB hmB g1 z6 g2, fun q => absurd q (by decide)⟩
theorem a_index {G : xx_G} {l : Launch} {A : xx_H} {z b i L cR sR : Nat} {xs : Nat → Int32} {Q : Option Value ⊕ String → xx_H → Prop} (I : yx_I A z b L xs) (hi : i + 6 ≤ L) (hL : L ≤ 3072) (K : ∀ C : xx_H, yx_I C z b L xs → xx_X G l mL_law 12 cR sR 1182 (xx_lv5 z b (b + 297) (b + 319) i) [] C Q) : xx_X G l mL_law 12 (cR + 14) (sR + 11400) 855 (xx_lv5 z b (b + 297) (b + 319) i) [] A Q := by
  obtain ⟨hz, zb, bA, hw, m, n, ra, rd, W, le, mu, ta, tb, th9, st, lb, li, s9, u, w9, P, ⟨u8, HC⟩, k0, tu, N, S9, HM⟩ := id I
  cases li
  · exact a_index0 I hi hL K ⟨m, n, ra, rd, W, le, mu, ta, tb, th9, st, lb, s9, u, w9, P, ⟨u8, HC⟩, k0, tu, N, S9, HM⟩
  · exact a_index1 I hi hL K ⟨m, n, ra, rd, W, le, mu, ta, tb, th9, st, lb, s9, u, w9, P, ⟨u8, HC⟩, k0, tu, N, S9, HM⟩
