/-! ===== told, sign, part in a game ===== -/
set_option maxRecDepth 100000 in
theorem a_told0 {G : xx_G} {l : Launch} {A : xx_H} {z b i L cR sR : Nat} {xs : Nat → Int32} {Q : Option Value ⊕ String → xx_H → Prop} (I : yx_I A z b L xs) (hi : i + 6 ≤ L) (hL : L ≤ 3072) (K : ∀ C : xx_H, yx_I C z b L xs → xx_X G l mL_law 12 cR sR 1182 (xx_lv5 z b (b + 297) (b + 319) i) [] C Q) (he : xs (i + 1) = 0) : xx_X G l mL_law 12 (cR + 14) (sR + 11400) 1126 (xx_lv5 z b (b + 297) (b + 319) i) [] A Q := by
  obtain ⟨hz, zb, bA, ⟨gw, hw⟩, m, n, ra, rd, W, le, mu, ta, tb, th9, st, lb, li, s9, u, w9, P, ⟨u8, HC⟩, k0, tu, N, S9, HM⟩ := I
  have HC2 := HC
  have HM2 := HM
  obtain ⟨c1, ⟨fc, c2, c3⟩, c4, c5, c6, c7, c8, ⟨ft, c9, c10⟩, ⟨ht, c11, c12⟩, c13, ⟨hp, c14, c15⟩, c16, c17, c18, c19, ⟨X0, t0, V0, o0, c20⟩⟩ := HC2
  obtain ⟨p1, p2, p3, p4, p5, p6, p7, p8, ⟨E, p9, p10, p11⟩⟩ := id P
  have hm1 := p1.1
  have hm := p1.2.1
  have hn1 := p1.2.2.1
  have hn := p1.2.2.2.1
  obtain ⟨⟨hpa, pa1, pa2⟩, po⟩ := id c6
  have po0 : xx_po A (b + 3) m n (mu 0) (le 0) (yo_w W 0) := po 0 (by decide)
  have po1 : xx_po A (b + 7) n m (mu 1) (le 1) (yo_w W 1) := po 1 (by decide)
  have ct : xx_X G l mX8_told 2 0 0 0 (lv_args 0 [.ref b, .int (xs (i + 1))]) [] A (fun r B => r = .inl (some (.int (nI m))) ∧ B = A) := by
    rw [he]
    exact xx_room (d2 := 0) (c2 := 0) (s2 := 0) (by decide) (by decide) (by decide) (xx_mono (fun r B h => ⟨h.1.trans (by rw [c3 0 (by decide)]; rfl), h.2⟩) (c_X8_told0 c1 c2 pa1 (pa2 0 (by decide)) (pa2 1 (by decide)) po0.1 po1.1))
  refine xx_room (d2 := 12) (c2 := 0 + (0 + cR)) (s2 := 0 + (0 + sR)) (by omega) (by omega) (by omega) ?_
  refine k_told (d1 := 3) (c1 := 0) (s1 := 0) (d2 := 1) (c2 := 0) (s2 := 0) (P1 := fun k B => b + 320 ≤ B.1 ∧ B.2 z = xx_s L xs ∧ yx_m B (b + 297) m n ra rd W le mu ta tb th9 st lb li s9 u w9 (.int k0) tu N S9 ∧ (k = 0 ∧ (∃ g, B.2 (b + 319) = xx_l 1 g ∧ g 0 = (nI m : Int32).toInt64) ∧ yx_c B b m n ra rd W le mu ta tb th9 st lb li s9 u w9 u8)) (P2 := fun k v C => yx_J C z b L xs k ∧ (k = 0 → ∃ g, C.2 (b + 319) = xx_l 1 g ∧ g 0 = v.toInt64)) hi (by omega) (by decide) (by decide) hz (h_L_told c1 (ct) (fun r B hr => ?_)) ?_ (fun k v C hC => ⟨hC.1.1, hC.2, K C hC.1.2⟩)
  · obtain ⟨h5, e⟩ := hr
    subst e
    exact Or.inl ⟨_, h5, gw, hw, fun C y1 y2 y3 => ⟨by omega, (y3 z (by omega)).trans hz, HM.fr (fun q a1 a2 => y3 q (by omega)), ⟨rfl, ⟨_, y2, rfl⟩, HC.to (fun q a1 a2 => y3 q (by omega)) (fun q a1 => y3 q (by omega))⟩⟩⟩
  · rintro k B ⟨q1, q2, hmB, rfl, ⟨g, e1, e2⟩, hcB⟩
    obtain ⟨m1, m2, m3, m4, m5, m6, m7, m8, m9, m10, ⟨f12, m11⟩, m12, ⟨g19, m13⟩, ⟨g20, m14⟩, m15, ⟨g21, m16⟩⟩ := id hmB
    obtain ⟨_, _, ⟨fm, f1, f2⟩, _⟩ := id m7
    refine ⟨q2, ⟨_, m1⟩, ?_⟩
    rw [he]
    refine xx_mono (fun r C hr => ?_) (c_X9_tl0 m1 f1 f2)
    obtain ⟨z5, g1, z6, g2⟩ := hr
    refine ⟨_, z5, yx_J.th q2 zb q1 ⟨g, e1⟩ P hcB hmB g1 z6 g2, fun _ => ⟨g, (g2 _ (by omega)).trans e1, ?_⟩⟩
    exact e2
set_option maxRecDepth 100000 in
theorem a_told1 {G : xx_G} {l : Launch} {A : xx_H} {z b i L cR sR : Nat} {xs : Nat → Int32} {Q : Option Value ⊕ String → xx_H → Prop} (I : yx_I A z b L xs) (hi : i + 6 ≤ L) (hL : L ≤ 3072) (K : ∀ C : xx_H, yx_I C z b L xs → xx_X G l mL_law 12 cR sR 1182 (xx_lv5 z b (b + 297) (b + 319) i) [] C Q) (he : xs (i + 1) = 1) : xx_X G l mL_law 12 (cR + 14) (sR + 11400) 1126 (xx_lv5 z b (b + 297) (b + 319) i) [] A Q := by
  obtain ⟨hz, zb, bA, ⟨gw, hw⟩, m, n, ra, rd, W, le, mu, ta, tb, th9, st, lb, li, s9, u, w9, P, ⟨u8, HC⟩, k0, tu, N, S9, HM⟩ := I
  have HC2 := HC
  have HM2 := HM
  obtain ⟨c1, ⟨fc, c2, c3⟩, c4, c5, c6, c7, c8, ⟨ft, c9, c10⟩, ⟨ht, c11, c12⟩, c13, ⟨hp, c14, c15⟩, c16, c17, c18, c19, ⟨X0, t0, V0, o0, c20⟩⟩ := HC2
  obtain ⟨p1, p2, p3, p4, p5, p6, p7, p8, ⟨E, p9, p10, p11⟩⟩ := id P
  have hm1 := p1.1
  have hm := p1.2.1
  have hn1 := p1.2.2.1
  have hn := p1.2.2.2.1
  obtain ⟨⟨hpa, pa1, pa2⟩, po⟩ := id c6
  have po0 : xx_po A (b + 3) m n (mu 0) (le 0) (yo_w W 0) := po 0 (by decide)
  have po1 : xx_po A (b + 7) n m (mu 1) (le 1) (yo_w W 1) := po 1 (by decide)
  have ct : xx_X G l mX8_told 2 0 0 0 (lv_args 0 [.ref b, .int (xs (i + 1))]) [] A (fun r B => r = .inl (some (.int (nI n))) ∧ B = A) := by
    rw [he]
    exact xx_room (d2 := 0) (c2 := 0) (s2 := 0) (by decide) (by decide) (by decide) (xx_mono (fun r B h => ⟨h.1.trans (by rw [c3 1 (by decide)]; rfl), h.2⟩) (c_X8_told1 c1 c2 pa1 (pa2 0 (by decide)) (pa2 1 (by decide)) po0.1 po1.1))
  refine xx_room (d2 := 12) (c2 := 0 + (0 + cR)) (s2 := 0 + (0 + sR)) (by omega) (by omega) (by omega) ?_
  refine k_told (d1 := 3) (c1 := 0) (s1 := 0) (d2 := 1) (c2 := 0) (s2 := 0) (P1 := fun k B => b + 320 ≤ B.1 ∧ B.2 z = xx_s L xs ∧ yx_m B (b + 297) m n ra rd W le mu ta tb th9 st lb li s9 u w9 (.int k0) tu N S9 ∧ (k = 0 ∧ (∃ g, B.2 (b + 319) = xx_l 1 g ∧ g 0 = (nI n : Int32).toInt64) ∧ yx_c B b m n ra rd W le mu ta tb th9 st lb li s9 u w9 u8)) (P2 := fun k v C => yx_J C z b L xs k ∧ (k = 0 → ∃ g, C.2 (b + 319) = xx_l 1 g ∧ g 0 = v.toInt64)) hi (by omega) (by decide) (by decide) hz (h_L_told c1 (ct) (fun r B hr => ?_)) ?_ (fun k v C hC => ⟨hC.1.1, hC.2, K C hC.1.2⟩)
  · obtain ⟨h5, e⟩ := hr
    subst e
    exact Or.inl ⟨_, h5, gw, hw, fun C y1 y2 y3 => ⟨by omega, (y3 z (by omega)).trans hz, HM.fr (fun q a1 a2 => y3 q (by omega)), ⟨rfl, ⟨_, y2, rfl⟩, HC.to (fun q a1 a2 => y3 q (by omega)) (fun q a1 => y3 q (by omega))⟩⟩⟩
  · rintro k B ⟨q1, q2, hmB, rfl, ⟨g, e1, e2⟩, hcB⟩
    obtain ⟨m1, m2, m3, m4, m5, m6, m7, m8, m9, m10, ⟨f12, m11⟩, m12, ⟨g19, m13⟩, ⟨g20, m14⟩, m15, ⟨g21, m16⟩⟩ := id hmB
    obtain ⟨_, _, ⟨fm, f1, f2⟩, _⟩ := id m7
    refine ⟨q2, ⟨_, m1⟩, ?_⟩
    rw [he]
    refine xx_mono (fun r C hr => ?_) (c_X9_tl1 m1 f1 f2)
    obtain ⟨z5, g1, z6, g2⟩ := hr
    refine ⟨_, z5, yx_J.th q2 zb q1 ⟨g, e1⟩ P hcB hmB g1 z6 g2, fun _ => ⟨g, (g2 _ (by omega)).trans e1, ?_⟩⟩
    exact e2
set_option maxRecDepth 100000 in
theorem a_told2 {G : xx_G} {l : Launch} {A : xx_H} {z b i L cR sR : Nat} {xs : Nat → Int32} {Q : Option Value ⊕ String → xx_H → Prop} (I : yx_I A z b L xs) (hi : i + 6 ≤ L) (hL : L ≤ 3072) (K : ∀ C : xx_H, yx_I C z b L xs → xx_X G l mL_law 12 cR sR 1182 (xx_lv5 z b (b + 297) (b + 319) i) [] C Q) (he : xs (i + 1) = 2) : xx_X G l mL_law 12 (cR + 14) (sR + 11400) 1126 (xx_lv5 z b (b + 297) (b + 319) i) [] A Q := by
  obtain ⟨hz, zb, bA, ⟨gw, hw⟩, m, n, ra, rd, W, le, mu, ta, tb, th9, st, lb, li, s9, u, w9, P, ⟨u8, HC⟩, k0, tu, N, S9, HM⟩ := I
  have HC2 := HC
  have HM2 := HM
  obtain ⟨c1, ⟨fc, c2, c3⟩, c4, c5, c6, c7, c8, ⟨ft, c9, c10⟩, ⟨ht, c11, c12⟩, c13, ⟨hp, c14, c15⟩, c16, c17, c18, c19, ⟨X0, t0, V0, o0, c20⟩⟩ := HC2
  obtain ⟨p1, p2, p3, p4, p5, p6, p7, p8, ⟨E, p9, p10, p11⟩⟩ := id P
  have hm1 := p1.1
  have hm := p1.2.1
  have hn1 := p1.2.2.1
  have hn := p1.2.2.2.1
  obtain ⟨⟨hpa, pa1, pa2⟩, po⟩ := id c6
  have po0 : xx_po A (b + 3) m n (mu 0) (le 0) (yo_w W 0) := po 0 (by decide)
  have po1 : xx_po A (b + 7) n m (mu 1) (le 1) (yo_w W 1) := po 1 (by decide)
  have ct : xx_X G l mX8_told 2 0 0 0 (lv_args 0 [.ref b, .int (xs (i + 1))]) [] A (fun r B => r = .inl (some (.int (nI st))) ∧ B = A) := by
    rw [he]
    exact xx_room (d2 := 0) (c2 := 0) (s2 := 0) (by decide) (by decide) (by decide) (xx_mono (fun r B h => ⟨h.1, h.2⟩) (c_X8_told2 c1 c2 pa1 (pa2 0 (by decide)) (pa2 1 (by decide)) po0.1 po1.1))
  refine xx_room (d2 := 12) (c2 := 0 + (0 + cR)) (s2 := 0 + (0 + sR)) (by omega) (by omega) (by omega) ?_
  refine k_told (d1 := 3) (c1 := 0) (s1 := 0) (d2 := 1) (c2 := 0) (s2 := 0) (P1 := fun k B => b + 320 ≤ B.1 ∧ B.2 z = xx_s L xs ∧ yx_m B (b + 297) m n ra rd W le mu ta tb th9 st lb li s9 u w9 (.int k0) tu N S9 ∧ (k = 0 ∧ (∃ g, B.2 (b + 319) = xx_l 1 g ∧ g 0 = (nI st : Int32).toInt64) ∧ yx_c B b m n ra rd W le mu ta tb th9 st lb li s9 u w9 u8)) (P2 := fun k v C => yx_J C z b L xs k ∧ (k = 0 → ∃ g, C.2 (b + 319) = xx_l 1 g ∧ g 0 = v.toInt64)) hi (by omega) (by decide) (by decide) hz (h_L_told c1 (ct) (fun r B hr => ?_)) ?_ (fun k v C hC => ⟨hC.1.1, hC.2, K C hC.1.2⟩)
  · obtain ⟨h5, e⟩ := hr
    subst e
    exact Or.inl ⟨_, h5, gw, hw, fun C y1 y2 y3 => ⟨by omega, (y3 z (by omega)).trans hz, HM.fr (fun q a1 a2 => y3 q (by omega)), ⟨rfl, ⟨_, y2, rfl⟩, HC.to (fun q a1 a2 => y3 q (by omega)) (fun q a1 => y3 q (by omega))⟩⟩⟩
  · rintro k B ⟨q1, q2, hmB, rfl, ⟨g, e1, e2⟩, hcB⟩
    obtain ⟨m1, m2, m3, m4, m5, m6, m7, m8, m9, m10, ⟨f12, m11⟩, m12, ⟨g19, m13⟩, ⟨g20, m14⟩, m15, ⟨g21, m16⟩⟩ := id hmB
    obtain ⟨_, _, ⟨fm, f1, f2⟩, _⟩ := id m7
    refine ⟨q2, ⟨_, m1⟩, ?_⟩
    rw [he]
    refine xx_mono (fun r C hr => ?_) (c_X9_tl2 m1 f1 f2)
    obtain ⟨z5, g1, z6, g2⟩ := hr
    refine ⟨_, z5, yx_J.th q2 zb q1 ⟨g, e1⟩ P hcB hmB g1 z6 g2, fun _ => ⟨g, (g2 _ (by omega)).trans e1, ?_⟩⟩
    rw [e2]
    by_cases s0 : st = 0
    · rw [if_pos s0, if_pos (by decide), s0]; rfl
    · obtain ⟨lbm, _⟩ := p7.resolve_left s0
      rw [if_neg s0, if_neg (nI_pos (by omega))]
set_option maxRecDepth 100000 in
theorem a_told3 {G : xx_G} {l : Launch} {A : xx_H} {z b i L cR sR : Nat} {xs : Nat → Int32} {Q : Option Value ⊕ String → xx_H → Prop} (I : yx_I A z b L xs) (hi : i + 6 ≤ L) (hL : L ≤ 3072) (K : ∀ C : xx_H, yx_I C z b L xs → xx_X G l mL_law 12 cR sR 1182 (xx_lv5 z b (b + 297) (b + 319) i) [] C Q) (he : xs (i + 1) = 3) : xx_X G l mL_law 12 (cR + 14) (sR + 11400) 1126 (xx_lv5 z b (b + 297) (b + 319) i) [] A Q := by
  obtain ⟨hz, zb, bA, ⟨gw, hw⟩, m, n, ra, rd, W, le, mu, ta, tb, th9, st, lb, li, s9, u, w9, P, ⟨u8, HC⟩, k0, tu, N, S9, HM⟩ := I
  have HC2 := HC
  have HM2 := HM
  obtain ⟨c1, ⟨fc, c2, c3⟩, c4, c5, c6, c7, c8, ⟨ft, c9, c10⟩, ⟨ht, c11, c12⟩, c13, ⟨hp, c14, c15⟩, c16, c17, c18, c19, ⟨X0, t0, V0, o0, c20⟩⟩ := HC2
  obtain ⟨p1, p2, p3, p4, p5, p6, p7, p8, ⟨E, p9, p10, p11⟩⟩ := id P
  have hm1 := p1.1
  have hm := p1.2.1
  have hn1 := p1.2.2.1
  have hn := p1.2.2.2.1
  obtain ⟨⟨hpa, pa1, pa2⟩, po⟩ := id c6
  have po0 : xx_po A (b + 3) m n (mu 0) (le 0) (yo_w W 0) := po 0 (by decide)
  have po1 : xx_po A (b + 7) n m (mu 1) (le 1) (yo_w W 1) := po 1 (by decide)
  have ct : xx_X G l mX8_told 2 0 0 0 (lv_args 0 [.ref b, .int (xs (i + 1))]) [] A (fun r B => r = .inl (some (.int (nI s9.1))) ∧ B = A) := by
    rw [he]
    exact xx_room (d2 := 0) (c2 := 0) (s2 := 0) (by decide) (by decide) (by decide) (xx_mono (fun r B h => ⟨h.1, h.2⟩) (c_X8_told3 c1 c2 pa1 (pa2 0 (by decide)) (pa2 1 (by decide)) po0.1 po1.1))
  refine xx_room (d2 := 12) (c2 := 0 + (0 + cR)) (s2 := 0 + (0 + sR)) (by omega) (by omega) (by omega) ?_
  refine k_told (d1 := 3) (c1 := 0) (s1 := 0) (d2 := 1) (c2 := 0) (s2 := 0) (P1 := fun k B => b + 320 ≤ B.1 ∧ B.2 z = xx_s L xs ∧ yx_m B (b + 297) m n ra rd W le mu ta tb th9 st lb li s9 u w9 (.int k0) tu N S9 ∧ (k = 0 ∧ (∃ g, B.2 (b + 319) = xx_l 1 g ∧ g 0 = (nI s9.1 : Int32).toInt64) ∧ yx_c B b m n ra rd W le mu ta tb th9 st lb li s9 u w9 u8)) (P2 := fun k v C => yx_J C z b L xs k ∧ (k = 0 → ∃ g, C.2 (b + 319) = xx_l 1 g ∧ g 0 = v.toInt64)) hi (by omega) (by decide) (by decide) hz (h_L_told c1 (ct) (fun r B hr => ?_)) ?_ (fun k v C hC => ⟨hC.1.1, hC.2, K C hC.1.2⟩)
  · obtain ⟨h5, e⟩ := hr
    subst e
    exact Or.inl ⟨_, h5, gw, hw, fun C y1 y2 y3 => ⟨by omega, (y3 z (by omega)).trans hz, HM.fr (fun q a1 a2 => y3 q (by omega)), ⟨rfl, ⟨_, y2, rfl⟩, HC.to (fun q a1 a2 => y3 q (by omega)) (fun q a1 => y3 q (by omega))⟩⟩⟩
  · rintro k B ⟨q1, q2, hmB, rfl, ⟨g, e1, e2⟩, hcB⟩
    obtain ⟨m1, m2, m3, m4, m5, m6, m7, m8, m9, m10, ⟨f12, m11⟩, m12, ⟨g19, m13⟩, ⟨g20, m14⟩, m15, ⟨g21, m16⟩⟩ := id hmB
    obtain ⟨_, _, ⟨fm, f1, f2⟩, _⟩ := id m7
    refine ⟨q2, ⟨_, m1⟩, ?_⟩
    rw [he]
    refine xx_mono (fun r C hr => ?_) (c_X9_tl3 m1 f1 f2)
    obtain ⟨z5, g1, z6, g2⟩ := hr
    refine ⟨_, z5, yx_J.th q2 zb q1 ⟨g, e1⟩ P hcB hmB g1 z6 g2, fun _ => ⟨g, (g2 _ (by omega)).trans e1, ?_⟩⟩
    rw [e2]
    cases li
    · rw [p8 rfl]; rfl
    · rfl
set_option maxRecDepth 100000 in
theorem a_told4 {G : xx_G} {l : Launch} {A : xx_H} {z b i L cR sR : Nat} {xs : Nat → Int32} {Q : Option Value ⊕ String → xx_H → Prop} (I : yx_I A z b L xs) (hi : i + 6 ≤ L) (hL : L ≤ 3072) (K : ∀ C : xx_H, yx_I C z b L xs → xx_X G l mL_law 12 cR sR 1182 (xx_lv5 z b (b + 297) (b + 319) i) [] C Q) (he : xs (i + 1) = 4) : xx_X G l mL_law 12 (cR + 14) (sR + 11400) 1126 (xx_lv5 z b (b + 297) (b + 319) i) [] A Q := by
  obtain ⟨hz, zb, bA, ⟨gw, hw⟩, m, n, ra, rd, W, le, mu, ta, tb, th9, st, lb, li, s9, u, w9, P, ⟨u8, HC⟩, k0, tu, N, S9, HM⟩ := I
  have HC2 := HC
  have HM2 := HM
  obtain ⟨c1, ⟨fc, c2, c3⟩, c4, c5, c6, c7, c8, ⟨ft, c9, c10⟩, ⟨ht, c11, c12⟩, c13, ⟨hp, c14, c15⟩, c16, c17, c18, c19, ⟨X0, t0, V0, o0, c20⟩⟩ := HC2
  obtain ⟨p1, p2, p3, p4, p5, p6, p7, p8, ⟨E, p9, p10, p11⟩⟩ := id P
  have hm1 := p1.1
  have hm := p1.2.1
  have hn1 := p1.2.2.1
  have hn := p1.2.2.2.1
  obtain ⟨⟨hpa, pa1, pa2⟩, po⟩ := id c6
  have po0 : xx_po A (b + 3) m n (mu 0) (le 0) (yo_w W 0) := po 0 (by decide)
  have po1 : xx_po A (b + 7) n m (mu 1) (le 1) (yo_w W 1) := po 1 (by decide)
  have ct : xx_X G l mX8_told 2 0 0 0 (lv_args 0 [.ref b, .int (xs (i + 1))]) [] A (fun r B => r = .inl (some (.int ((if st = 0 then -1 else nI lb)))) ∧ B = A) := by
    rw [he]
    exact xx_room (d2 := 0) (c2 := 0) (s2 := 0) (by decide) (by decide) (by decide) (xx_mono (fun r B h => ⟨h.1, h.2⟩) (c_X8_told4 c1 c2 pa1 (pa2 0 (by decide)) (pa2 1 (by decide)) po0.1 po1.1))
  refine xx_room (d2 := 12) (c2 := 0 + (0 + cR)) (s2 := 0 + (0 + sR)) (by omega) (by omega) (by omega) ?_
  refine k_told (d1 := 3) (c1 := 0) (s1 := 0) (d2 := 1) (c2 := 0) (s2 := 0) (P1 := fun k B => b + 320 ≤ B.1 ∧ B.2 z = xx_s L xs ∧ yx_m B (b + 297) m n ra rd W le mu ta tb th9 st lb li s9 u w9 (.int k0) tu N S9 ∧ (k = 0 ∧ (∃ g, B.2 (b + 319) = xx_l 1 g ∧ g 0 = ((if st = 0 then -1 else nI lb) : Int32).toInt64) ∧ yx_c B b m n ra rd W le mu ta tb th9 st lb li s9 u w9 u8)) (P2 := fun k v C => yx_J C z b L xs k ∧ (k = 0 → ∃ g, C.2 (b + 319) = xx_l 1 g ∧ g 0 = v.toInt64)) hi (by omega) (by decide) (by decide) hz (h_L_told c1 (ct) (fun r B hr => ?_)) ?_ (fun k v C hC => ⟨hC.1.1, hC.2, K C hC.1.2⟩)
  · obtain ⟨h5, e⟩ := hr
    subst e
    exact Or.inl ⟨_, h5, gw, hw, fun C y1 y2 y3 => ⟨by omega, (y3 z (by omega)).trans hz, HM.fr (fun q a1 a2 => y3 q (by omega)), ⟨rfl, ⟨_, y2, rfl⟩, HC.to (fun q a1 a2 => y3 q (by omega)) (fun q a1 => y3 q (by omega))⟩⟩⟩
  · rintro k B ⟨q1, q2, hmB, rfl, ⟨g, e1, e2⟩, hcB⟩
    obtain ⟨m1, m2, m3, m4, m5, m6, m7, m8, m9, m10, ⟨f12, m11⟩, m12, ⟨g19, m13⟩, ⟨g20, m14⟩, m15, ⟨g21, m16⟩⟩ := id hmB
    obtain ⟨_, _, ⟨fm, f1, f2⟩, _⟩ := id m7
    refine ⟨q2, ⟨_, m1⟩, ?_⟩
    rw [he]
    refine xx_mono (fun r C hr => ?_) (c_X9_tl4 m1 f1 f2)
    obtain ⟨z5, g1, z6, g2⟩ := hr
    refine ⟨_, z5, yx_J.th q2 zb q1 ⟨g, e1⟩ P hcB hmB g1 z6 g2, fun _ => ⟨g, (g2 _ (by omega)).trans e1, ?_⟩⟩
    exact e2
set_option maxRecDepth 100000 in
theorem a_told5 {G : xx_G} {l : Launch} {A : xx_H} {z b i L cR sR : Nat} {xs : Nat → Int32} {Q : Option Value ⊕ String → xx_H → Prop} (I : yx_I A z b L xs) (hi : i + 6 ≤ L) (hL : L ≤ 3072) (K : ∀ C : xx_H, yx_I C z b L xs → xx_X G l mL_law 12 cR sR 1182 (xx_lv5 z b (b + 297) (b + 319) i) [] C Q) (he : xs (i + 1) = 5) : xx_X G l mL_law 12 (cR + 14) (sR + 11400) 1126 (xx_lv5 z b (b + 297) (b + 319) i) [] A Q := by
  obtain ⟨hz, zb, bA, ⟨gw, hw⟩, m, n, ra, rd, W, le, mu, ta, tb, th9, st, lb, li, s9, u, w9, P, ⟨u8, HC⟩, k0, tu, N, S9, HM⟩ := I
  have HC2 := HC
  have HM2 := HM
  obtain ⟨c1, ⟨fc, c2, c3⟩, c4, c5, c6, c7, c8, ⟨ft, c9, c10⟩, ⟨ht, c11, c12⟩, c13, ⟨hp, c14, c15⟩, c16, c17, c18, c19, ⟨X0, t0, V0, o0, c20⟩⟩ := HC2
  obtain ⟨p1, p2, p3, p4, p5, p6, p7, p8, ⟨E, p9, p10, p11⟩⟩ := id P
  have hm1 := p1.1
  have hm := p1.2.1
  have hn1 := p1.2.2.1
  have hn := p1.2.2.2.1
  obtain ⟨⟨hpa, pa1, pa2⟩, po⟩ := id c6
  have po0 : xx_po A (b + 3) m n (mu 0) (le 0) (yo_w W 0) := po 0 (by decide)
  have po1 : xx_po A (b + 7) n m (mu 1) (le 1) (yo_w W 1) := po 1 (by decide)
  have ct : xx_X G l mX8_told 2 0 0 0 (lv_args 0 [.ref b, .int (xs (i + 1))]) [] A (fun r B => r = .inl (some (.int (nI (mu 0)))) ∧ B = A) := by
    rw [he]
    exact xx_room (d2 := 0) (c2 := 0) (s2 := 0) (by decide) (by decide) (by decide) (xx_mono (fun r B h => ⟨h.1, h.2⟩) (c_X8_told5 c1 c2 pa1 (pa2 0 (by decide)) (pa2 1 (by decide)) po0.1 po1.1))
  refine xx_room (d2 := 12) (c2 := 0 + (0 + cR)) (s2 := 0 + (0 + sR)) (by omega) (by omega) (by omega) ?_
  refine k_told (d1 := 3) (c1 := 0) (s1 := 0) (d2 := 1) (c2 := 0) (s2 := 0) (P1 := fun k B => b + 320 ≤ B.1 ∧ B.2 z = xx_s L xs ∧ yx_m B (b + 297) m n ra rd W le mu ta tb th9 st lb li s9 u w9 (.int k0) tu N S9 ∧ (k = 0 ∧ (∃ g, B.2 (b + 319) = xx_l 1 g ∧ g 0 = (nI (mu 0) : Int32).toInt64) ∧ yx_c B b m n ra rd W le mu ta tb th9 st lb li s9 u w9 u8)) (P2 := fun k v C => yx_J C z b L xs k ∧ (k = 0 → ∃ g, C.2 (b + 319) = xx_l 1 g ∧ g 0 = v.toInt64)) hi (by omega) (by decide) (by decide) hz (h_L_told c1 (ct) (fun r B hr => ?_)) ?_ (fun k v C hC => ⟨hC.1.1, hC.2, K C hC.1.2⟩)
  · obtain ⟨h5, e⟩ := hr
    subst e
    exact Or.inl ⟨_, h5, gw, hw, fun C y1 y2 y3 => ⟨by omega, (y3 z (by omega)).trans hz, HM.fr (fun q a1 a2 => y3 q (by omega)), ⟨rfl, ⟨_, y2, rfl⟩, HC.to (fun q a1 a2 => y3 q (by omega)) (fun q a1 => y3 q (by omega))⟩⟩⟩
  · rintro k B ⟨q1, q2, hmB, rfl, ⟨g, e1, e2⟩, hcB⟩
    obtain ⟨m1, m2, m3, m4, m5, m6, m7, m8, m9, m10, ⟨f12, m11⟩, m12, ⟨g19, m13⟩, ⟨g20, m14⟩, m15, ⟨g21, m16⟩⟩ := id hmB
    obtain ⟨_, _, ⟨fm, f1, f2⟩, _⟩ := id m7
    refine ⟨q2, ⟨_, m1⟩, ?_⟩
    rw [he]
    refine xx_mono (fun r C hr => ?_) (c_X9_tl5 m1 f1 f2)
    obtain ⟨z5, g1, z6, g2⟩ := hr
    refine ⟨_, z5, yx_J.th q2 zb q1 ⟨g, e1⟩ P hcB hmB g1 z6 g2, fun _ => ⟨g, (g2 _ (by omega)).trans e1, ?_⟩⟩
    exact e2
set_option maxRecDepth 100000 in
theorem a_told6 {G : xx_G} {l : Launch} {A : xx_H} {z b i L cR sR : Nat} {xs : Nat → Int32} {Q : Option Value ⊕ String → xx_H → Prop} (I : yx_I A z b L xs) (hi : i + 6 ≤ L) (hL : L ≤ 3072) (K : ∀ C : xx_H, yx_I C z b L xs → xx_X G l mL_law 12 cR sR 1182 (xx_lv5 z b (b + 297) (b + 319) i) [] C Q) (he : xs (i + 1) = 6) : xx_X G l mL_law 12 (cR + 14) (sR + 11400) 1126 (xx_lv5 z b (b + 297) (b + 319) i) [] A Q := by
  obtain ⟨hz, zb, bA, ⟨gw, hw⟩, m, n, ra, rd, W, le, mu, ta, tb, th9, st, lb, li, s9, u, w9, P, ⟨u8, HC⟩, k0, tu, N, S9, HM⟩ := I
  have HC2 := HC
  have HM2 := HM
  obtain ⟨c1, ⟨fc, c2, c3⟩, c4, c5, c6, c7, c8, ⟨ft, c9, c10⟩, ⟨ht, c11, c12⟩, c13, ⟨hp, c14, c15⟩, c16, c17, c18, c19, ⟨X0, t0, V0, o0, c20⟩⟩ := HC2
  obtain ⟨p1, p2, p3, p4, p5, p6, p7, p8, ⟨E, p9, p10, p11⟩⟩ := id P
  have hm1 := p1.1
  have hm := p1.2.1
  have hn1 := p1.2.2.1
  have hn := p1.2.2.2.1
  obtain ⟨⟨hpa, pa1, pa2⟩, po⟩ := id c6
  have po0 : xx_po A (b + 3) m n (mu 0) (le 0) (yo_w W 0) := po 0 (by decide)
  have po1 : xx_po A (b + 7) n m (mu 1) (le 1) (yo_w W 1) := po 1 (by decide)
  have ct : xx_X G l mX8_told 2 0 0 0 (lv_args 0 [.ref b, .int (xs (i + 1))]) [] A (fun r B => r = .inl (some (.int (nI (mu 1)))) ∧ B = A) := by
    rw [he]
    exact xx_room (d2 := 0) (c2 := 0) (s2 := 0) (by decide) (by decide) (by decide) (xx_mono (fun r B h => ⟨h.1, h.2⟩) (c_X8_told6 c1 c2 pa1 (pa2 0 (by decide)) (pa2 1 (by decide)) po0.1 po1.1))
  refine xx_room (d2 := 12) (c2 := 0 + (0 + cR)) (s2 := 0 + (0 + sR)) (by omega) (by omega) (by omega) ?_
  refine k_told (d1 := 3) (c1 := 0) (s1 := 0) (d2 := 1) (c2 := 0) (s2 := 0) (P1 := fun k B => b + 320 ≤ B.1 ∧ B.2 z = xx_s L xs ∧ yx_m B (b + 297) m n ra rd W le mu ta tb th9 st lb li s9 u w9 (.int k0) tu N S9 ∧ (k = 0 ∧ (∃ g, B.2 (b + 319) = xx_l 1 g ∧ g 0 = (nI (mu 1) : Int32).toInt64) ∧ yx_c B b m n ra rd W le mu ta tb th9 st lb li s9 u w9 u8)) (P2 := fun k v C => yx_J C z b L xs k ∧ (k = 0 → ∃ g, C.2 (b + 319) = xx_l 1 g ∧ g 0 = v.toInt64)) hi (by omega) (by decide) (by decide) hz (h_L_told c1 (ct) (fun r B hr => ?_)) ?_ (fun k v C hC => ⟨hC.1.1, hC.2, K C hC.1.2⟩)
  · obtain ⟨h5, e⟩ := hr
    subst e
    exact Or.inl ⟨_, h5, gw, hw, fun C y1 y2 y3 => ⟨by omega, (y3 z (by omega)).trans hz, HM.fr (fun q a1 a2 => y3 q (by omega)), ⟨rfl, ⟨_, y2, rfl⟩, HC.to (fun q a1 a2 => y3 q (by omega)) (fun q a1 => y3 q (by omega))⟩⟩⟩
  · rintro k B ⟨q1, q2, hmB, rfl, ⟨g, e1, e2⟩, hcB⟩
    obtain ⟨m1, m2, m3, m4, m5, m6, m7, m8, m9, m10, ⟨f12, m11⟩, m12, ⟨g19, m13⟩, ⟨g20, m14⟩, m15, ⟨g21, m16⟩⟩ := id hmB
    obtain ⟨_, _, ⟨fm, f1, f2⟩, _⟩ := id m7
    refine ⟨q2, ⟨_, m1⟩, ?_⟩
    rw [he]
    refine xx_mono (fun r C hr => ?_) (c_X9_tl6 m1 f1 f2)
    obtain ⟨z5, g1, z6, g2⟩ := hr
    refine ⟨_, z5, yx_J.th q2 zb q1 ⟨g, e1⟩ P hcB hmB g1 z6 g2, fun _ => ⟨g, (g2 _ (by omega)).trans e1, ?_⟩⟩
    exact e2
set_option maxRecDepth 100000 in
theorem a_toldB {G : xx_G} {l : Launch} {A : xx_H} {z b i L cR sR : Nat} {xs : Nat → Int32} {Q : Option Value ⊕ String → xx_H → Prop} (I : yx_I A z b L xs) (hi : i + 6 ≤ L) (hL : L ≤ 3072) (K : ∀ C : xx_H, yx_I C z b L xs → xx_X G l mL_law 12 cR sR 1182 (xx_lv5 z b (b + 297) (b + 319) i) [] C Q) (hg : (xs (i + 1)).toInt < 0 ∨ 6 < (xs (i + 1)).toInt) : xx_X G l mL_law 12 (cR + 14) (sR + 11400) 1126 (xx_lv5 z b (b + 297) (b + 319) i) [] A Q := by
  obtain ⟨hz, zb, bA, ⟨gw, hw⟩, m, n, ra, rd, W, le, mu, ta, tb, th9, st, lb, li, s9, u, w9, P, ⟨u8, HC⟩, k0, tu, N, S9, HM⟩ := I
  have HC2 := HC
  have HM2 := HM
  obtain ⟨c1, ⟨fc, c2, c3⟩, c4, c5, c6, c7, c8, ⟨ft, c9, c10⟩, ⟨ht, c11, c12⟩, c13, ⟨hp, c14, c15⟩, c16, c17, c18, c19, ⟨X0, t0, V0, o0, c20⟩⟩ := HC2
  obtain ⟨p1, p2, p3, p4, p5, p6, p7, p8, ⟨E, p9, p10, p11⟩⟩ := id P
  have hm1 := p1.1
  have hm := p1.2.1
  have hn1 := p1.2.2.1
  have hn := p1.2.2.2.1
  refine xx_room (d2 := 12) (c2 := 1 + (0 + cR)) (s2 := 6 + (0 + sR)) (by omega) (by omega) (by omega) ?_
  refine k_told (d1 := 7) (c1 := 1) (s1 := 6) (d2 := 1) (c2 := 0) (s2 := 0) (P1 := fun k B => b + 320 ≤ B.1 ∧ B.2 z = xx_s L xs ∧ yx_m B (b + 297) m n ra rd W le mu ta tb th9 st lb li s9 u w9 (.int k0) tu N S9 ∧ (k = 1 ∧ (∃ g, B.2 (b + 319) = xx_l 1 g) ∧ yx_c B b m n ra rd W le mu ta tb th9 st lb li s9 u w9 u8)) (P2 := fun k v C => yx_J C z b L xs k ∧ (k = 0 → ∃ g, C.2 (b + 319) = xx_l 1 g ∧ g 0 = v.toInt64)) hi (by omega) (by decide) (by decide) hz (h_L_told c1 (r_X8_told (f := fun _ => 0) c1 hg) (fun r B hr => ?_)) ?_ (fun k v C hC => ⟨hC.1.1, hC.2, K C hC.1.2⟩)
  · obtain ⟨h2, h3, eB⟩ := hr
    exact Or.inr ⟨h2, ⟨by omega, by rw [eB]; exact hz, HM.fr (fun q _ _ => by rw [eB]), ⟨rfl, ⟨gw, by rw [eB]; exact hw⟩, HC.to (fun q _ _ => by rw [eB]) (fun q _ => by rw [eB])⟩⟩⟩
  · have hg2 : xx_inn (xs (i + 1)) 0 6 = 0 := by
      unfold xx_inn
      rcases hg with q | q
      · rw [if_pos (Int32.lt_iff_toInt_lt.mpr q)]
      · by_cases q1 : xs (i + 1) < 0
        · rw [if_pos q1]
        · rw [if_neg q1, if_pos (show (6 : Int32) < xs (i + 1) from Int32.lt_iff_toInt_lt.mpr (by show (6 : Int) < _; exact q))]
    rintro k B ⟨q1, q2, hmB, rfl, hwB, hcB⟩
    refine ⟨q2, ⟨_, hmB.1⟩, xx_mono (fun r C hr => ?_) (c_X9_toldX hmB.1 hg2)⟩
    obtain ⟨g0, g1, z6, g2⟩ := hr
    exact ⟨_, g0, yx_J.th q2 zb q1 hwB P hcB hmB g1 z6 g2, fun q => absurd q (by decide)⟩
theorem a_told {G : xx_G} {l : Launch} {A : xx_H} {z b i L cR sR : Nat} {xs : Nat → Int32} {Q : Option Value ⊕ String → xx_H → Prop} (I : yx_I A z b L xs) (hi : i + 6 ≤ L) (hL : L ≤ 3072) (K : ∀ C : xx_H, yx_I C z b L xs → xx_X G l mL_law 12 cR sR 1182 (xx_lv5 z b (b + 297) (b + 319) i) [] C Q) : xx_X G l mL_law 12 (cR + 14) (sR + 11400) 1126 (xx_lv5 z b (b + 297) (b + 319) i) [] A Q := by
  by_cases hg : (xs (i + 1)).toInt < 0 ∨ 6 < (xs (i + 1)).toInt
  · exact a_toldB I hi hL K hg
  · have hg1 : ¬ (xs (i + 1)).toInt < 0 := fun q => hg (Or.inl q)
    have hg2 : ¬ 6 < (xs (i + 1)).toInt := fun q => hg (Or.inr q)
    obtain ⟨j, j1, ej⟩ := nI_of2 (x := xs (i + 1)) (n := 6) (M := 6) (by decide) (fun q => hg1 (Int32.lt_iff_toInt_lt.mp q)) (Int32.le_iff_toInt_le.mpr (by show (xs (i + 1)).toInt ≤ 6; omega))
    have hj : j = 0 ∨ j = 1 ∨ j = 2 ∨ j = 3 ∨ j = 4 ∨ j = 5 ∨ j = 6 := by omega
    rcases hj with rfl | rfl | rfl | rfl | rfl | rfl | rfl
    · exact a_told0 I hi hL K ej
    · exact a_told1 I hi hL K ej
    · exact a_told2 I hi hL K ej
    · exact a_told3 I hi hL K ej
    · exact a_told4 I hi hL K ej
    · exact a_told5 I hi hL K ej
    · exact a_told6 I hi hL K ej
set_option maxRecDepth 100000 in
theorem a_part0 {G : xx_G} {l : Launch} {A : xx_H} {z b i L cR sR : Nat} {xs : Nat → Int32} {Q : Option Value ⊕ String → xx_H → Prop} (I : yx_I A z b L xs) (hi : i + 6 ≤ L) (hL : L ≤ 3072) (K : ∀ C : xx_H, yx_I C z b L xs → xx_X G l mL_law 12 cR sR 1182 (xx_lv5 z b (b + 297) (b + 319) i) [] C Q) (h0 : xs (i + 1) = 0) : xx_X G l mL_law 12 (cR + 14) (sR + 11400) 1030 (xx_lv5 z b (b + 297) (b + 319) i) [] A Q := by
  obtain ⟨hz, zb, bA, ⟨gw, hw⟩, m, n, ra, rd, W, le, mu, ta, tb, th9, st, lb, li, s9, u, w9, P, ⟨u8, HC⟩, k0, tu, N, S9, HM⟩ := I
  have HC2 := HC
  have HM2 := HM
  obtain ⟨c1, ⟨fc, c2, c3⟩, c4, c5, c6, c7, c8, ⟨ft, c9, c10⟩, ⟨ht, c11, c12⟩, c13, ⟨hp, c14, c15⟩, c16, c17, c18, c19, ⟨X0, t0, V0, o0, c20⟩⟩ := HC2
  obtain ⟨p1, p2, p3, p4, p5, p6, p7, p8, ⟨E, p9, p10, p11⟩⟩ := id P
  have hm1 := p1.1
  have hm := p1.2.1
  have hn1 := p1.2.2.1
  have hn := p1.2.2.2.1
  have hfq := c20.2.2.2.2.2.2.1
  refine xx_room (d2 := 12) (c2 := 1 + (0 + cR)) (s2 := 6 + (0 + sR)) (by omega) (by omega) (by omega) ?_
  refine k_part0 (d1 := 7) (c1 := 1) (s1 := 6) (d2 := 0) (c2 := 0) (s2 := 0) (P1 := fun k B => b + 320 ≤ B.1 ∧ B.2 z = xx_s L xs ∧ yx_m B (b + 297) m n ra rd W le mu ta tb th9 st lb li s9 u w9 (.int k0) tu N S9 ∧ ((k = 0 ∧ ∃ k1, k1 < 2 ^ 31 ∧ xs (i + 2) = nI k1 ∧ (∃ g, B.2 (b + 319) = xx_l 1 g ∧ g 0 = lN (yb_w u.natAbs k1)) ∧ yx_c B b m n ra rd W le mu ta tb th9 st lb li s9 u w9 u8) ∨ (k = 1 ∧ xs (i + 2) < 0 ∧ (∃ g, B.2 (b + 319) = xx_l 1 g) ∧ yx_c B b m n ra rd W le mu ta tb th9 st lb li s9 u w9 u8))) (P2 := fun k v C => yx_J C z b L xs k ∧ (k = 0 → ∃ g, C.2 (b + 319) = xx_l 1 g ∧ g 0 = v)) hi (by omega) (by decide) (by decide) hz h0 (h_L_part c1 (c_X8_part (bl := 0) (x := xs (i + 2)) c1 hfq) (fun r B hr => ?_)) ?_ (fun k v C hC => ⟨hC.1.1, hC.2, K C hC.1.2⟩)
  · rcases hr with ⟨⟨k1, h1, h2, h5⟩, e⟩ | ⟨h1, h2, h3, eB⟩
    · subst e
      exact Or.inl ⟨_, h5, gw, hw, fun C y1 y2 y3 => ⟨by omega, (y3 z (by omega)).trans hz, HM.fr (fun q a1 a2 => y3 q (by omega)), Or.inl ⟨rfl, k1, h1, h2, ⟨_, y2, rfl⟩, HC.to (fun q a1 a2 => y3 q (by omega)) (fun q a1 => y3 q (by omega))⟩⟩⟩
    · exact Or.inr ⟨h2, ⟨by omega, by rw [eB]; exact hz, HM.fr (fun q _ _ => by rw [eB]), Or.inr ⟨rfl, h1, ⟨gw, by rw [eB]; exact hw⟩, HC.to (fun q _ _ => by rw [eB]) (fun q _ => by rw [eB])⟩⟩⟩
  · rintro k B ⟨q1, q2, hmB, hout⟩
    obtain ⟨m1, m2, m3, m4, m5, m6, m7, m8, m9, m10, ⟨f12, m11⟩, m12, ⟨g19, m13⟩, ⟨g20, m14⟩, m15, ⟨g21, m16⟩⟩ := id hmB
    refine ⟨q2, ⟨_, m1⟩, xx_mono (fun r C hr => ?_) (c_X9_part (bl := 0) (x := xs (i + 2)) m1 m2)⟩
    obtain ⟨g1, g2, hr⟩ := hr
    rcases hout with ⟨rfl, k1, h1, h2, ⟨g, e1, e2⟩, hcB⟩ | ⟨rfl, h1, hwB, hcB⟩
    · rcases hr with ⟨⟨k2, z1, z2, z5⟩, z6⟩ | ⟨z1, _⟩
      · have ep : k1 = k2 := nI_inj2 h1 z1 (h2.symm.trans z2)
        subst ep
        refine ⟨_, z5, yx_J.th q2 zb q1 ⟨g, e1⟩ P hcB hmB g1 z6 g2, fun _ => ⟨g, (g2 _ (by omega)).trans e1, ?_⟩⟩
        rw [e2, if_pos rfl, m3]
      · rw [h2] at z1; exact absurd z1 (nI_pos h1)
    · rcases hr with ⟨⟨k2, z1, z2, z5⟩, z6⟩ | ⟨_, z2, z6⟩
      · rw [z2] at h1; exact absurd h1 (nI_pos z1)
      · exact ⟨_, z2, yx_J.th q2 zb q1 hwB P hcB hmB g1 z6 g2, fun q => absurd q (by decide)⟩
set_option maxRecDepth 100000 in
theorem a_part1 {G : xx_G} {l : Launch} {A : xx_H} {z b i L cR sR : Nat} {xs : Nat → Int32} {Q : Option Value ⊕ String → xx_H → Prop} (I : yx_I A z b L xs) (hi : i + 6 ≤ L) (hL : L ≤ 3072) (K : ∀ C : xx_H, yx_I C z b L xs → xx_X G l mL_law 12 cR sR 1182 (xx_lv5 z b (b + 297) (b + 319) i) [] C Q) (h0 : ¬ xs (i + 1) = 0) : xx_X G l mL_law 12 (cR + 14) (sR + 11400) 1030 (xx_lv5 z b (b + 297) (b + 319) i) [] A Q := by
  obtain ⟨hz, zb, bA, ⟨gw, hw⟩, m, n, ra, rd, W, le, mu, ta, tb, th9, st, lb, li, s9, u, w9, P, ⟨u8, HC⟩, k0, tu, N, S9, HM⟩ := I
  have HC2 := HC
  have HM2 := HM
  obtain ⟨c1, ⟨fc, c2, c3⟩, c4, c5, c6, c7, c8, ⟨ft, c9, c10⟩, ⟨ht, c11, c12⟩, c13, ⟨hp, c14, c15⟩, c16, c17, c18, c19, ⟨X0, t0, V0, o0, c20⟩⟩ := HC2
  obtain ⟨p1, p2, p3, p4, p5, p6, p7, p8, ⟨E, p9, p10, p11⟩⟩ := id P
  have hm1 := p1.1
  have hm := p1.2.1
  have hn1 := p1.2.2.1
  have hn := p1.2.2.2.1
  have hfq := c20.2.2.2.2.2.2.1
  refine xx_room (d2 := 12) (c2 := 1 + (0 + cR)) (s2 := 6 + (0 + sR)) (by omega) (by omega) (by omega) ?_
  refine k_part1 (d1 := 7) (c1 := 1) (s1 := 6) (d2 := 0) (c2 := 0) (s2 := 0) (P1 := fun k B => b + 320 ≤ B.1 ∧ B.2 z = xx_s L xs ∧ yx_m B (b + 297) m n ra rd W le mu ta tb th9 st lb li s9 u w9 (.int k0) tu N S9 ∧ ((k = 0 ∧ ∃ k1, k1 < 2 ^ 31 ∧ xs (i + 2) = nI k1 ∧ (∃ g, B.2 (b + 319) = xx_l 1 g ∧ g 0 = lN (yb_w w9.natAbs k1)) ∧ yx_c B b m n ra rd W le mu ta tb th9 st lb li s9 u w9 u8) ∨ (k = 1 ∧ xs (i + 2) < 0 ∧ (∃ g, B.2 (b + 319) = xx_l 1 g) ∧ yx_c B b m n ra rd W le mu ta tb th9 st lb li s9 u w9 u8))) (P2 := fun k v C => yx_J C z b L xs k ∧ (k = 0 → ∃ g, C.2 (b + 319) = xx_l 1 g ∧ g 0 = v)) hi (by omega) (by decide) (by decide) hz h0 (h_L_part c1 (c_X8_part (bl := 1) (x := xs (i + 2)) c1 hfq) (fun r B hr => ?_)) ?_ (fun k v C hC => ⟨hC.1.1, hC.2, K C hC.1.2⟩)
  · rcases hr with ⟨⟨k1, h1, h2, h5⟩, e⟩ | ⟨h1, h2, h3, eB⟩
    · subst e
      exact Or.inl ⟨_, h5, gw, hw, fun C y1 y2 y3 => ⟨by omega, (y3 z (by omega)).trans hz, HM.fr (fun q a1 a2 => y3 q (by omega)), Or.inl ⟨rfl, k1, h1, h2, ⟨_, y2, rfl⟩, HC.to (fun q a1 a2 => y3 q (by omega)) (fun q a1 => y3 q (by omega))⟩⟩⟩
    · exact Or.inr ⟨h2, ⟨by omega, by rw [eB]; exact hz, HM.fr (fun q _ _ => by rw [eB]), Or.inr ⟨rfl, h1, ⟨gw, by rw [eB]; exact hw⟩, HC.to (fun q _ _ => by rw [eB]) (fun q _ => by rw [eB])⟩⟩⟩
  · rintro k B ⟨q1, q2, hmB, hout⟩
    obtain ⟨m1, m2, m3, m4, m5, m6, m7, m8, m9, m10, ⟨f12, m11⟩, m12, ⟨g19, m13⟩, ⟨g20, m14⟩, m15, ⟨g21, m16⟩⟩ := id hmB
    refine ⟨q2, ⟨_, m1⟩, xx_mono (fun r C hr => ?_) (c_X9_part (bl := 1) (x := xs (i + 2)) m1 m2)⟩
    obtain ⟨g1, g2, hr⟩ := hr
    rcases hout with ⟨rfl, k1, h1, h2, ⟨g, e1, e2⟩, hcB⟩ | ⟨rfl, h1, hwB, hcB⟩
    · rcases hr with ⟨⟨k2, z1, z2, z5⟩, z6⟩ | ⟨z1, _⟩
      · have ep : k1 = k2 := nI_inj2 h1 z1 (h2.symm.trans z2)
        subst ep
        refine ⟨_, z5, yx_J.th q2 zb q1 ⟨g, e1⟩ P hcB hmB g1 z6 g2, fun _ => ⟨g, (g2 _ (by omega)).trans e1, ?_⟩⟩
        rw [e2, if_neg (by decide), m4]
      · rw [h2] at z1; exact absurd z1 (nI_pos h1)
    · rcases hr with ⟨⟨k2, z1, z2, z5⟩, z6⟩ | ⟨_, z2, z6⟩
      · rw [z2] at h1; exact absurd h1 (nI_pos z1)
      · exact ⟨_, z2, yx_J.th q2 zb q1 hwB P hcB hmB g1 z6 g2, fun q => absurd q (by decide)⟩
theorem a_part {G : xx_G} {l : Launch} {A : xx_H} {z b i L cR sR : Nat} {xs : Nat → Int32} {Q : Option Value ⊕ String → xx_H → Prop} (I : yx_I A z b L xs) (hi : i + 6 ≤ L) (hL : L ≤ 3072) (K : ∀ C : xx_H, yx_I C z b L xs → xx_X G l mL_law 12 cR sR 1182 (xx_lv5 z b (b + 297) (b + 319) i) [] C Q) : xx_X G l mL_law 12 (cR + 14) (sR + 11400) 1030 (xx_lv5 z b (b + 297) (b + 319) i) [] A Q := by
  by_cases h0 : xs (i + 1) = 0
  · exact a_part0 I hi hL K h0
  · exact a_part1 I hi hL K h0
set_option maxRecDepth 100000 in
theorem a_sign {G : xx_G} {l : Launch} {A : xx_H} {z b i L cR sR : Nat} {xs : Nat → Int32} {Q : Option Value ⊕ String → xx_H → Prop} (I : yx_I A z b L xs) (hi : i + 6 ≤ L) (hL : L ≤ 3072) (K : ∀ C : xx_H, yx_I C z b L xs → xx_X G l mL_law 12 cR sR 1182 (xx_lv5 z b (b + 297) (b + 319) i) [] C Q) : xx_X G l mL_law 12 (cR + 14) (sR + 11400) 1113 (xx_lv5 z b (b + 297) (b + 319) i) [] A Q := by
  obtain ⟨hz, zb, bA, ⟨gw, hw⟩, m, n, ra, rd, W, le, mu, ta, tb, th9, st, lb, li, s9, u, w9, P, ⟨u8, HC⟩, k0, tu, N, S9, HM⟩ := I
  have HC2 := HC
  have HM2 := HM
  obtain ⟨c1, ⟨fc, c2, c3⟩, c4, c5, c6, c7, c8, ⟨ft, c9, c10⟩, ⟨ht, c11, c12⟩, c13, ⟨hp, c14, c15⟩, c16, c17, c18, c19, ⟨X0, t0, V0, o0, c20⟩⟩ := HC2
  obtain ⟨p1, p2, p3, p4, p5, p6, p7, p8, ⟨E, p9, p10, p11⟩⟩ := id P
  have hm1 := p1.1
  have hm := p1.2.1
  have hn1 := p1.2.2.1
  have hn := p1.2.2.2.1
  have hfq := c20.2.2.2.2.2.2.1
  obtain ⟨q1, ⟨f8, l8, bu, _⟩, _⟩ := id hfq
  refine xx_room (d2 := 12) (c2 := 0 + (0 + cR)) (s2 := 0 + (0 + sR)) (by omega) (by omega) (by omega) ?_
  refine k_sign (d1 := 0) (c1 := 0) (s1 := 0) (d2 := 0) (c2 := 0) (s2 := 0) (P1 := fun v B => v = iz u.sign ∧ B = A) (P2 := fun v C => yx_I C z b L xs) (by decide) (by decide) c1 (xx_mono (fun r B h => ⟨_, h.1, rfl, h.2⟩) (c_X8_sign c1 q1 bu)) ?_ (fun v C hC => K C hC)
  rintro v B ⟨rfl, rfl⟩
  refine ⟨⟨_, HM.1⟩, xx_mono (fun r C hr => ?_) (c_X9_sgn HM.1 HM.2.1)⟩
  obtain ⟨z5, g1, z6, g2⟩ := hr
  refine ⟨by rw [z5, HM.2.2.1], (yx_J.th hz zb bA ⟨gw, hw⟩ P HC HM g1 z6 g2).2⟩
