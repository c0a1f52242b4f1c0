/-! ===== the calls in a game: those that change nothing ===== -/
theorem yx_m.fr {B C : xx_H} {c : Nat} {m n : Nat} {ra : Nat → Nat → Int} {rd : Nat → Nat → Nat} {W : Nat → Nat → Nat → Int} {le : Nat → Int} {mu : Nat → Nat} {ta tb : Nat → Nat → Nat} {th9 : Nat → Nat} {st lb : Nat} {li : Bool} {s9 : yn_S} {u w9 : Int} {th tu : Value} {N : Nat → Int} {S9 : Nat → Bool} (h : yx_m B c m n ra rd W le mu ta tb th9 st lb li s9 u w9 th tu N S9) (hq : ∀ q, c ≤ q → q < c + 22 → C.2 q = B.2 q) : yx_m C c m n ra rd W le mu ta tb th9 st lb li s9 u w9 th tu N S9 := h.th ((hq _ (by omega) (by omega)).trans h.1) (fun q _ a1 a2 => hq q a1 a2)
/-- the reference told what it throws, nothing else -/
theorem yx_J.th {B C : xx_H} {z b L : Nat} {xs : Nat → Int32} {m n : Nat} {ra : Nat → Nat → Int} {rd : Nat → Nat → Nat} {W : Nat → Nat → Nat → Int} {le : Nat → Int} {mu : Nat → Nat} {ta tb : Nat → Nat → Nat} {th9 : Nat → Nat} {st lb : Nat} {li : Bool} {s9 : yn_S} {u w9 : Int} {u8 th tu : Value} {k : Int32} {N : Nat → Int} {S9 : Nat → Bool} (hz : B.2 z = xx_s L xs) (zb : z < b) (hB : b + 320 ≤ B.1) (hw : ∃ g, B.2 (b + 319) = xx_l 1 g) (hp : yx_p m n ra rd W le mu ta tb th9 st lb li s9) (hc : yx_c B b m n ra rd W le mu ta tb th9 st lb li s9 u w9 u8) (hm : yx_m B (b + 297) m n ra rd W le mu ta tb th9 st lb li s9 u w9 th tu N S9) (h1 : C.1 = B.1) (hb : C.2 (b + 297) = xx_o 9 (xx_mf (b + 297) (.int k) (.int (nI m)) (.int (nI n)) (.int (if st = 0 then -1 else nI lb)) (.int (nI st)) (.int (if li then 1 else 0)) (.int (nI s9.1)) tu)) (hq : ∀ q, q ≠ b + 297 → C.2 q = B.2 q) : yx_J C z b L xs k := by
  obtain ⟨g, hw⟩ := hw
  exact yx_J.mk ((hq z (by omega)).trans hz) zb (by omega) ⟨g, (hq _ (by omega)).trans hw⟩ hp (hc.to (fun q a1 a2 => hq q (by omega)) (fun q a1 => hq q (by omega))) (hm.th hb (fun q a1 _ _ => hq q a1))
set_option maxRecDepth 100000 in
theorem a_isThere {G : xx_G} {l : Launch} {A : xx_H} {z b i L cR sR : Nat} {xs : Nat → Int32} {Q : Option Value ⊕ String → xx_H → Prop} (I : yx_I A z b L xs) (hi : i + 6 ≤ L) (hL : L ≤ 3072) (K : ∀ C : xx_H, yx_I C z b L xs → xx_X G l mL_law 12 cR sR 1182 (xx_lv5 z b (b + 297) (b + 319) i) [] C Q) : xx_X G l mL_law 12 (cR + 14) (sR + 11400) 955 (xx_lv5 z b (b + 297) (b + 319) i) [] A Q := by
  obtain ⟨hz, zb, bA, ⟨gw, hw⟩, m, n, ra, rd, W, le, mu, ta, tb, th9, st, lb, li, s9, u, w9, P, ⟨u8, HC⟩, k0, tu, N, S9, HM⟩ := I
  have HC2 := HC
  have HM2 := HM
  obtain ⟨c1, ⟨fc, c2, c3⟩, c4, c5, c6, c7, c8, ⟨ft, c9, c10⟩, ⟨ht, c11, c12⟩, c13, ⟨hp, c14, c15⟩, c16, c17, c18, c19, ⟨X0, t0, V0, o0, c20⟩⟩ := HC2
  obtain ⟨p1, p2, p3, p4, p5, p6, p7, p8, ⟨E, p9, p10, p11⟩⟩ := id P
  have hm1 := p1.1
  have hm := p1.2.1
  have hn1 := p1.2.2.1
  have hn := p1.2.2.2.1
  refine xx_room (d2 := 12) (c2 := 2 + (0 + cR)) (s2 := 12 + (0 + sR)) (by omega) (by omega) (by omega) ?_
  refine k_isThere (d1 := 9) (c1 := 2) (s1 := 12) (d2 := 2) (c2 := 0) (s2 := 0) (P1 := fun k B => b + 320 ≤ B.1 ∧ B.2 z = xx_s L xs ∧ yx_m B (b + 297) m n ra rd W le mu ta tb th9 st lb li s9 u w9 (.int k0) tu N S9 ∧ ((k = 0 ∧ ∃ p r, p < 2 ∧ r < yy_cn m n p ∧ xs (i + 1) = nI p ∧ xs (i + 2) = nI r ∧ (∃ g, B.2 (b + 319) = xx_l 1 g ∧ g 0 = (if (if Nat.testBit (th9 p) r then (1 : Int32) else 0) = 0 then 0 else 1)) ∧ yx_c B b m n ra rd W le mu ta tb th9 st lb li s9 u w9 u8) ∨ (k = 2 ∧ ¬ yy_hp m n (xs (i + 1)) (xs (i + 2)) ∧ (∃ g, B.2 (b + 319) = xx_l 1 g) ∧ yx_c B b m n ra rd W le mu ta tb th9 st lb li s9 u w9 u8))) (P2 := fun k v C => yx_J C z b L xs k ∧ (k = 0 → ∃ g, C.2 (b + 319) = xx_l 1 g ∧ g 0 = (if v = 0 then 0 else 1))) hi (by omega) (by decide) (by decide) hz (h_L_isThere c1 (c_X8_isThere c1 c2 c3 hm1 hm hn1 hn ⟨ft, c9, c10⟩ p5) (fun r B hr => ?_)) ?_ (fun k v C hC => ⟨hC.1.1, hC.2, K C hC.1.2⟩)
  · rcases hr with ⟨⟨p, r9, h1, h2, h3, h4, h5⟩, e⟩ | ⟨h1, h2, h3, eB⟩
    · subst e
      exact Or.inl ⟨_, h5, gw, hw, fun C y1 y2 y3 => ⟨by omega, (y3 z (by omega)).trans hz, HM.fr (fun q a1 a2 => y3 q (by omega)), Or.inl ⟨rfl, p, r9, h1, h2, h3, h4, ⟨_, y2, rfl⟩, HC.to (fun q a1 a2 => y3 q (by omega)) (fun q a1 => y3 q (by omega))⟩⟩⟩
    · exact Or.inr (Or.inr ⟨h2, ⟨by omega, by rw [eB]; exact hz, HM.fr (fun q _ _ => by rw [eB]), Or.inr ⟨rfl, h1, ⟨gw, by rw [eB]; exact hw⟩, HC.to (fun q _ _ => by rw [eB]) (fun q _ => by rw [eB])⟩⟩⟩)
  · rintro k B ⟨q1, q2, hmB, hout⟩
    obtain ⟨m1, m2, m3, m4, m5, m6, m7, m8, m9, m10, ⟨f12, m11⟩, m12, ⟨g19, m13⟩, ⟨g20, m14⟩, m15, ⟨g21, m16⟩⟩ := id hmB
    refine ⟨q2, ⟨_, m1⟩, xx_mono (fun r C hr => ?_) (c_X9_isThere m1 hm1 hm hn1 hn ((let ⟨⟨f, f1, f2⟩, f3⟩ := m10; ⟨f, f1, fun p hp k hk => by rw [f2 _ (by have := yy_cn6 (p := p) hm hn; omega), f3 p hp k hk]⟩) : ∃ f, _ ∧ _))⟩
    obtain ⟨g1, g2, hr⟩ := hr
    rcases hout with ⟨rfl, p, r9, h1, h2, h3, h4, ⟨g, e1, e2⟩, hcB⟩ | ⟨rfl, h1, hwB, hcB⟩
    · rcases hr with ⟨⟨p2, r2, z1, z2, z3, z4, z5⟩, z6⟩ | ⟨z1, _⟩
      · have ep : p = p2 := nI_inj2 (by omega) (by omega) (h3.symm.trans z3)
        subst ep
        have c6 := yy_cn6 (p := p) hm hn
        have er : r9 = r2 := nI_inj2 (by omega) (by omega) (h4.symm.trans z4)
        subst er
        exact ⟨_, z5, yx_J.th q2 zb q1 ⟨g, e1⟩ P hcB hmB g1 z6 g2, fun _ => ⟨g, (g2 _ (by omega)).trans e1, e2⟩⟩
      · exact absurd ⟨p, h1, h3, r9, h2, h4⟩ z1
    · rcases hr with ⟨⟨p2, r2, z1, z2, z3, z4, z5⟩, z6⟩ | ⟨_, z2, z6⟩
      · exact absurd ⟨p2, z1, z3, r2, z2, z4⟩ h1
      · exact ⟨_, z2, yx_J.th q2 zb q1 hwB P hcB hmB g1 z6 g2, fun q => absurd q (by decide)⟩
set_option maxRecDepth 100000 in
theorem a_step {G : xx_G} {l : Launch} {A : xx_H} {z b i L cR sR : Nat} {xs : Nat → Int32} {Q : Option Value ⊕ String → xx_H → Prop} (I : yx_I A z b L xs) (hi : i + 6 ≤ L) (hL : L ≤ 3072) (K : ∀ C : xx_H, yx_I C z b L xs → xx_X G l mL_law 12 cR sR 1182 (xx_lv5 z b (b + 297) (b + 319) i) [] C Q)  : xx_X G l mL_law 12 (cR + 14) (sR + 11400) 312 (xx_lv5 z b (b + 297) (b + 319) i) [] A Q := by
  obtain ⟨hz, zb, bA, ⟨gw, hw⟩, m, n, ra, rd, W, le, mu, ta, tb, th9, st, lb, li, s9, u, w9, P, ⟨u8, HC⟩, k0, tu, N, S9, HM⟩ := I
  have HC2 := HC
  have HM2 := HM
  obtain ⟨c1, ⟨fc, c2, c3⟩, c4, c5, c6, c7, c8, ⟨ft, c9, c10⟩, ⟨ht, c11, c12⟩, c13, ⟨hp, c14, c15⟩, c16, c17, c18, c19, ⟨X0, t0, V0, o0, c20⟩⟩ := HC2
  obtain ⟨p1, p2, p3, p4, p5, p6, p7, p8, ⟨E, p9, p10, p11⟩⟩ := id P
  have hm1 := p1.1
  have hm := p1.2.1
  have hn1 := p1.2.2.1
  have hn := p1.2.2.2.1
  by_cases s0 : st = 0
  · subst s0
    refine xx_room (d2 := 12) (c2 := 1 + (0 + cR)) (s2 := 6 + (0 + sR)) (by omega) (by omega) (by omega) ?_
    refine k_step (d1 := 7) (c1 := 1) (s1 := 6) (d2 := 1) (c2 := 0) (s2 := 0) (P1 := fun k B => b + 320 ≤ B.1 ∧ B.2 z = xx_s L xs ∧ yx_m B (b + 297) m n ra rd W le mu ta tb th9 0 lb li s9 u w9 (.int k0) tu N S9 ∧ (k = 1 ∧ (∃ g, B.2 (b + 319) = xx_l 1 g) ∧ yx_c B b m n ra rd W le mu ta tb th9 0 lb li s9 u w9 u8)) (P2 := fun k v C => yx_J C z b L xs k ∧ (k = 0 → ∃ g, C.2 (b + 319) = xx_l 1 g ∧ g 0 = v.toInt64)) hi (by omega) (by decide) (by decide) hz (h_L_step c1 (r_X8_step (f := fun _ => 0) c1) (fun r B hr => ?_)) ?_ (fun k v C hC => ⟨hC.1.1, hC.2, K C hC.1.2⟩)
    · obtain ⟨h2, h3, eB⟩ := hr
      exact Or.inr (Or.inl ⟨h2, ⟨by omega, by rw [eB]; exact hz, HM.fr (fun q _ _ => by rw [eB]), ⟨rfl, ⟨gw, by rw [eB]; exact hw⟩, HC.to (fun q _ _ => by rw [eB]) (fun q _ => by rw [eB])⟩⟩⟩)
    · rintro k B ⟨q1, q2, hmB, rfl, hwB, hcB⟩
      refine ⟨q2, ⟨_, hmB.1⟩, xx_mono (fun r C hr => ?_) (r_X9_step hmB.1)⟩
      obtain ⟨g0, g1, z6, g2⟩ := hr
      exact ⟨_, g0, yx_J.th q2 zb q1 hwB P hcB hmB g1 z6 g2, fun q => absurd q (by decide)⟩
  · obtain ⟨lbm, q9, eq9, hq9⟩ := p7.resolve_left s0
    have q227 := hq9.1
    have lbb : lb < 2 ^ 31 := by omega
    refine xx_room (d2 := 12) (c2 := 1 + (0 + cR)) (s2 := 6 + (0 + sR)) (by omega) (by omega) (by omega) ?_
    refine k_step (d1 := 7) (c1 := 1) (s1 := 6) (d2 := 1) (c2 := 0) (s2 := 0) (P1 := fun k B => b + 320 ≤ B.1 ∧ B.2 z = xx_s L xs ∧ yx_m B (b + 297) m n ra rd W le mu ta tb th9 st lb li s9 u w9 (.int k0) tu N S9 ∧ ((k = 0 ∧ ∃ k1 w1, k1 < st ∧ w1 < 3 ∧ xs (i + 1) = nI k1 ∧ xs (i + 2) = nI w1 ∧ (∃ g, B.2 (b + 319) = xx_l 1 g ∧ g 0 = (nI (yq_w (yg_p m n W le lb) k1 w1)).toInt64) ∧ yx_c B b m n ra rd W le mu ta tb th9 st lb li s9 u w9 u8) ∨ (k = 2 ∧ ¬ yy_in (xs (i + 1)) st ∧ (∃ g, B.2 (b + 319) = xx_l 1 g) ∧ yx_c B b m n ra rd W le mu ta tb th9 st lb li s9 u w9 u8) ∨ (k = 3 ∧ yy_in (xs (i + 1)) st ∧ ¬ yy_in (xs (i + 2)) 3 ∧ (∃ g, B.2 (b + 319) = xx_l 1 g) ∧ yx_c B b m n ra rd W le mu ta tb th9 st lb li s9 u w9 u8))) (P2 := fun k v C => yx_J C z b L xs k ∧ (k = 0 → ∃ g, C.2 (b + 319) = xx_l 1 g ∧ g 0 = v.toInt64)) hi (by omega) (by decide) (by decide) hz (h_L_step c1 (c_X8_step c1 (by omega) (by omega) c14 c15 c16) (fun r B hr => ?_)) ?_ (fun k v C hC => ⟨hC.1.1, hC.2, K C hC.1.2⟩)
    · rcases hr with ⟨⟨k1, w1, h1, h2, h3, h4, h5⟩, e⟩ | ⟨h1, h2, h3, eB⟩ | ⟨h0, h1, h2, h3, eB⟩
      · subst e
        exact Or.inl ⟨_, h5, gw, hw, fun C y1 y2 y3 => ⟨by omega, (y3 z (by omega)).trans hz, HM.fr (fun q a1 a2 => y3 q (by omega)), Or.inl ⟨rfl, k1, w1, h1, h2, h3, h4, ⟨_, y2, rfl⟩, HC.to (fun q a1 a2 => y3 q (by omega)) (fun q a1 => y3 q (by omega))⟩⟩⟩
      · exact Or.inr (Or.inr (Or.inl ⟨h2, ⟨by omega, by rw [eB]; exact hz, HM.fr (fun q _ _ => by rw [eB]), Or.inr (Or.inl ⟨rfl, h1, ⟨gw, by rw [eB]; exact hw⟩, HC.to (fun q _ _ => by rw [eB]) (fun q _ => by rw [eB])⟩)⟩⟩))
      · exact Or.inr (Or.inr (Or.inr ⟨h2, ⟨by omega, by rw [eB]; exact hz, HM.fr (fun q _ _ => by rw [eB]), Or.inr (Or.inr ⟨rfl, h0, h1, ⟨gw, by rw [eB]; exact hw⟩, HC.to (fun q _ _ => by rw [eB]) (fun q _ => by rw [eB])⟩)⟩⟩))
    · rintro k B ⟨q1, q2, hmB, hout⟩
      obtain ⟨m1, m2, m3, m4, m5, m6, m7, m8, m9, m10, ⟨f12, m11⟩, m12, ⟨g19, m13⟩, ⟨g20, m14⟩, m15, ⟨g21, m16⟩⟩ := id hmB
      rw [if_neg s0] at m1
      refine ⟨q2, ⟨_, m1⟩, xx_mono (fun r C hr => ?_) (c_X9_step m1 lbb (by omega) (by omega) m12)⟩
      obtain ⟨g1, g2, hr⟩ := hr
      have fx : ∀ k, C.2 (b + 297) = xx_o 9 (xx_mf (b + 297) k (.int (nI m)) (.int (nI n)) (.int (nI lb)) (.int (nI st)) (.int (if li then 1 else 0)) (.int (nI s9.1)) tu) → C.2 (b + 297) = xx_o 9 (xx_mf (b + 297) k (.int (nI m)) (.int (nI n)) (.int (if st = 0 then -1 else nI lb)) (.int (nI st)) (.int (if li then 1 else 0)) (.int (nI s9.1)) tu) := fun k h => by rw [if_neg s0]; exact h
      rcases hout with ⟨rfl, k1, w1, h1, h2, h3, h4, ⟨g, e1, e2⟩, hcB⟩ | ⟨rfl, h1, hwB, hcB⟩ | ⟨rfl, h0, h1, hwB, hcB⟩
      · rcases hr with ⟨⟨k2, w2, z1, z2, z3, z4, z5⟩, z6⟩ | ⟨z1, _⟩ | ⟨_, z1, _⟩
        · have ep : k1 = k2 := nI_inj2 (by omega) (by omega) (h3.symm.trans z3)
          subst ep
          have er : w1 = w2 := nI_inj2 (by omega) (by omega) (h4.symm.trans z4)
          subst er
          exact ⟨_, z5, yx_J.th q2 zb q1 ⟨g, e1⟩ P hcB hmB g1 (fx _ z6) g2, fun _ => ⟨g, (g2 _ (by omega)).trans e1, e2⟩⟩
        · exact absurd ⟨k1, h1, h3⟩ z1
        · exact absurd ⟨w1, h2, h4⟩ z1
      · rcases hr with ⟨⟨k2, w2, z1, z2, z3, z4, z5⟩, z6⟩ | ⟨_, z2, z6⟩ | ⟨z0, _⟩
        · exact absurd ⟨k2, z1, z3⟩ h1
        · exact ⟨_, z2, yx_J.th q2 zb q1 hwB P hcB hmB g1 (fx _ z6) g2, fun q => absurd q (by decide)⟩
        · exact absurd z0 h1
      · rcases hr with ⟨⟨k2, w2, z1, z2, z3, z4, z5⟩, z6⟩ | ⟨z0, _⟩ | ⟨_, _, z2, z6⟩
        · exact absurd ⟨w2, z2, z4⟩ h1
        · exact absurd h0 z0
        · exact ⟨_, z2, yx_J.th q2 zb q1 hwB P hcB hmB g1 (fx _ z6) g2, fun q => absurd q (by decide)⟩
