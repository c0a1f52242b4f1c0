/-! ===== calls before the first game ===== -/
set_option maxRecDepth 100000 in
theorem b_pay {G : xx_G} {l : Launch} {A : xx_H} {z b i L cR sR : Nat} {xs : Nat → Int32} {Q : Option Value ⊕ String → xx_H → Prop} (I : yx_F A z b L xs) (hi : i + 6 ≤ L) (hL : L ≤ 3072) (K : ∀ C : xx_H, yx_F C z b L xs → xx_X G l mL_law 12 cR sR 1182 (xx_lv5 z b (b + 297) (b + 319) i) [] C Q) : xx_X G l mL_law 12 (cR + 14) (sR + 11400) 172 (xx_lv5 z b (b + 297) (b + 319) i) [] A Q := by
  obtain ⟨hz, zb, bA, ⟨gw, hw⟩, br, k0, md⟩ := I
  obtain ⟨hb, hk, npay, ntold, nth, ntab, npath, nent, nstr, nval, nprod, nown, nhand, ndiv⟩ := id br
  obtain ⟨hc, m0, m1, m2, m3, m4, m5, m6, m7, m8, m9, m10, m11, m12, m13, -⟩ := id md
  obtain ⟨hg9, p0, p1⟩ := npay
  obtain ⟨hf, za, hfb, hfl⟩ := nhand
  refine xx_room (d2 := 12) (c2 := 1 + (0 + cR)) (s2 := 6 + (0 + sR)) (by omega) (by omega) (by omega) ?_
  refine k_pay (d1 := 8) (c1 := 1) (s1 := 6) (d2 := 2) (c2 := 0) (s2 := 0) (P1 := (fun k B => k = 1 ∧ A.1 ≤ B.1 ∧ B.2 = A.2)) (P2 := (fun k C => yx_G C z b L xs k)) hi (by omega) (by decide) (by decide) hz
    (h_L_pay hb (r_X8_pay hb hk rfl) (fun r B hr => Or.inr (Or.inl ⟨hr.1, rfl, hr.2⟩))) ?_ (fun k C hC => ⟨hC.1, K C hC.2⟩)
  · rintro k B ⟨rfl, eA, eB⟩
    have hcB := hc
    rw [← eB] at hcB
    refine ⟨by rw [eB]; exact hz, ⟨_, hcB⟩, xx_room (d2 := 1) (c2 := 0) (s2 := 0) (by decide) (by decide) (by decide) (xx_mono (fun r C hr => ?_) (r_X9_pay hcB))⟩
    exact ⟨hr.1, yx_G.th (B := B) (by rw [eB]; exact hz) zb (by omega) ⟨gw, by rw [eB]; exact hw⟩ (br.to (by rw [eB]) (fun q _ _ => by rw [eB])) (md.to (k2 := k0) hcB (fun q _ _ => by rw [eB])) hr.2.1 hr.2.2.1 hr.2.2.2⟩
set_option maxRecDepth 100000 in
theorem b_run {G : xx_G} {l : Launch} {A : xx_H} {z b i L cR sR : Nat} {xs : Nat → Int32} {Q : Option Value ⊕ String → xx_H → Prop} (I : yx_F A z b L xs) (hi : i + 6 ≤ L) (hL : L ≤ 3072) (K : ∀ C : xx_H, yx_F C z b L xs → xx_X G l mL_law 12 cR sR 1182 (xx_lv5 z b (b + 297) (b + 319) i) [] C Q) : xx_X G l mL_law 12 (cR + 14) (sR + 11400) 256 (xx_lv5 z b (b + 297) (b + 319) i) [] A Q := by
  obtain ⟨hz, zb, bA, ⟨gw, hw⟩, br, k0, md⟩ := I
  obtain ⟨hb, hk, npay, ntold, nth, ntab, npath, nent, nstr, nval, nprod, nown, nhand, ndiv⟩ := id br
  obtain ⟨hc, m0, m1, m2, m3, m4, m5, m6, m7, m8, m9, m10, m11, m12, m13, -⟩ := id md
  obtain ⟨hg9, p0, p1⟩ := npay
  obtain ⟨hf, za, hfb, hfl⟩ := nhand
  refine xx_room (d2 := 12) (c2 := 1 + (0 + cR)) (s2 := 6 + (0 + sR)) (by omega) (by omega) (by omega) ?_
  refine k_run (d1 := 8) (c1 := 1) (s1 := 6) (d2 := 2) (c2 := 0) (s2 := 0) (P1 := (fun k B => k = 1 ∧ A.1 ≤ B.1 ∧ B.2 = A.2)) (P2 := (fun k v C => yx_G C z b L xs k ∧ (k = 0 → ∃ g, C.2 (b + 319) = xx_l 1 g ∧ g 0 = v.toInt64))) hi (by omega) (by decide) (by decide) hz
    (h_L_run hb (r_X8_run hb hk rfl) (fun r B hr => Or.inr (Or.inl ⟨hr.1, rfl, hr.2⟩))) ?_ (fun k v C hC => ⟨hC.1.1, hC.2, K C hC.1.2⟩)
  · rintro k B ⟨rfl, eA, eB⟩
    have hcB := hc
    rw [← eB] at hcB
    refine ⟨by rw [eB]; exact hz, ⟨_, hcB⟩, xx_room (d2 := 1) (c2 := 0) (s2 := 0) (by decide) (by decide) (by decide) (xx_mono (fun r C hr => ?_) (r_X9_run hcB))⟩
    exact ⟨_, hr.1, yx_G.th (B := B) (by rw [eB]; exact hz) zb (by omega) ⟨gw, by rw [eB]; exact hw⟩ (br.to (by rw [eB]) (fun q _ _ => by rw [eB])) (md.to (k2 := k0) hcB (fun q _ _ => by rw [eB])) hr.2.1 hr.2.2.1 hr.2.2.2, fun q => absurd q (by decide)⟩
set_option maxRecDepth 100000 in
theorem b_weight {G : xx_G} {l : Launch} {A : xx_H} {z b i L cR sR : Nat} {xs : Nat → Int32} {Q : Option Value ⊕ String → xx_H → Prop} (I : yx_F A z b L xs) (hi : i + 6 ≤ L) (hL : L ≤ 3072) (K : ∀ C : xx_H, yx_F C z b L xs → xx_X G l mL_law 12 cR sR 1182 (xx_lv5 z b (b + 297) (b + 319) i) [] C Q) : xx_X G l mL_law 12 (cR + 14) (sR + 11400) 380 (xx_lv5 z b (b + 297) (b + 319) i) [] A Q := by
  obtain ⟨hz, zb, bA, ⟨gw, hw⟩, br, k0, md⟩ := I
  obtain ⟨hb, hk, npay, ntold, nth, ntab, npath, nent, nstr, nval, nprod, nown, nhand, ndiv⟩ := id br
  obtain ⟨hc, m0, m1, m2, m3, m4, m5, m6, m7, m8, m9, m10, m11, m12, m13, -⟩ := id md
  obtain ⟨hg9, p0, p1⟩ := npay
  obtain ⟨hf, za, hfb, hfl⟩ := nhand
  refine xx_room (d2 := 12) (c2 := 1 + (0 + cR)) (s2 := 6 + (0 + sR)) (by omega) (by omega) (by omega) ?_
  refine k_weight (d1 := 8) (c1 := 1) (s1 := 6) (d2 := 2) (c2 := 0) (s2 := 0) (P1 := (fun k B => k = 1 ∧ A.1 ≤ B.1 ∧ B.2 = A.2)) (P2 := (fun k C => yx_G C z b L xs k)) hi (by omega) (by decide) (by decide) hz
    (h_L_weight hb (r_X8_weight hb hk rfl) (fun r B hr => Or.inr (Or.inl ⟨hr.1, rfl, hr.2⟩))) ?_ (fun k C hC => ⟨hC.1, K C hC.2⟩)
  · rintro k B ⟨rfl, eA, eB⟩
    have hcB := hc
    rw [← eB] at hcB
    refine ⟨by rw [eB]; exact hz, ⟨_, hcB⟩, xx_room (d2 := 1) (c2 := 0) (s2 := 0) (by decide) (by decide) (by decide) (xx_mono (fun r C hr => ?_) (r_X9_weight hcB))⟩
    exact ⟨hr.1, yx_G.th (B := B) (by rw [eB]; exact hz) zb (by omega) ⟨gw, by rw [eB]; exact hw⟩ (br.to (by rw [eB]) (fun q _ _ => by rw [eB])) (md.to (k2 := k0) hcB (fun q _ _ => by rw [eB])) hr.2.1 hr.2.2.1 hr.2.2.2⟩
set_option maxRecDepth 100000 in
theorem b_list {G : xx_G} {l : Launch} {A : xx_H} {z b i L cR sR : Nat} {xs : Nat → Int32} {Q : Option Value ⊕ String → xx_H → Prop} (I : yx_F A z b L xs) (hi : i + 6 ≤ L) (hL : L ≤ 3072) (K : ∀ C : xx_H, yx_F C z b L xs → xx_X G l mL_law 12 cR sR 1182 (xx_lv5 z b (b + 297) (b + 319) i) [] C Q) : xx_X G l mL_law 12 (cR + 14) (sR + 11400) 452 (xx_lv5 z b (b + 297) (b + 319) i) [] A Q := by
  obtain ⟨hz, zb, bA, ⟨gw, hw⟩, br, k0, md⟩ := I
  obtain ⟨hb, hk, npay, ntold, nth, ntab, npath, nent, nstr, nval, nprod, nown, nhand, ndiv⟩ := id br
  obtain ⟨hc, m0, m1, m2, m3, m4, m5, m6, m7, m8, m9, m10, m11, m12, m13, -⟩ := id md
  obtain ⟨hg9, p0, p1⟩ := npay
  obtain ⟨hf, za, hfb, hfl⟩ := nhand
  refine xx_room (d2 := 12) (c2 := 1 + (0 + cR)) (s2 := 6 + (0 + sR)) (by omega) (by omega) (by omega) ?_
  refine k_list (d1 := 8) (c1 := 1) (s1 := 6) (d2 := 2) (c2 := 0) (s2 := 0) (P1 := (fun k B => k = 1 ∧ A.1 ≤ B.1 ∧ B.2 = A.2)) (P2 := (fun k v C => yx_G C z b L xs k ∧ (k = 0 → ∃ g, C.2 (b + 319) = xx_l 1 g ∧ g 0 = v.toInt64))) hi (by omega) (by decide) (by decide) hz
    (h_L_list hb (r_X8_list hb hk rfl) (fun r B hr => Or.inr ⟨hr.1, rfl, hr.2⟩)) ?_ (fun k v C hC => ⟨hC.1.1, hC.2, K C hC.1.2⟩)
  · rintro k B ⟨rfl, eA, eB⟩
    have hcB := hc
    rw [← eB] at hcB
    refine ⟨by rw [eB]; exact hz, ⟨_, hcB⟩, xx_room (d2 := 1) (c2 := 0) (s2 := 0) (by decide) (by decide) (by decide) (xx_mono (fun r C hr => ?_) (r_X9_list hcB))⟩
    exact ⟨_, hr.1, yx_G.th (B := B) (by rw [eB]; exact hz) zb (by omega) ⟨gw, by rw [eB]; exact hw⟩ (br.to (by rw [eB]) (fun q _ _ => by rw [eB])) (md.to (k2 := k0) hcB (fun q _ _ => by rw [eB])) hr.2.1 hr.2.2.1 hr.2.2.2, fun q => absurd q (by decide)⟩
set_option maxRecDepth 100000 in
theorem b_round {G : xx_G} {l : Launch} {A : xx_H} {z b i L cR sR : Nat} {xs : Nat → Int32} {Q : Option Value ⊕ String → xx_H → Prop} (I : yx_F A z b L xs) (hi : i + 6 ≤ L) (hL : L ≤ 3072) (K : ∀ C : xx_H, yx_F C z b L xs → xx_X G l mL_law 12 cR sR 1182 (xx_lv5 z b (b + 297) (b + 319) i) [] C Q) : xx_X G l mL_law 12 (cR + 14) (sR + 11400) 911 (xx_lv5 z b (b + 297) (b + 319) i) [] A Q := by
  obtain ⟨hz, zb, bA, ⟨gw, hw⟩, br, k0, md⟩ := I
  obtain ⟨hb, hk, npay, ntold, nth, ntab, npath, nent, nstr, nval, nprod, nown, nhand, ndiv⟩ := id br
  obtain ⟨hc, m0, m1, m2, m3, m4, m5, m6, m7, m8, m9, m10, m11, m12, m13, -⟩ := id md
  obtain ⟨hg9, p0, p1⟩ := npay
  obtain ⟨hf, za, hfb, hfl⟩ := nhand
  refine xx_room (d2 := 12) (c2 := 1 + (0 + cR)) (s2 := 6 + (0 + sR)) (by omega) (by omega) (by omega) ?_
  refine k_round (d1 := 8) (c1 := 1) (s1 := 6) (d2 := 2) (c2 := 0) (s2 := 0) (P1 := (fun k B => k = 1 ∧ A.1 ≤ B.1 ∧ B.2 = A.2)) (P2 := (fun k v C => yx_G C z b L xs k ∧ (k = 0 → ∃ g, C.2 (b + 319) = xx_l 1 g ∧ g 0 = v.toInt64))) hi (by omega) (by decide) (by decide) hz
    (h_L_round hb (r_X8_round hb hk rfl) (fun r B hr => Or.inr ⟨hr.1, rfl, hr.2⟩)) ?_ (fun k v C hC => ⟨hC.1.1, hC.2, K C hC.1.2⟩)
  · rintro k B ⟨rfl, eA, eB⟩
    have hcB := hc
    rw [← eB] at hcB
    refine ⟨by rw [eB]; exact hz, ⟨_, hcB⟩, xx_room (d2 := 1) (c2 := 0) (s2 := 0) (by decide) (by decide) (by decide) (xx_mono (fun r C hr => ?_) (r_X9_round hcB))⟩
    exact ⟨_, hr.1, yx_G.th (B := B) (by rw [eB]; exact hz) zb (by omega) ⟨gw, by rw [eB]; exact hw⟩ (br.to (by rw [eB]) (fun q _ _ => by rw [eB])) (md.to (k2 := k0) hcB (fun q _ _ => by rw [eB])) hr.2.1 hr.2.2.1 hr.2.2.2, fun q => absurd q (by decide)⟩
set_option maxRecDepth 100000 in
theorem b_isThere {G : xx_G} {l : Launch} {A : xx_H} {z b i L cR sR : Nat} {xs : Nat → Int32} {Q : Option Value ⊕ String → xx_H → Prop} (I : yx_F A z b L xs) (hi : i + 6 ≤ L) (hL : L ≤ 3072) (K : ∀ C : xx_H, yx_F C z b L xs → xx_X G l mL_law 12 cR sR 1182 (xx_lv5 z b (b + 297) (b + 319) i) [] C Q) : xx_X G l mL_law 12 (cR + 14) (sR + 11400) 955 (xx_lv5 z b (b + 297) (b + 319) i) [] A Q := by
  obtain ⟨hz, zb, bA, ⟨gw, hw⟩, br, k0, md⟩ := I
  obtain ⟨hb, hk, npay, ntold, nth, ntab, npath, nent, nstr, nval, nprod, nown, nhand, ndiv⟩ := id br
  obtain ⟨hc, m0, m1, m2, m3, m4, m5, m6, m7, m8, m9, m10, m11, m12, m13, -⟩ := id md
  obtain ⟨hg9, p0, p1⟩ := npay
  obtain ⟨hf, za, hfb, hfl⟩ := nhand
  refine xx_room (d2 := 12) (c2 := 1 + (0 + cR)) (s2 := 6 + (0 + sR)) (by omega) (by omega) (by omega) ?_
  refine k_isThere (d1 := 8) (c1 := 1) (s1 := 6) (d2 := 2) (c2 := 0) (s2 := 0) (P1 := (fun k B => k = 1 ∧ A.1 ≤ B.1 ∧ B.2 = A.2)) (P2 := (fun k v C => yx_G C z b L xs k ∧ (k = 0 → ∃ g, C.2 (b + 319) = xx_l 1 g ∧ g 0 = (if v = 0 then 0 else 1)))) hi (by omega) (by decide) (by decide) hz
    (h_L_isThere hb (r_X8_isThere hb hk rfl) (fun r B hr => Or.inr (Or.inl ⟨hr.1, rfl, hr.2⟩))) ?_ (fun k v C hC => ⟨hC.1.1, hC.2, K C hC.1.2⟩)
  · rintro k B ⟨rfl, eA, eB⟩
    have hcB := hc
    rw [← eB] at hcB
    refine ⟨by rw [eB]; exact hz, ⟨_, hcB⟩, xx_room (d2 := 1) (c2 := 0) (s2 := 0) (by decide) (by decide) (by decide) (xx_mono (fun r C hr => ?_) (r_X9_isThere hcB))⟩
    exact ⟨_, hr.1, yx_G.th (B := B) (by rw [eB]; exact hz) zb (by omega) ⟨gw, by rw [eB]; exact hw⟩ (br.to (by rw [eB]) (fun q _ _ => by rw [eB])) (md.to (k2 := k0) hcB (fun q _ _ => by rw [eB])) hr.2.1 hr.2.2.1 hr.2.2.2, fun q => absurd q (by decide)⟩
set_option maxRecDepth 100000 in
theorem b_support {G : xx_G} {l : Launch} {A : xx_H} {z b i L cR sR : Nat} {xs : Nat → Int32} {Q : Option Value ⊕ String → xx_H → Prop} (I : yx_F A z b L xs) (hi : i + 6 ≤ L) (hL : L ≤ 3072) (K : ∀ C : xx_H, yx_F C z b L xs → xx_X G l mL_law 12 cR sR 1182 (xx_lv5 z b (b + 297) (b + 319) i) [] C Q) : xx_X G l mL_law 12 (cR + 14) (sR + 11400) 496 (xx_lv5 z b (b + 297) (b + 319) i) [] A Q := by
  obtain ⟨hz, zb, bA, ⟨gw, hw⟩, br, k0, md⟩ := I
  obtain ⟨hb, hk, npay, ntold, nth, ntab, npath, nent, nstr, nval, nprod, nown, nhand, ndiv⟩ := id br
  obtain ⟨hc, m0, m1, m2, m3, m4, m5, m6, m7, m8, m9, m10, m11, m12, m13, -⟩ := id md
  obtain ⟨hg9, p0, p1⟩ := npay
  obtain ⟨hf, za, hfb, hfl⟩ := nhand
  refine xx_room (d2 := 12) (c2 := 1 + (0 + cR)) (s2 := 6 + (0 + sR)) (by omega) (by omega) (by omega) ?_
  refine k_support (d1 := 8) (c1 := 1) (s1 := 6) (d2 := 2) (c2 := 0) (s2 := 0) (P1 := (fun k B => k = 1 ∧ A.1 ≤ B.1 ∧ B.2 = A.2)) (P2 := (fun k v C => yx_G C z b L xs k ∧ (k = 0 → ∃ g, C.2 (b + 319) = xx_l 1 g ∧ g 0 = v.toInt64))) hi (by omega) (by decide) (by decide) hz
    (h_L_support hb (r_X8_support hb hk rfl) (fun r B hr => Or.inr (Or.inl ⟨hr.1, rfl, hr.2⟩))) ?_ (fun k v C hC => ⟨hC.1.1, hC.2, K C hC.1.2⟩)
  · rintro k B ⟨rfl, eA, eB⟩
    have hcB := hc
    rw [← eB] at hcB
    refine ⟨by rw [eB]; exact hz, ⟨_, hcB⟩, xx_room (d2 := 1) (c2 := 0) (s2 := 0) (by decide) (by decide) (by decide) (xx_mono (fun r C hr => ?_) (r_X9_support hcB))⟩
    exact ⟨_, hr.1, yx_G.th (B := B) (by rw [eB]; exact hz) zb (by omega) ⟨gw, by rw [eB]; exact hw⟩ (br.to (by rw [eB]) (fun q _ _ => by rw [eB])) (md.to (k2 := k0) hcB (fun q _ _ => by rw [eB])) hr.2.1 hr.2.2.1 hr.2.2.2, fun q => absurd q (by decide)⟩
set_option maxRecDepth 100000 in
theorem b_strategy {G : xx_G} {l : Launch} {A : xx_H} {z b i L cR sR : Nat} {xs : Nat → Int32} {Q : Option Value ⊕ String → xx_H → Prop} (I : yx_F A z b L xs) (hi : i + 6 ≤ L) (hL : L ≤ 3072) (K : ∀ C : xx_H, yx_F C z b L xs → xx_X G l mL_law 12 cR sR 1182 (xx_lv5 z b (b + 297) (b + 319) i) [] C Q) : xx_X G l mL_law 12 (cR + 14) (sR + 11400) 564 (xx_lv5 z b (b + 297) (b + 319) i) [] A Q := by
  obtain ⟨hz, zb, bA, ⟨gw, hw⟩, br, k0, md⟩ := I
  obtain ⟨hb, hk, npay, ntold, nth, ntab, npath, nent, nstr, nval, nprod, nown, nhand, ndiv⟩ := id br
  obtain ⟨hc, m0, m1, m2, m3, m4, m5, m6, m7, m8, m9, m10, m11, m12, m13, -⟩ := id md
  obtain ⟨hg9, p0, p1⟩ := npay
  obtain ⟨hf, za, hfb, hfl⟩ := nhand
  refine xx_room (d2 := 12) (c2 := 1 + (0 + cR)) (s2 := 6 + (0 + sR)) (by omega) (by omega) (by omega) ?_
  refine k_strategy (d1 := 8) (c1 := 1) (s1 := 6) (d2 := 2) (c2 := 0) (s2 := 0) (P1 := (fun k B => k = 1 ∧ A.1 ≤ B.1 ∧ B.2 = A.2)) (P2 := (fun k v C => yx_G C z b L xs k ∧ (k = 0 → ∃ g, C.2 (b + 319) = xx_l 1 g ∧ g 0 = v.toInt64))) hi (by omega) (by decide) (by decide) hz
    (h_L_strategy hb (r_X8_strategy hb hk rfl) (fun r B hr => Or.inr (Or.inl ⟨hr.1, rfl, hr.2⟩))) ?_ (fun k v C hC => ⟨hC.1.1, hC.2, K C hC.1.2⟩)
  · rintro k B ⟨rfl, eA, eB⟩
    have hcB := hc
    rw [← eB] at hcB
    refine ⟨by rw [eB]; exact hz, ⟨_, hcB⟩, xx_room (d2 := 1) (c2 := 0) (s2 := 0) (by decide) (by decide) (by decide) (xx_mono (fun r C hr => ?_) (r_X9_strategy hcB))⟩
    exact ⟨_, hr.1, yx_G.th (B := B) (by rw [eB]; exact hz) zb (by omega) ⟨gw, by rw [eB]; exact hw⟩ (br.to (by rw [eB]) (fun q _ _ => by rw [eB])) (md.to (k2 := k0) hcB (fun q _ _ => by rw [eB])) hr.2.1 hr.2.2.1 hr.2.2.2, fun q => absurd q (by decide)⟩
set_option maxRecDepth 100000 in
theorem b_gets {G : xx_G} {l : Launch} {A : xx_H} {z b i L cR sR : Nat} {xs : Nat → Int32} {Q : Option Value ⊕ String → xx_H → Prop} (I : yx_F A z b L xs) (hi : i + 6 ≤ L) (hL : L ≤ 3072) (K : ∀ C : xx_H, yx_F C z b L xs → xx_X G l mL_law 12 cR sR 1182 (xx_lv5 z b (b + 297) (b + 319) i) [] C Q) : xx_X G l mL_law 12 (cR + 14) (sR + 11400) 644 (xx_lv5 z b (b + 297) (b + 319) i) [] A Q := by
  obtain ⟨hz, zb, bA, ⟨gw, hw⟩, br, k0, md⟩ := I
  obtain ⟨hb, hk, npay, ntold, nth, ntab, npath, nent, nstr, nval, nprod, nown, nhand, ndiv⟩ := id br
  obtain ⟨hc, m0, m1, m2, m3, m4, m5, m6, m7, m8, m9, m10, m11, m12, m13, -⟩ := id md
  obtain ⟨hg9, p0, p1⟩ := npay
  obtain ⟨hf, za, hfb, hfl⟩ := nhand
  refine xx_room (d2 := 12) (c2 := 1 + (0 + cR)) (s2 := 6 + (0 + sR)) (by omega) (by omega) (by omega) ?_
  refine k_gets (d1 := 8) (c1 := 1) (s1 := 6) (d2 := 2) (c2 := 0) (s2 := 0) (P1 := (fun k B => k = 1 ∧ A.1 ≤ B.1 ∧ B.2 = A.2)) (P2 := (fun k v C => yx_G C z b L xs k ∧ (k = 0 → ∃ g, C.2 (b + 319) = xx_l 1 g ∧ g 0 = v.toInt64))) hi (by omega) (by decide) (by decide) hz
    (h_L_gets hb (r_X8_gets hb hk rfl) (fun r B hr => Or.inr (Or.inl ⟨hr.1, rfl, hr.2⟩))) ?_ (fun k v C hC => ⟨hC.1.1, hC.2, K C hC.1.2⟩)
  · rintro k B ⟨rfl, eA, eB⟩
    have hcB := hc
    rw [← eB] at hcB
    refine ⟨by rw [eB]; exact hz, ⟨_, hcB⟩, xx_room (d2 := 1) (c2 := 0) (s2 := 0) (by decide) (by decide) (by decide) (xx_mono (fun r C hr => ?_) (r_X9_gets hcB))⟩
    exact ⟨_, hr.1, yx_G.th (B := B) (by rw [eB]; exact hz) zb (by omega) ⟨gw, by rw [eB]; exact hw⟩ (br.to (by rw [eB]) (fun q _ _ => by rw [eB])) (md.to (k2 := k0) hcB (fun q _ _ => by rw [eB])) hr.2.1 hr.2.2.1 hr.2.2.2, fun q => absurd q (by decide)⟩
set_option maxRecDepth 100000 in
theorem b_replies {G : xx_G} {l : Launch} {A : xx_H} {z b i L cR sR : Nat} {xs : Nat → Int32} {Q : Option Value ⊕ String → xx_H → Prop} (I : yx_F A z b L xs) (hi : i + 6 ≤ L) (hL : L ≤ 3072) (K : ∀ C : xx_H, yx_F C z b L xs → xx_X G l mL_law 12 cR sR 1182 (xx_lv5 z b (b + 297) (b + 319) i) [] C Q) : xx_X G l mL_law 12 (cR + 14) (sR + 11400) 724 (xx_lv5 z b (b + 297) (b + 319) i) [] A Q := by
  obtain ⟨hz, zb, bA, ⟨gw, hw⟩, br, k0, md⟩ := I
  obtain ⟨hb, hk, npay, ntold, nth, ntab, npath, nent, nstr, nval, nprod, nown, nhand, ndiv⟩ := id br
  obtain ⟨hc, m0, m1, m2, m3, m4, m5, m6, m7, m8, m9, m10, m11, m12, m13, -⟩ := id md
  obtain ⟨hg9, p0, p1⟩ := npay
  obtain ⟨hf, za, hfb, hfl⟩ := nhand
  refine xx_room (d2 := 12) (c2 := 1 + (0 + cR)) (s2 := 6 + (0 + sR)) (by omega) (by omega) (by omega) ?_
  refine k_replies (d1 := 8) (c1 := 1) (s1 := 6) (d2 := 2) (c2 := 0) (s2 := 0) (P1 := (fun k B => k = 1 ∧ A.1 ≤ B.1 ∧ B.2 = A.2)) (P2 := (fun k v C => yx_G C z b L xs k ∧ (k = 0 → ∃ g, C.2 (b + 319) = xx_l 1 g ∧ g 0 = v.toInt64))) hi (by omega) (by decide) (by decide) hz
    (h_L_replies hb (r_X8_replies hb hk rfl) (fun r B hr => Or.inr (Or.inl ⟨hr.1, rfl, hr.2⟩))) ?_ (fun k v C hC => ⟨hC.1.1, hC.2, K C hC.1.2⟩)
  · rintro k B ⟨rfl, eA, eB⟩
    have hcB := hc
    rw [← eB] at hcB
    refine ⟨by rw [eB]; exact hz, ⟨_, hcB⟩, xx_room (d2 := 1) (c2 := 0) (s2 := 0) (by decide) (by decide) (by decide) (xx_mono (fun r C hr => ?_) (r_X9_replies hcB))⟩
    exact ⟨_, hr.1, yx_G.th (B := B) (by rw [eB]; exact hz) zb (by omega) ⟨gw, by rw [eB]; exact hw⟩ (br.to (by rw [eB]) (fun q _ _ => by rw [eB])) (md.to (k2 := k0) hcB (fun q _ _ => by rw [eB])) hr.2.1 hr.2.2.1 hr.2.2.2, fun q => absurd q (by decide)⟩
set_option maxRecDepth 100000 in
theorem b_judge {G : xx_G} {l : Launch} {A : xx_H} {z b i L cR sR : Nat} {xs : Nat → Int32} {Q : Option Value ⊕ String → xx_H → Prop} (I : yx_F A z b L xs) (hi : i + 6 ≤ L) (hL : L ≤ 3072) (K : ∀ C : xx_H, yx_F C z b L xs → xx_X G l mL_law 12 cR sR 1182 (xx_lv5 z b (b + 297) (b + 319) i) [] C Q) : xx_X G l mL_law 12 (cR + 14) (sR + 11400) 792 (xx_lv5 z b (b + 297) (b + 319) i) [] A Q := by
  obtain ⟨hz, zb, bA, ⟨gw, hw⟩, br, k0, md⟩ := I
  obtain ⟨hb, hk, npay, ntold, nth, ntab, npath, nent, nstr, nval, nprod, nown, nhand, ndiv⟩ := id br
  obtain ⟨hc, m0, m1, m2, m3, m4, m5, m6, m7, m8, m9, m10, m11, m12, m13, -⟩ := id md
  obtain ⟨hg9, p0, p1⟩ := npay
  obtain ⟨hf, za, hfb, hfl⟩ := nhand
  refine xx_room (d2 := 12) (c2 := 1 + (0 + cR)) (s2 := 6 + (0 + sR)) (by omega) (by omega) (by omega) ?_
  refine k_judge (d1 := 8) (c1 := 1) (s1 := 6) (d2 := 2) (c2 := 0) (s2 := 0) (P1 := (fun k B => k = 1 ∧ A.1 ≤ B.1 ∧ B.2 = A.2)) (P2 := (fun k v C => yx_G C z b L xs k ∧ (k = 0 → ∃ g, C.2 (b + 319) = xx_l 1 g ∧ g 0 = (if v = 0 then 0 else 1)))) hi (by omega) (by decide) (by decide) hz
    (h_L_judge hb (r_X8_judge hb hk rfl) (fun r B hr => Or.inr ⟨hr.1, rfl, hr.2⟩)) ?_ (fun k v C hC => ⟨hC.1.1, hC.2, K C hC.1.2⟩)
  · rintro k B ⟨rfl, eA, eB⟩
    have hcB := hc
    rw [← eB] at hcB
    refine ⟨by rw [eB]; exact hz, ⟨_, hcB⟩, xx_room (d2 := 1) (c2 := 0) (s2 := 0) (by decide) (by decide) (by decide) (xx_mono (fun r C hr => ?_) (r_X9_judge hcB))⟩
    exact ⟨_, hr.1, yx_G.th (B := B) (by rw [eB]; exact hz) zb (by omega) ⟨gw, by rw [eB]; exact hw⟩ (br.to (by rw [eB]) (fun q _ _ => by rw [eB])) (md.to (k2 := k0) hcB (fun q _ _ => by rw [eB])) hr.2.1 hr.2.2.1 hr.2.2.2, fun q => absurd q (by decide)⟩
set_option maxRecDepth 100000 in
theorem b_step {G : xx_G} {l : Launch} {A : xx_H} {z b i L cR sR : Nat} {xs : Nat → Int32} {Q : Option Value ⊕ String → xx_H → Prop} (I : yx_F A z b L xs) (hi : i + 6 ≤ L) (hL : L ≤ 3072) (K : ∀ C : xx_H, yx_F C z b L xs → xx_X G l mL_law 12 cR sR 1182 (xx_lv5 z b (b + 297) (b + 319) i) [] C Q) : xx_X G l mL_law 12 (cR + 14) (sR + 11400) 312 (xx_lv5 z b (b + 297) (b + 319) i) [] A Q := by
  obtain ⟨hz, zb, bA, ⟨gw, hw⟩, br, k0, md⟩ := I
  obtain ⟨hb, hk, npay, ntold, nth, ntab, npath, nent, nstr, nval, nprod, nown, nhand, ndiv⟩ := id br
  obtain ⟨hc, m0, m1, m2, m3, m4, m5, m6, m7, m8, m9, m10, m11, m12, m13, -⟩ := id md
  obtain ⟨hg9, p0, p1⟩ := npay
  obtain ⟨hf, za, hfb, hfl⟩ := nhand
  refine xx_room (d2 := 12) (c2 := 1 + (0 + cR)) (s2 := 6 + (0 + sR)) (by omega) (by omega) (by omega) ?_
  refine k_step (d1 := 7) (c1 := 1) (s1 := 6) (d2 := 2) (c2 := 0) (s2 := 0) (P1 := (fun k B => k = 1 ∧ A.1 ≤ B.1 ∧ B.2 = A.2)) (P2 := (fun k v C => yx_G C z b L xs k ∧ (k = 0 → ∃ g, C.2 (b + 319) = xx_l 1 g ∧ g 0 = v.toInt64))) hi (by omega) (by decide) (by decide) hz
    (h_L_step hb (r_X8_step (f := fun _ => 0) hb) (fun r B hr => Or.inr (Or.inl ⟨hr.1, rfl, hr.2⟩))) ?_ (fun k v C hC => ⟨hC.1.1, hC.2, K C hC.1.2⟩)
  · rintro k B ⟨rfl, eA, eB⟩
    have hcB := hc
    rw [← eB] at hcB
    refine ⟨by rw [eB]; exact hz, ⟨_, hcB⟩, xx_room (d2 := 1) (c2 := 0) (s2 := 0) (by decide) (by decide) (by decide) (xx_mono (fun r C hr => ?_) (r_X9_step hcB))⟩
    exact ⟨_, hr.1, yx_G.th (B := B) (by rw [eB]; exact hz) zb (by omega) ⟨gw, by rw [eB]; exact hw⟩ (br.to (by rw [eB]) (fun q _ _ => by rw [eB])) (md.to (k2 := k0) hcB (fun q _ _ => by rw [eB])) hr.2.1 hr.2.2.1 hr.2.2.2, fun q => absurd q (by decide)⟩
set_option maxRecDepth 100000 in
theorem b_index {G : xx_G} {l : Launch} {A : xx_H} {z b i L cR sR : Nat} {xs : Nat → Int32} {Q : Option Value ⊕ String → xx_H → Prop} (I : yx_F A z b L xs) (hi : i + 6 ≤ L) (hL : L ≤ 3072) (K : ∀ C : xx_H, yx_F C z b L xs → xx_X G l mL_law 12 cR sR 1182 (xx_lv5 z b (b + 297) (b + 319) i) [] C Q) : xx_X G l mL_law 12 (cR + 14) (sR + 11400) 855 (xx_lv5 z b (b + 297) (b + 319) i) [] A Q := by
  obtain ⟨hz, zb, bA, ⟨gw, hw⟩, br, k0, md⟩ := I
  obtain ⟨hb, hk, npay, ntold, nth, ntab, npath, nent, nstr, nval, nprod, nown, nhand, ndiv⟩ := id br
  obtain ⟨hc, m0, m1, m2, m3, m4, m5, m6, m7, m8, m9, m10, m11, m12, m13, -⟩ := id md
  obtain ⟨hg9, p0, p1⟩ := npay
  obtain ⟨hf, za, hfb, hfl⟩ := nhand
  refine xx_room (d2 := 12) (c2 := 1 + (0 + cR)) (s2 := 6 + (0 + sR)) (by omega) (by omega) (by omega) ?_
  refine k_index (d1 := 7) (c1 := 1) (s1 := 6) (d2 := 2) (c2 := 0) (s2 := 0) (P1 := (fun k B => k = 1 ∧ A.1 ≤ B.1 ∧ B.2 = A.2)) (P2 := (fun k v C => yx_G C z b L xs k ∧ (k = 0 → ∃ g, C.2 (b + 319) = xx_l 1 g ∧ g 0 = v.toInt64))) hi (by omega) (by decide) (by decide) hz
    (h_L_index hb (r_X8_index (f := fun _ => 0) hb) (fun r B hr => Or.inr ⟨hr.1, rfl, hr.2⟩)) ?_ (fun k v C hC => ⟨hC.1.1, hC.2, K C hC.1.2⟩)
  · rintro k B ⟨rfl, eA, eB⟩
    have hcB := hc
    rw [← eB] at hcB
    refine ⟨by rw [eB]; exact hz, ⟨_, hcB⟩, xx_room (d2 := 1) (c2 := 0) (s2 := 0) (by decide) (by decide) (by decide) (xx_mono (fun r C hr => ?_) (r_X9_index hcB))⟩
    exact ⟨_, hr.1, yx_G.th (B := B) (by rw [eB]; exact hz) zb (by omega) ⟨gw, by rw [eB]; exact hw⟩ (br.to (by rw [eB]) (fun q _ _ => by rw [eB])) (md.to (k2 := k0) hcB (fun q _ _ => by rw [eB])) hr.2.1 hr.2.2.1 hr.2.2.2, fun q => absurd q (by decide)⟩
set_option maxRecDepth 100000 in
theorem b_gameB {G : xx_G} {l : Launch} {A : xx_H} {z b i L cR sR : Nat} {xs : Nat → Int32} {Q : Option Value ⊕ String → xx_H → Prop} (I : yx_F A z b L xs) (hi : i + 6 ≤ L) (hL : L ≤ 3072) (K : ∀ C : xx_H, yx_F C z b L xs → xx_X G l mL_law 12 cR sR 1182 (xx_lv5 z b (b + 297) (b + 319) i) [] C Q) (hg : ¬ (¬ xs (i + 1) < 1 ∧ ¬ 6 < xs (i + 1) ∧ ¬ xs (i + 2) < 1 ∧ xs (i + 2) ≤ 6)) : xx_X G l mL_law 12 (cR + 14) (sR + 11400) 124 (xx_lv5 z b (b + 297) (b + 319) i) [] A Q := by
  obtain ⟨hz, zb, bA, ⟨gw, hw⟩, br, k0, md⟩ := I
  obtain ⟨hb, hk, npay, ntold, nth, ntab, npath, nent, nstr, nval, nprod, nown, nhand, ndiv⟩ := id br
  obtain ⟨hc, m0, m1, m2, m3, m4, m5, m6, m7, m8, m9, m10, m11, m12, m13, -⟩ := id md
  obtain ⟨hg9, p0, p1⟩ := npay
  obtain ⟨hf, za, hfb, hfl⟩ := nhand
  refine xx_room (d2 := 12) (c2 := 1 + (0 + cR)) (s2 := 6 + (0 + sR)) (by omega) (by omega) (by omega) ?_
  refine k_game (d1 := 7) (c1 := 1) (s1 := 6) (d2 := 2) (c2 := 0) (s2 := 0) (P1 := (fun k B => k = 1 ∧ A.1 ≤ B.1 ∧ B.2 = A.2)) (P2 := (fun k C => yx_G C z b L xs k)) hi (by omega) (by decide) (by decide) hz
    (h_L_game hb (r_X8_game (f := fun _ => 0) hb hg) (fun r B hr => Or.inr ⟨hr.1, rfl, hr.2⟩)) ?_ (fun k C hC => ⟨hC.1, K C hC.2⟩)
  · rintro k B ⟨rfl, eA, eB⟩
    have hcB := hc
    rw [← eB] at hcB
    refine ⟨by rw [eB]; exact hz, ⟨_, hcB⟩, xx_room (d2 := 2) (c2 := 0) (s2 := 0) (by decide) (by decide) (by decide) (xx_mono (fun r C hr => ?_) (r_X9_game (yx_gin hg) hcB))⟩
    exact ⟨hr.1, yx_G.th (B := B) (by rw [eB]; exact hz) zb (by omega) ⟨gw, by rw [eB]; exact hw⟩ (br.to (by rw [eB]) (fun q _ _ => by rw [eB])) (md.to (k2 := k0) hcB (fun q _ _ => by rw [eB])) hr.2.1 hr.2.2.1 hr.2.2.2⟩
set_option maxRecDepth 100000 in
theorem b_toldB {G : xx_G} {l : Launch} {A : xx_H} {z b i L cR sR : Nat} {xs : Nat → Int32} {Q : Option Value ⊕ String → xx_H → Prop} (I : yx_F A z b L xs) (hi : i + 6 ≤ L) (hL : L ≤ 3072) (K : ∀ C : xx_H, yx_F C z b L xs → xx_X G l mL_law 12 cR sR 1182 (xx_lv5 z b (b + 297) (b + 319) i) [] C Q) (hg : (xs (i + 1)).toInt < 0 ∨ 6 < (xs (i + 1)).toInt) : xx_X G l mL_law 12 (cR + 14) (sR + 11400) 1126 (xx_lv5 z b (b + 297) (b + 319) i) [] A Q := by
  obtain ⟨hz, zb, bA, ⟨gw, hw⟩, br, k0, md⟩ := I
  obtain ⟨hb, hk, npay, ntold, nth, ntab, npath, nent, nstr, nval, nprod, nown, nhand, ndiv⟩ := id br
  obtain ⟨hc, m0, m1, m2, m3, m4, m5, m6, m7, m8, m9, m10, m11, m12, m13, -⟩ := id md
  obtain ⟨hg9, p0, p1⟩ := npay
  obtain ⟨hf, za, hfb, hfl⟩ := nhand
  have hg2 : xx_inn (xs (i + 1)) 0 6 = 0 := by
    unfold xx_inn
    rcases hg with q | q
    · rw [if_pos (Int32.lt_iff_toInt_lt.mpr q)]
    · by_cases q1 : xs (i + 1) < 0
      · rw [if_pos q1]
      · rw [if_neg q1, if_pos (show (6 : Int32) < xs (i + 1) from Int32.lt_iff_toInt_lt.mpr (by show (6 : Int) < _; exact q))]
  refine xx_room (d2 := 12) (c2 := 1 + (0 + cR)) (s2 := 6 + (0 + sR)) (by omega) (by omega) (by omega) ?_
  refine k_told (d1 := 7) (c1 := 1) (s1 := 6) (d2 := 2) (c2 := 0) (s2 := 0) (P1 := (fun k B => k = 1 ∧ A.1 ≤ B.1 ∧ B.2 = A.2)) (P2 := (fun k v C => yx_G C z b L xs k ∧ (k = 0 → ∃ g, C.2 (b + 319) = xx_l 1 g ∧ g 0 = v.toInt64))) hi (by omega) (by decide) (by decide) hz
    (h_L_told hb (r_X8_told (f := fun _ => 0) hb hg) (fun r B hr => Or.inr ⟨hr.1, rfl, hr.2⟩)) ?_ (fun k v C hC => ⟨hC.1.1, hC.2, K C hC.1.2⟩)
  · rintro k B ⟨rfl, eA, eB⟩
    have hcB := hc
    rw [← eB] at hcB
    refine ⟨by rw [eB]; exact hz, ⟨_, hcB⟩, xx_room (d2 := 1) (c2 := 0) (s2 := 0) (by decide) (by decide) (by decide) (xx_mono (fun r C hr => ?_) (c_X9_toldX hcB hg2))⟩
    exact ⟨_, hr.1, yx_G.th (B := B) (by rw [eB]; exact hz) zb (by omega) ⟨gw, by rw [eB]; exact hw⟩ (br.to (by rw [eB]) (fun q _ _ => by rw [eB])) (md.to (k2 := k0) hcB (fun q _ _ => by rw [eB])) hr.2.1 hr.2.2.1 hr.2.2.2, fun q => absurd q (by decide)⟩
set_option maxRecDepth 100000 in
theorem b_part0N {G : xx_G} {l : Launch} {A : xx_H} {z b i L cR sR : Nat} {xs : Nat → Int32} {Q : Option Value ⊕ String → xx_H → Prop} (I : yx_F A z b L xs) (hi : i + 6 ≤ L) (hL : L ≤ 3072) (K : ∀ C : xx_H, yx_F C z b L xs → xx_X G l mL_law 12 cR sR 1182 (xx_lv5 z b (b + 297) (b + 319) i) [] C Q) (h0 : xs (i + 1) = 0) (hg : xs (i + 2) < 0) : xx_X G l mL_law 12 (cR + 14) (sR + 11400) 1030 (xx_lv5 z b (b + 297) (b + 319) i) [] A Q := by
  obtain ⟨hz, zb, bA, ⟨gw, hw⟩, br, k0, md⟩ := I
  obtain ⟨hb, hk, npay, ntold, nth, ntab, npath, nent, nstr, nval, nprod, nown, nhand, ndiv⟩ := id br
  obtain ⟨hc, m0, m1, m2, m3, m4, m5, m6, m7, m8, m9, m10, m11, m12, m13, -⟩ := id md
  obtain ⟨hg9, p0, p1⟩ := npay
  obtain ⟨hf, za, hfb, hfl⟩ := nhand
  refine xx_room (d2 := 12) (c2 := 1 + (0 + cR)) (s2 := 6 + (0 + sR)) (by omega) (by omega) (by omega) ?_
  refine k_part0 (d1 := 7) (c1 := 1) (s1 := 6) (d2 := 2) (c2 := 0) (s2 := 0) (P1 := (fun k B => k = 1 ∧ A.1 ≤ B.1 ∧ B.2 = A.2)) (P2 := (fun k v C => yx_G C z b L xs k ∧ (k = 0 → ∃ g, C.2 (b + 319) = xx_l 1 g ∧ g 0 = v))) hi (by omega) (by decide) (by decide) hz h0
    (h_L_part hb (r_X8_part (f := fun _ => 0) hb hg) (fun r B hr => Or.inr ⟨hr.1, rfl, hr.2⟩)) ?_ (fun k v C hC => ⟨hC.1.1, hC.2, K C hC.1.2⟩)
  · rintro k B ⟨rfl, eA, eB⟩
    have hcB := hc
    rw [← eB] at hcB
    refine ⟨by rw [eB]; exact hz, ⟨_, hcB⟩, xx_room (d2 := 0) (c2 := 0) (s2 := 0) (by decide) (by decide) (by decide) (xx_mono (fun r C hr => ?_) (c_X9_partN0 hcB hg))⟩
    exact ⟨_, hr.1, yx_G.th (B := B) (by rw [eB]; exact hz) zb (by omega) ⟨gw, by rw [eB]; exact hw⟩ (br.to (by rw [eB]) (fun q _ _ => by rw [eB])) (md.to (k2 := k0) hcB (fun q _ _ => by rw [eB])) hr.2.1 hr.2.2.1 hr.2.2.2, fun q => absurd q (by decide)⟩
set_option maxRecDepth 100000 in
theorem b_part1N {G : xx_G} {l : Launch} {A : xx_H} {z b i L cR sR : Nat} {xs : Nat → Int32} {Q : Option Value ⊕ String → xx_H → Prop} (I : yx_F A z b L xs) (hi : i + 6 ≤ L) (hL : L ≤ 3072) (K : ∀ C : xx_H, yx_F C z b L xs → xx_X G l mL_law 12 cR sR 1182 (xx_lv5 z b (b + 297) (b + 319) i) [] C Q) (h0 : ¬ xs (i + 1) = 0) (hg : xs (i + 2) < 0) : xx_X G l mL_law 12 (cR + 14) (sR + 11400) 1030 (xx_lv5 z b (b + 297) (b + 319) i) [] A Q := by
  obtain ⟨hz, zb, bA, ⟨gw, hw⟩, br, k0, md⟩ := I
  obtain ⟨hb, hk, npay, ntold, nth, ntab, npath, nent, nstr, nval, nprod, nown, nhand, ndiv⟩ := id br
  obtain ⟨hc, m0, m1, m2, m3, m4, m5, m6, m7, m8, m9, m10, m11, m12, m13, -⟩ := id md
  obtain ⟨hg9, p0, p1⟩ := npay
  obtain ⟨hf, za, hfb, hfl⟩ := nhand
  refine xx_room (d2 := 12) (c2 := 1 + (0 + cR)) (s2 := 6 + (0 + sR)) (by omega) (by omega) (by omega) ?_
  refine k_part1 (d1 := 7) (c1 := 1) (s1 := 6) (d2 := 2) (c2 := 0) (s2 := 0) (P1 := (fun k B => k = 1 ∧ A.1 ≤ B.1 ∧ B.2 = A.2)) (P2 := (fun k v C => yx_G C z b L xs k ∧ (k = 0 → ∃ g, C.2 (b + 319) = xx_l 1 g ∧ g 0 = v))) hi (by omega) (by decide) (by decide) hz h0
    (h_L_part hb (r_X8_part (f := fun _ => 0) hb hg) (fun r B hr => Or.inr ⟨hr.1, rfl, hr.2⟩)) ?_ (fun k v C hC => ⟨hC.1.1, hC.2, K C hC.1.2⟩)
  · rintro k B ⟨rfl, eA, eB⟩
    have hcB := hc
    rw [← eB] at hcB
    refine ⟨by rw [eB]; exact hz, ⟨_, hcB⟩, xx_room (d2 := 0) (c2 := 0) (s2 := 0) (by decide) (by decide) (by decide) (xx_mono (fun r C hr => ?_) (c_X9_partN1 hcB hg))⟩
    exact ⟨_, hr.1, yx_G.th (B := B) (by rw [eB]; exact hz) zb (by omega) ⟨gw, by rw [eB]; exact hw⟩ (br.to (by rw [eB]) (fun q _ _ => by rw [eB])) (md.to (k2 := k0) hcB (fun q _ _ => by rw [eB])) hr.2.1 hr.2.2.1 hr.2.2.2, fun q => absurd q (by decide)⟩
set_option maxRecDepth 100000 in
theorem b_told0 {G : xx_G} {l : Launch} {A : xx_H} {z b i L cR sR : Nat} {xs : Nat → Int32} {Q : Option Value ⊕ String → xx_H → Prop} (I : yx_F A z b L xs) (hi : i + 6 ≤ L) (hL : L ≤ 3072) (K : ∀ C : xx_H, yx_F C z b L xs → xx_X G l mL_law 12 cR sR 1182 (xx_lv5 z b (b + 297) (b + 319) i) [] C Q) (ha : xs (i + 1) = 0) : xx_X G l mL_law 12 (cR + 14) (sR + 11400) 1126 (xx_lv5 z b (b + 297) (b + 319) i) [] A Q := by
  obtain ⟨hz, zb, bA, ⟨gw, hw⟩, br, k0, md⟩ := I
  obtain ⟨hb, hk, npay, ntold, nth, ntab, npath, nent, nstr, nval, nprod, nown, nhand, ndiv⟩ := id br
  obtain ⟨hc, m0, m1, m2, m3, m4, m5, m6, m7, m8, m9, m10, m11, m12, m13, -⟩ := id md
  obtain ⟨hg9, p0, p1⟩ := npay
  obtain ⟨hf, za, hfb, hfl⟩ := nhand
  refine xx_room (d2 := 12) (c2 := 0 + (0 + cR)) (s2 := 0 + (0 + sR)) (by omega) (by omega) (by omega) ?_
  refine k_told (d1 := 3) (c1 := 0) (s1 := 0) (d2 := 2) (c2 := 0) (s2 := 0) (P1 := (fun k B => k = 0 ∧ B.1 = A.1 ∧ (∃ g, B.2 (b + 319) = xx_l 1 g ∧ g 0 = (Int32.toInt64 0)) ∧ ∀ q, q ≠ b + 319 → B.2 q = A.2 q)) (P2 := (fun k v C => yx_G C z b L xs k ∧ (k = 0 → ∃ g, C.2 (b + 319) = xx_l 1 g ∧ g 0 = v.toInt64))) hi (by omega) (by decide) (by decide) hz
    (by rw [ha]; exact h_L_told hb (xx_room (d := 2) (d2 := 0) (c1 := 0) (c2 := 0) (s1 := 0) (s2 := 0) (by decide) (by decide) (by decide) (c_X8_told0 hb hk hg9 rfl rfl p0.1 p1.1)) (fun r B hr => Or.inl ⟨_, hr.1, gw, by rw [hr.2]; exact hw, fun C y1 y2 y3 => ⟨rfl, by rw [y1, hr.2], ⟨_, y2, rfl⟩, fun q hq => by rw [y3 q hq, hr.2]⟩⟩)) ?_ (fun k v C hC => ⟨hC.1.1, hC.2, K C hC.1.2⟩)
  · rintro k B ⟨rfl, y1, ⟨g, y2, y2b⟩, y3⟩
    have eB : ∀ q, q ≠ b + 319 → B.2 q = A.2 q := y3
    have hcB := (eB (b + 297) (by omega)).trans hc
    refine ⟨(eB z (by omega)).trans hz, ⟨_, hcB⟩, xx_room (d2 := 1) (c2 := 0) (s2 := 0) (by decide) (by decide) (by decide) (xx_mono (fun r C hr => ?_) (by rw [ha]; exact c_X9_told0 hcB ((eB _ (by omega)).trans m13) (by omega) rfl rfl))⟩
    exact ⟨_, hr.1, yx_G.th (B := B) ((eB z (by omega)).trans hz) zb (by omega) ⟨g, y2⟩ (br.to (eB _ (by omega)) (fun q a1 a2 => eB q (by omega))) (md.to (k2 := k0) hcB (fun q a1 a2 => eB q (by omega))) hr.2.1 hr.2.2.1 hr.2.2.2, fun _ => ⟨g, (hr.2.2.2 _ (by omega)).trans y2, y2b⟩⟩
set_option maxRecDepth 100000 in
theorem b_told1 {G : xx_G} {l : Launch} {A : xx_H} {z b i L cR sR : Nat} {xs : Nat → Int32} {Q : Option Value ⊕ String → xx_H → Prop} (I : yx_F A z b L xs) (hi : i + 6 ≤ L) (hL : L ≤ 3072) (K : ∀ C : xx_H, yx_F C z b L xs → xx_X G l mL_law 12 cR sR 1182 (xx_lv5 z b (b + 297) (b + 319) i) [] C Q) (ha : xs (i + 1) = 1) : xx_X G l mL_law 12 (cR + 14) (sR + 11400) 1126 (xx_lv5 z b (b + 297) (b + 319) i) [] A Q := by
  obtain ⟨hz, zb, bA, ⟨gw, hw⟩, br, k0, md⟩ := I
  obtain ⟨hb, hk, npay, ntold, nth, ntab, npath, nent, nstr, nval, nprod, nown, nhand, ndiv⟩ := id br
  obtain ⟨hc, m0, m1, m2, m3, m4, m5, m6, m7, m8, m9, m10, m11, m12, m13, -⟩ := id md
  obtain ⟨hg9, p0, p1⟩ := npay
  obtain ⟨hf, za, hfb, hfl⟩ := nhand
  refine xx_room (d2 := 12) (c2 := 0 + (0 + cR)) (s2 := 0 + (0 + sR)) (by omega) (by omega) (by omega) ?_
  refine k_told (d1 := 3) (c1 := 0) (s1 := 0) (d2 := 2) (c2 := 0) (s2 := 0) (P1 := (fun k B => k = 0 ∧ B.1 = A.1 ∧ (∃ g, B.2 (b + 319) = xx_l 1 g ∧ g 0 = (Int32.toInt64 0)) ∧ ∀ q, q ≠ b + 319 → B.2 q = A.2 q)) (P2 := (fun k v C => yx_G C z b L xs k ∧ (k = 0 → ∃ g, C.2 (b + 319) = xx_l 1 g ∧ g 0 = v.toInt64))) hi (by omega) (by decide) (by decide) hz
    (by rw [ha]; exact h_L_told hb (xx_room (d := 2) (d2 := 0) (c1 := 0) (c2 := 0) (s1 := 0) (s2 := 0) (by decide) (by decide) (by decide) (c_X8_told1 hb hk hg9 rfl rfl p0.1 p1.1)) (fun r B hr => Or.inl ⟨_, hr.1, gw, by rw [hr.2]; exact hw, fun C y1 y2 y3 => ⟨rfl, by rw [y1, hr.2], ⟨_, y2, rfl⟩, fun q hq => by rw [y3 q hq, hr.2]⟩⟩)) ?_ (fun k v C hC => ⟨hC.1.1, hC.2, K C hC.1.2⟩)
  · rintro k B ⟨rfl, y1, ⟨g, y2, y2b⟩, y3⟩
    have eB : ∀ q, q ≠ b + 319 → B.2 q = A.2 q := y3
    have hcB := (eB (b + 297) (by omega)).trans hc
    refine ⟨(eB z (by omega)).trans hz, ⟨_, hcB⟩, xx_room (d2 := 1) (c2 := 0) (s2 := 0) (by decide) (by decide) (by decide) (xx_mono (fun r C hr => ?_) (by rw [ha]; exact c_X9_told1 hcB ((eB _ (by omega)).trans m13) (by omega) rfl rfl))⟩
    exact ⟨_, hr.1, yx_G.th (B := B) ((eB z (by omega)).trans hz) zb (by omega) ⟨g, y2⟩ (br.to (eB _ (by omega)) (fun q a1 a2 => eB q (by omega))) (md.to (k2 := k0) hcB (fun q a1 a2 => eB q (by omega))) hr.2.1 hr.2.2.1 hr.2.2.2, fun _ => ⟨g, (hr.2.2.2 _ (by omega)).trans y2, y2b⟩⟩
set_option maxRecDepth 100000 in
theorem b_told2 {G : xx_G} {l : Launch} {A : xx_H} {z b i L cR sR : Nat} {xs : Nat → Int32} {Q : Option Value ⊕ String → xx_H → Prop} (I : yx_F A z b L xs) (hi : i + 6 ≤ L) (hL : L ≤ 3072) (K : ∀ C : xx_H, yx_F C z b L xs → xx_X G l mL_law 12 cR sR 1182 (xx_lv5 z b (b + 297) (b + 319) i) [] C Q) (ha : xs (i + 1) = 2) : xx_X G l mL_law 12 (cR + 14) (sR + 11400) 1126 (xx_lv5 z b (b + 297) (b + 319) i) [] A Q := by
  obtain ⟨hz, zb, bA, ⟨gw, hw⟩, br, k0, md⟩ := I
  obtain ⟨hb, hk, npay, ntold, nth, ntab, npath, nent, nstr, nval, nprod, nown, nhand, ndiv⟩ := id br
  obtain ⟨hc, m0, m1, m2, m3, m4, m5, m6, m7, m8, m9, m10, m11, m12, m13, -⟩ := id md
  obtain ⟨hg9, p0, p1⟩ := npay
  obtain ⟨hf, za, hfb, hfl⟩ := nhand
  refine xx_room (d2 := 12) (c2 := 0 + (0 + cR)) (s2 := 0 + (0 + sR)) (by omega) (by omega) (by omega) ?_
  refine k_told (d1 := 3) (c1 := 0) (s1 := 0) (d2 := 2) (c2 := 0) (s2 := 0) (P1 := (fun k B => k = 0 ∧ B.1 = A.1 ∧ (∃ g, B.2 (b + 319) = xx_l 1 g ∧ g 0 = (Int32.toInt64 0)) ∧ ∀ q, q ≠ b + 319 → B.2 q = A.2 q)) (P2 := (fun k v C => yx_G C z b L xs k ∧ (k = 0 → ∃ g, C.2 (b + 319) = xx_l 1 g ∧ g 0 = v.toInt64))) hi (by omega) (by decide) (by decide) hz
    (by rw [ha]; exact h_L_told hb (xx_room (d := 2) (d2 := 0) (c1 := 0) (c2 := 0) (s1 := 0) (s2 := 0) (by decide) (by decide) (by decide) (c_X8_told2 hb hk hg9 rfl rfl p0.1 p1.1)) (fun r B hr => Or.inl ⟨_, hr.1, gw, by rw [hr.2]; exact hw, fun C y1 y2 y3 => ⟨rfl, by rw [y1, hr.2], ⟨_, y2, rfl⟩, fun q hq => by rw [y3 q hq, hr.2]⟩⟩)) ?_ (fun k v C hC => ⟨hC.1.1, hC.2, K C hC.1.2⟩)
  · rintro k B ⟨rfl, y1, ⟨g, y2, y2b⟩, y3⟩
    have eB : ∀ q, q ≠ b + 319 → B.2 q = A.2 q := y3
    have hcB := (eB (b + 297) (by omega)).trans hc
    refine ⟨(eB z (by omega)).trans hz, ⟨_, hcB⟩, xx_room (d2 := 1) (c2 := 0) (s2 := 0) (by decide) (by decide) (by decide) (xx_mono (fun r C hr => ?_) (by rw [ha]; exact c_X9_told2 hcB ((eB _ (by omega)).trans m13) (by omega) rfl rfl))⟩
    exact ⟨_, hr.1, yx_G.th (B := B) ((eB z (by omega)).trans hz) zb (by omega) ⟨g, y2⟩ (br.to (eB _ (by omega)) (fun q a1 a2 => eB q (by omega))) (md.to (k2 := k0) hcB (fun q a1 a2 => eB q (by omega))) hr.2.1 hr.2.2.1 hr.2.2.2, fun _ => ⟨g, (hr.2.2.2 _ (by omega)).trans y2, y2b⟩⟩
set_option maxRecDepth 100000 in
theorem b_told3 {G : xx_G} {l : Launch} {A : xx_H} {z b i L cR sR : Nat} {xs : Nat → Int32} {Q : Option Value ⊕ String → xx_H → Prop} (I : yx_F A z b L xs) (hi : i + 6 ≤ L) (hL : L ≤ 3072) (K : ∀ C : xx_H, yx_F C z b L xs → xx_X G l mL_law 12 cR sR 1182 (xx_lv5 z b (b + 297) (b + 319) i) [] C Q) (ha : xs (i + 1) = 3) : xx_X G l mL_law 12 (cR + 14) (sR + 11400) 1126 (xx_lv5 z b (b + 297) (b + 319) i) [] A Q := by
  obtain ⟨hz, zb, bA, ⟨gw, hw⟩, br, k0, md⟩ := I
  obtain ⟨hb, hk, npay, ntold, nth, ntab, npath, nent, nstr, nval, nprod, nown, nhand, ndiv⟩ := id br
  obtain ⟨hc, m0, m1, m2, m3, m4, m5, m6, m7, m8, m9, m10, m11, m12, m13, -⟩ := id md
  obtain ⟨hg9, p0, p1⟩ := npay
  obtain ⟨hf, za, hfb, hfl⟩ := nhand
  refine xx_room (d2 := 12) (c2 := 0 + (0 + cR)) (s2 := 0 + (0 + sR)) (by omega) (by omega) (by omega) ?_
  refine k_told (d1 := 3) (c1 := 0) (s1 := 0) (d2 := 2) (c2 := 0) (s2 := 0) (P1 := (fun k B => k = 0 ∧ B.1 = A.1 ∧ (∃ g, B.2 (b + 319) = xx_l 1 g ∧ g 0 = (Int32.toInt64 0)) ∧ ∀ q, q ≠ b + 319 → B.2 q = A.2 q)) (P2 := (fun k v C => yx_G C z b L xs k ∧ (k = 0 → ∃ g, C.2 (b + 319) = xx_l 1 g ∧ g 0 = v.toInt64))) hi (by omega) (by decide) (by decide) hz
    (by rw [ha]; exact h_L_told hb (xx_room (d := 2) (d2 := 0) (c1 := 0) (c2 := 0) (s1 := 0) (s2 := 0) (by decide) (by decide) (by decide) (c_X8_told3 hb hk hg9 rfl rfl p0.1 p1.1)) (fun r B hr => Or.inl ⟨_, hr.1, gw, by rw [hr.2]; exact hw, fun C y1 y2 y3 => ⟨rfl, by rw [y1, hr.2], ⟨_, y2, rfl⟩, fun q hq => by rw [y3 q hq, hr.2]⟩⟩)) ?_ (fun k v C hC => ⟨hC.1.1, hC.2, K C hC.1.2⟩)
  · rintro k B ⟨rfl, y1, ⟨g, y2, y2b⟩, y3⟩
    have eB : ∀ q, q ≠ b + 319 → B.2 q = A.2 q := y3
    have hcB := (eB (b + 297) (by omega)).trans hc
    refine ⟨(eB z (by omega)).trans hz, ⟨_, hcB⟩, xx_room (d2 := 1) (c2 := 0) (s2 := 0) (by decide) (by decide) (by decide) (xx_mono (fun r C hr => ?_) (by rw [ha]; exact c_X9_told3 hcB ((eB _ (by omega)).trans m13) (by omega) rfl rfl))⟩
    exact ⟨_, hr.1, yx_G.th (B := B) ((eB z (by omega)).trans hz) zb (by omega) ⟨g, y2⟩ (br.to (eB _ (by omega)) (fun q a1 a2 => eB q (by omega))) (md.to (k2 := k0) hcB (fun q a1 a2 => eB q (by omega))) hr.2.1 hr.2.2.1 hr.2.2.2, fun _ => ⟨g, (hr.2.2.2 _ (by omega)).trans y2, y2b⟩⟩
set_option maxRecDepth 100000 in
theorem b_told4 {G : xx_G} {l : Launch} {A : xx_H} {z b i L cR sR : Nat} {xs : Nat → Int32} {Q : Option Value ⊕ String → xx_H → Prop} (I : yx_F A z b L xs) (hi : i + 6 ≤ L) (hL : L ≤ 3072) (K : ∀ C : xx_H, yx_F C z b L xs → xx_X G l mL_law 12 cR sR 1182 (xx_lv5 z b (b + 297) (b + 319) i) [] C Q) (ha : xs (i + 1) = 4) : xx_X G l mL_law 12 (cR + 14) (sR + 11400) 1126 (xx_lv5 z b (b + 297) (b + 319) i) [] A Q := by
  obtain ⟨hz, zb, bA, ⟨gw, hw⟩, br, k0, md⟩ := I
  obtain ⟨hb, hk, npay, ntold, nth, ntab, npath, nent, nstr, nval, nprod, nown, nhand, ndiv⟩ := id br
  obtain ⟨hc, m0, m1, m2, m3, m4, m5, m6, m7, m8, m9, m10, m11, m12, m13, -⟩ := id md
  obtain ⟨hg9, p0, p1⟩ := npay
  obtain ⟨hf, za, hfb, hfl⟩ := nhand
  refine xx_room (d2 := 12) (c2 := 0 + (0 + cR)) (s2 := 0 + (0 + sR)) (by omega) (by omega) (by omega) ?_
  refine k_told (d1 := 3) (c1 := 0) (s1 := 0) (d2 := 2) (c2 := 0) (s2 := 0) (P1 := (fun k B => k = 0 ∧ B.1 = A.1 ∧ (∃ g, B.2 (b + 319) = xx_l 1 g ∧ g 0 = (Int32.toInt64 (-1))) ∧ ∀ q, q ≠ b + 319 → B.2 q = A.2 q)) (P2 := (fun k v C => yx_G C z b L xs k ∧ (k = 0 → ∃ g, C.2 (b + 319) = xx_l 1 g ∧ g 0 = v.toInt64))) hi (by omega) (by decide) (by decide) hz
    (by rw [ha]; exact h_L_told hb (xx_room (d := 2) (d2 := 0) (c1 := 0) (c2 := 0) (s1 := 0) (s2 := 0) (by decide) (by decide) (by decide) (c_X8_told4 hb hk hg9 rfl rfl p0.1 p1.1)) (fun r B hr => Or.inl ⟨_, hr.1, gw, by rw [hr.2]; exact hw, fun C y1 y2 y3 => ⟨rfl, by rw [y1, hr.2], ⟨_, y2, rfl⟩, fun q hq => by rw [y3 q hq, hr.2]⟩⟩)) ?_ (fun k v C hC => ⟨hC.1.1, hC.2, K C hC.1.2⟩)
  · rintro k B ⟨rfl, y1, ⟨g, y2, y2b⟩, y3⟩
    have eB : ∀ q, q ≠ b + 319 → B.2 q = A.2 q := y3
    have hcB := (eB (b + 297) (by omega)).trans hc
    refine ⟨(eB z (by omega)).trans hz, ⟨_, hcB⟩, xx_room (d2 := 1) (c2 := 0) (s2 := 0) (by decide) (by decide) (by decide) (xx_mono (fun r C hr => ?_) (by rw [ha]; exact c_X9_told4 hcB ((eB _ (by omega)).trans m13) (by omega) rfl rfl))⟩
    exact ⟨_, hr.1, yx_G.th (B := B) ((eB z (by omega)).trans hz) zb (by omega) ⟨g, y2⟩ (br.to (eB _ (by omega)) (fun q a1 a2 => eB q (by omega))) (md.to (k2 := k0) hcB (fun q a1 a2 => eB q (by omega))) hr.2.1 hr.2.2.1 hr.2.2.2, fun _ => ⟨g, (hr.2.2.2 _ (by omega)).trans y2, y2b⟩⟩
set_option maxRecDepth 100000 in
theorem b_told5 {G : xx_G} {l : Launch} {A : xx_H} {z b i L cR sR : Nat} {xs : Nat → Int32} {Q : Option Value ⊕ String → xx_H → Prop} (I : yx_F A z b L xs) (hi : i + 6 ≤ L) (hL : L ≤ 3072) (K : ∀ C : xx_H, yx_F C z b L xs → xx_X G l mL_law 12 cR sR 1182 (xx_lv5 z b (b + 297) (b + 319) i) [] C Q) (ha : xs (i + 1) = 5) : xx_X G l mL_law 12 (cR + 14) (sR + 11400) 1126 (xx_lv5 z b (b + 297) (b + 319) i) [] A Q := by
  obtain ⟨hz, zb, bA, ⟨gw, hw⟩, br, k0, md⟩ := I
  obtain ⟨hb, hk, npay, ntold, nth, ntab, npath, nent, nstr, nval, nprod, nown, nhand, ndiv⟩ := id br
  obtain ⟨hc, m0, m1, m2, m3, m4, m5, m6, m7, m8, m9, m10, m11, m12, m13, -⟩ := id md
  obtain ⟨hg9, p0, p1⟩ := npay
  obtain ⟨hf, za, hfb, hfl⟩ := nhand
  refine xx_room (d2 := 12) (c2 := 0 + (0 + cR)) (s2 := 0 + (0 + sR)) (by omega) (by omega) (by omega) ?_
  refine k_told (d1 := 3) (c1 := 0) (s1 := 0) (d2 := 2) (c2 := 0) (s2 := 0) (P1 := (fun k B => k = 0 ∧ B.1 = A.1 ∧ (∃ g, B.2 (b + 319) = xx_l 1 g ∧ g 0 = (Int32.toInt64 0)) ∧ ∀ q, q ≠ b + 319 → B.2 q = A.2 q)) (P2 := (fun k v C => yx_G C z b L xs k ∧ (k = 0 → ∃ g, C.2 (b + 319) = xx_l 1 g ∧ g 0 = v.toInt64))) hi (by omega) (by decide) (by decide) hz
    (by rw [ha]; exact h_L_told hb (xx_room (d := 2) (d2 := 0) (c1 := 0) (c2 := 0) (s1 := 0) (s2 := 0) (by decide) (by decide) (by decide) (c_X8_told5 hb hk hg9 rfl rfl p0.1 p1.1)) (fun r B hr => Or.inl ⟨_, hr.1, gw, by rw [hr.2]; exact hw, fun C y1 y2 y3 => ⟨rfl, by rw [y1, hr.2], ⟨_, y2, rfl⟩, fun q hq => by rw [y3 q hq, hr.2]⟩⟩)) ?_ (fun k v C hC => ⟨hC.1.1, hC.2, K C hC.1.2⟩)
  · rintro k B ⟨rfl, y1, ⟨g, y2, y2b⟩, y3⟩
    have eB : ∀ q, q ≠ b + 319 → B.2 q = A.2 q := y3
    have hcB := (eB (b + 297) (by omega)).trans hc
    refine ⟨(eB z (by omega)).trans hz, ⟨_, hcB⟩, xx_room (d2 := 1) (c2 := 0) (s2 := 0) (by decide) (by decide) (by decide) (xx_mono (fun r C hr => ?_) (by rw [ha]; exact c_X9_told5 hcB ((eB _ (by omega)).trans m13) (by omega) rfl rfl))⟩
    exact ⟨_, hr.1, yx_G.th (B := B) ((eB z (by omega)).trans hz) zb (by omega) ⟨g, y2⟩ (br.to (eB _ (by omega)) (fun q a1 a2 => eB q (by omega))) (md.to (k2 := k0) hcB (fun q a1 a2 => eB q (by omega))) hr.2.1 hr.2.2.1 hr.2.2.2, fun _ => ⟨g, (hr.2.2.2 _ (by omega)).trans y2, y2b⟩⟩
set_option maxRecDepth 100000 in
theorem b_told6 {G : xx_G} {l : Launch} {A : xx_H} {z b i L cR sR : Nat} {xs : Nat → Int32} {Q : Option Value ⊕ String → xx_H → Prop} (I : yx_F A z b L xs) (hi : i + 6 ≤ L) (hL : L ≤ 3072) (K : ∀ C : xx_H, yx_F C z b L xs → xx_X G l mL_law 12 cR sR 1182 (xx_lv5 z b (b + 297) (b + 319) i) [] C Q) (ha : xs (i + 1) = 6) : xx_X G l mL_law 12 (cR + 14) (sR + 11400) 1126 (xx_lv5 z b (b + 297) (b + 319) i) [] A Q := by
  obtain ⟨hz, zb, bA, ⟨gw, hw⟩, br, k0, md⟩ := I
  obtain ⟨hb, hk, npay, ntold, nth, ntab, npath, nent, nstr, nval, nprod, nown, nhand, ndiv⟩ := id br
  obtain ⟨hc, m0, m1, m2, m3, m4, m5, m6, m7, m8, m9, m10, m11, m12, m13, -⟩ := id md
  obtain ⟨hg9, p0, p1⟩ := npay
  obtain ⟨hf, za, hfb, hfl⟩ := nhand
  refine xx_room (d2 := 12) (c2 := 0 + (0 + cR)) (s2 := 0 + (0 + sR)) (by omega) (by omega) (by omega) ?_
  refine k_told (d1 := 3) (c1 := 0) (s1 := 0) (d2 := 2) (c2 := 0) (s2 := 0) (P1 := (fun k B => k = 0 ∧ B.1 = A.1 ∧ (∃ g, B.2 (b + 319) = xx_l 1 g ∧ g 0 = (Int32.toInt64 0)) ∧ ∀ q, q ≠ b + 319 → B.2 q = A.2 q)) (P2 := (fun k v C => yx_G C z b L xs k ∧ (k = 0 → ∃ g, C.2 (b + 319) = xx_l 1 g ∧ g 0 = v.toInt64))) hi (by omega) (by decide) (by decide) hz
    (by rw [ha]; exact h_L_told hb (xx_room (d := 2) (d2 := 0) (c1 := 0) (c2 := 0) (s1 := 0) (s2 := 0) (by decide) (by decide) (by decide) (c_X8_told6 hb hk hg9 rfl rfl p0.1 p1.1)) (fun r B hr => Or.inl ⟨_, hr.1, gw, by rw [hr.2]; exact hw, fun C y1 y2 y3 => ⟨rfl, by rw [y1, hr.2], ⟨_, y2, rfl⟩, fun q hq => by rw [y3 q hq, hr.2]⟩⟩)) ?_ (fun k v C hC => ⟨hC.1.1, hC.2, K C hC.1.2⟩)
  · rintro k B ⟨rfl, y1, ⟨g, y2, y2b⟩, y3⟩
    have eB : ∀ q, q ≠ b + 319 → B.2 q = A.2 q := y3
    have hcB := (eB (b + 297) (by omega)).trans hc
    refine ⟨(eB z (by omega)).trans hz, ⟨_, hcB⟩, xx_room (d2 := 1) (c2 := 0) (s2 := 0) (by decide) (by decide) (by decide) (xx_mono (fun r C hr => ?_) (by rw [ha]; exact c_X9_told6 hcB ((eB _ (by omega)).trans m13) (by omega) rfl rfl))⟩
    exact ⟨_, hr.1, yx_G.th (B := B) ((eB z (by omega)).trans hz) zb (by omega) ⟨g, y2⟩ (br.to (eB _ (by omega)) (fun q a1 a2 => eB q (by omega))) (md.to (k2 := k0) hcB (fun q a1 a2 => eB q (by omega))) hr.2.1 hr.2.2.1 hr.2.2.2, fun _ => ⟨g, (hr.2.2.2 _ (by omega)).trans y2, y2b⟩⟩
set_option maxRecDepth 100000 in
theorem b_part0A {G : xx_G} {l : Launch} {A : xx_H} {z b i L cR sR : Nat} {xs : Nat → Int32} {Q : Option Value ⊕ String → xx_H → Prop} (I : yx_F A z b L xs) (hi : i + 6 ≤ L) (hL : L ≤ 3072) (K : ∀ C : xx_H, yx_F C z b L xs → xx_X G l mL_law 12 cR sR 1182 (xx_lv5 z b (b + 297) (b + 319) i) [] C Q) (h0 : xs (i + 1) = 0) (hp : ¬ xs (i + 2) < 0) (hq : ¬ 20 ≤ xs (i + 2)) : xx_X G l mL_law 12 (cR + 14) (sR + 11400) 1030 (xx_lv5 z b (b + 297) (b + 319) i) [] A Q := by
  obtain ⟨hz, zb, bA, ⟨gw, hw⟩, br, k0, md⟩ := I
  obtain ⟨hb, hk, npay, ntold, nth, ntab, npath, nent, nstr, nval, nprod, nown, nhand, ndiv⟩ := id br
  obtain ⟨hc, m0, m1, m2, m3, m4, m5, m6, m7, m8, m9, m10, m11, m12, m13, -⟩ := id md
  obtain ⟨hg9, p0, p1⟩ := npay
  obtain ⟨hf, za, hfb, hfl⟩ := nhand
  refine xx_room (d2 := 12) (c2 := 0 + (0 + cR)) (s2 := 0 + (0 + sR)) (by omega) (by omega) (by omega) ?_
  refine k_part0 (d1 := 3) (c1 := 0) (s1 := 0) (d2 := 2) (c2 := 0) (s2 := 0) (P1 := (fun k B => k = 0 ∧ B.1 = A.1 ∧ (∃ g, B.2 (b + 319) = xx_l 1 g ∧ g 0 = 0) ∧ ∀ q, q ≠ b + 319 → B.2 q = A.2 q)) (P2 := (fun k v C => yx_G C z b L xs k ∧ (k = 0 → ∃ g, C.2 (b + 319) = xx_l 1 g ∧ g 0 = v))) hi (by omega) (by decide) (by decide) hz h0
    (h_L_part hb (xx_room (d := 2) (d2 := 1) (c1 := 0) (c2 := 0) (s1 := 0) (s2 := 0) (by decide) (by decide) (by decide) (c_X8_part0 hb hf za.1 hfb hfl hp)) (fun r B hr => Or.inl ⟨_, hr.1, gw, by rw [hr.2]; exact hw, fun C y1 y2 y3 => ⟨rfl, by rw [y1, hr.2], ⟨_, y2, rfl⟩, fun q hq => by rw [y3 q hq, hr.2]⟩⟩)) ?_ (fun k v C hC => ⟨hC.1.1, hC.2, K C hC.1.2⟩)
  · rintro k B ⟨rfl, y1, ⟨g, y2, y2b⟩, y3⟩
    have eB : ∀ q, q ≠ b + 319 → B.2 q = A.2 q := y3
    have hcB := (eB (b + 297) (by omega)).trans hc
    refine ⟨(eB z (by omega)).trans hz, ⟨_, hcB⟩, xx_room (d2 := 0) (c2 := 0) (s2 := 0) (by decide) (by decide) (by decide) (xx_mono (fun r C hr => ?_) (c_X9_part0 hcB ((eB _ (by omega)).trans m0) ((eB _ (by omega)).trans m1) (by omega) (by omega) rfl rfl rfl hp hq))⟩
    exact ⟨_, hr.1, yx_G.th (B := B) ((eB z (by omega)).trans hz) zb (by omega) ⟨g, y2⟩ (br.to (eB _ (by omega)) (fun q a1 a2 => eB q (by omega))) (md.to (k2 := k0) hcB (fun q a1 a2 => eB q (by omega))) hr.2.1 hr.2.2.1 hr.2.2.2, fun _ => ⟨g, (hr.2.2.2 _ (by omega)).trans y2, y2b⟩⟩
set_option maxRecDepth 100000 in
theorem b_part0B {G : xx_G} {l : Launch} {A : xx_H} {z b i L cR sR : Nat} {xs : Nat → Int32} {Q : Option Value ⊕ String → xx_H → Prop} (I : yx_F A z b L xs) (hi : i + 6 ≤ L) (hL : L ≤ 3072) (K : ∀ C : xx_H, yx_F C z b L xs → xx_X G l mL_law 12 cR sR 1182 (xx_lv5 z b (b + 297) (b + 319) i) [] C Q) (h0 : xs (i + 1) = 0) (hp : ¬ xs (i + 2) < 0) (hq : 20 ≤ xs (i + 2)) : xx_X G l mL_law 12 (cR + 14) (sR + 11400) 1030 (xx_lv5 z b (b + 297) (b + 319) i) [] A Q := by
  obtain ⟨hz, zb, bA, ⟨gw, hw⟩, br, k0, md⟩ := I
  obtain ⟨hb, hk, npay, ntold, nth, ntab, npath, nent, nstr, nval, nprod, nown, nhand, ndiv⟩ := id br
  obtain ⟨hc, m0, m1, m2, m3, m4, m5, m6, m7, m8, m9, m10, m11, m12, m13, -⟩ := id md
  obtain ⟨hg9, p0, p1⟩ := npay
  obtain ⟨hf, za, hfb, hfl⟩ := nhand
  refine xx_room (d2 := 12) (c2 := 0 + (0 + cR)) (s2 := 0 + (0 + sR)) (by omega) (by omega) (by omega) ?_
  refine k_part0 (d1 := 3) (c1 := 0) (s1 := 0) (d2 := 2) (c2 := 0) (s2 := 0) (P1 := (fun k B => k = 0 ∧ B.1 = A.1 ∧ (∃ g, B.2 (b + 319) = xx_l 1 g ∧ g 0 = 0) ∧ ∀ q, q ≠ b + 319 → B.2 q = A.2 q)) (P2 := (fun k v C => yx_G C z b L xs k ∧ (k = 0 → ∃ g, C.2 (b + 319) = xx_l 1 g ∧ g 0 = v))) hi (by omega) (by decide) (by decide) hz h0
    (h_L_part hb (xx_room (d := 2) (d2 := 1) (c1 := 0) (c2 := 0) (s1 := 0) (s2 := 0) (by decide) (by decide) (by decide) (c_X8_part0 hb hf za.1 hfb hfl hp)) (fun r B hr => Or.inl ⟨_, hr.1, gw, by rw [hr.2]; exact hw, fun C y1 y2 y3 => ⟨rfl, by rw [y1, hr.2], ⟨_, y2, rfl⟩, fun q hq => by rw [y3 q hq, hr.2]⟩⟩)) ?_ (fun k v C hC => ⟨hC.1.1, hC.2, K C hC.1.2⟩)
  · rintro k B ⟨rfl, y1, ⟨g, y2, y2b⟩, y3⟩
    have eB : ∀ q, q ≠ b + 319 → B.2 q = A.2 q := y3
    have hcB := (eB (b + 297) (by omega)).trans hc
    refine ⟨(eB z (by omega)).trans hz, ⟨_, hcB⟩, xx_room (d2 := 0) (c2 := 0) (s2 := 0) (by decide) (by decide) (by decide) (xx_mono (fun r C hr => ?_) (c_X9_partB0 hcB hq))⟩
    exact ⟨_, hr.1, yx_G.th (B := B) ((eB z (by omega)).trans hz) zb (by omega) ⟨g, y2⟩ (br.to (eB _ (by omega)) (fun q a1 a2 => eB q (by omega))) (md.to (k2 := k0) hcB (fun q a1 a2 => eB q (by omega))) hr.2.1 hr.2.2.1 hr.2.2.2, fun _ => ⟨g, (hr.2.2.2 _ (by omega)).trans y2, y2b⟩⟩
set_option maxRecDepth 100000 in
theorem b_part1Z {G : xx_G} {l : Launch} {A : xx_H} {z b i L cR sR : Nat} {xs : Nat → Int32} {Q : Option Value ⊕ String → xx_H → Prop} (I : yx_F A z b L xs) (hi : i + 6 ≤ L) (hL : L ≤ 3072) (K : ∀ C : xx_H, yx_F C z b L xs → xx_X G l mL_law 12 cR sR 1182 (xx_lv5 z b (b + 297) (b + 319) i) [] C Q) (h0 : ¬ xs (i + 1) = 0) (ha : xs (i + 2) = 0) : xx_X G l mL_law 12 (cR + 14) (sR + 11400) 1030 (xx_lv5 z b (b + 297) (b + 319) i) [] A Q := by
  obtain ⟨hz, zb, bA, ⟨gw, hw⟩, br, k0, md⟩ := I
  obtain ⟨hb, hk, npay, ntold, nth, ntab, npath, nent, nstr, nval, nprod, nown, nhand, ndiv⟩ := id br
  obtain ⟨hc, m0, m1, m2, m3, m4, m5, m6, m7, m8, m9, m10, m11, m12, m13, -⟩ := id md
  obtain ⟨hg9, p0, p1⟩ := npay
  obtain ⟨hf, za, hfb, hfl⟩ := nhand
  refine xx_room (d2 := 12) (c2 := 0 + (0 + cR)) (s2 := 0 + (0 + sR)) (by omega) (by omega) (by omega) ?_
  refine k_part1 (d1 := 3) (c1 := 0) (s1 := 0) (d2 := 2) (c2 := 0) (s2 := 0) (P1 := (fun k B => k = 0 ∧ B.1 = A.1 ∧ (∃ g, B.2 (b + 319) = xx_l 1 g ∧ g 0 = 1) ∧ ∀ q, q ≠ b + 319 → B.2 q = A.2 q)) (P2 := (fun k v C => yx_G C z b L xs k ∧ (k = 0 → ∃ g, C.2 (b + 319) = xx_l 1 g ∧ g 0 = v))) hi (by omega) (by decide) (by decide) hz h0
    (by rw [ha]; exact h_L_part hb (xx_room (d := 2) (d2 := 1) (c1 := 0) (c2 := 0) (s1 := 0) (s2 := 0) (by decide) (by decide) (by decide) (c_X8_part1 hb hf za.1 hfb hfl)) (fun r B hr => Or.inl ⟨_, hr.1, gw, by rw [hr.2]; exact hw, fun C y1 y2 y3 => ⟨rfl, by rw [y1, hr.2], ⟨_, y2, rfl⟩, fun q hq => by rw [y3 q hq, hr.2]⟩⟩)) ?_ (fun k v C hC => ⟨hC.1.1, hC.2, K C hC.1.2⟩)
  · rintro k B ⟨rfl, y1, ⟨g, y2, y2b⟩, y3⟩
    have eB : ∀ q, q ≠ b + 319 → B.2 q = A.2 q := y3
    have hcB := (eB (b + 297) (by omega)).trans hc
    refine ⟨(eB z (by omega)).trans hz, ⟨_, hcB⟩, xx_room (d2 := 0) (c2 := 0) (s2 := 0) (by decide) (by decide) (by decide) (xx_mono (fun r C hr => ?_) (by rw [ha]; exact c_X9_part1 hcB ((eB _ (by omega)).trans m0) ((eB _ (by omega)).trans m1) (by omega) (by omega) rfl rfl rfl))⟩
    exact ⟨_, hr.1, yx_G.th (B := B) ((eB z (by omega)).trans hz) zb (by omega) ⟨g, y2⟩ (br.to (eB _ (by omega)) (fun q a1 a2 => eB q (by omega))) (md.to (k2 := k0) hcB (fun q a1 a2 => eB q (by omega))) hr.2.1 hr.2.2.1 hr.2.2.2, fun _ => ⟨g, (hr.2.2.2 _ (by omega)).trans y2, y2b⟩⟩
set_option maxRecDepth 100000 in
theorem b_part1A {G : xx_G} {l : Launch} {A : xx_H} {z b i L cR sR : Nat} {xs : Nat → Int32} {Q : Option Value ⊕ String → xx_H → Prop} (I : yx_F A z b L xs) (hi : i + 6 ≤ L) (hL : L ≤ 3072) (K : ∀ C : xx_H, yx_F C z b L xs → xx_X G l mL_law 12 cR sR 1182 (xx_lv5 z b (b + 297) (b + 319) i) [] C Q) (h0 : ¬ xs (i + 1) = 0) (hp : ¬ xs (i + 2) < 1) (hq : ¬ 20 ≤ xs (i + 2)) : xx_X G l mL_law 12 (cR + 14) (sR + 11400) 1030 (xx_lv5 z b (b + 297) (b + 319) i) [] A Q := by
  obtain ⟨hz, zb, bA, ⟨gw, hw⟩, br, k0, md⟩ := I
  obtain ⟨hb, hk, npay, ntold, nth, ntab, npath, nent, nstr, nval, nprod, nown, nhand, ndiv⟩ := id br
  obtain ⟨hc, m0, m1, m2, m3, m4, m5, m6, m7, m8, m9, m10, m11, m12, m13, -⟩ := id md
  obtain ⟨hg9, p0, p1⟩ := npay
  obtain ⟨hf, za, hfb, hfl⟩ := nhand
  refine xx_room (d2 := 12) (c2 := 0 + (0 + cR)) (s2 := 0 + (0 + sR)) (by omega) (by omega) (by omega) ?_
  refine k_part1 (d1 := 3) (c1 := 0) (s1 := 0) (d2 := 2) (c2 := 0) (s2 := 0) (P1 := (fun k B => k = 0 ∧ B.1 = A.1 ∧ (∃ g, B.2 (b + 319) = xx_l 1 g ∧ g 0 = 0) ∧ ∀ q, q ≠ b + 319 → B.2 q = A.2 q)) (P2 := (fun k v C => yx_G C z b L xs k ∧ (k = 0 → ∃ g, C.2 (b + 319) = xx_l 1 g ∧ g 0 = v))) hi (by omega) (by decide) (by decide) hz h0
    (h_L_part hb (xx_room (d := 2) (d2 := 1) (c1 := 0) (c2 := 0) (s1 := 0) (s2 := 0) (by decide) (by decide) (by decide) (c_X8_part2 hb hf za.1 hfb hfl hp)) (fun r B hr => Or.inl ⟨_, hr.1, gw, by rw [hr.2]; exact hw, fun C y1 y2 y3 => ⟨rfl, by rw [y1, hr.2], ⟨_, y2, rfl⟩, fun q hq => by rw [y3 q hq, hr.2]⟩⟩)) ?_ (fun k v C hC => ⟨hC.1.1, hC.2, K C hC.1.2⟩)
  · rintro k B ⟨rfl, y1, ⟨g, y2, y2b⟩, y3⟩
    have eB : ∀ q, q ≠ b + 319 → B.2 q = A.2 q := y3
    have hcB := (eB (b + 297) (by omega)).trans hc
    refine ⟨(eB z (by omega)).trans hz, ⟨_, hcB⟩, xx_room (d2 := 0) (c2 := 0) (s2 := 0) (by decide) (by decide) (by decide) (xx_mono (fun r C hr => ?_) (c_X9_part2 hcB ((eB _ (by omega)).trans m0) ((eB _ (by omega)).trans m1) (by omega) (by omega) rfl rfl rfl hp hq))⟩
    exact ⟨_, hr.1, yx_G.th (B := B) ((eB z (by omega)).trans hz) zb (by omega) ⟨g, y2⟩ (br.to (eB _ (by omega)) (fun q a1 a2 => eB q (by omega))) (md.to (k2 := k0) hcB (fun q a1 a2 => eB q (by omega))) hr.2.1 hr.2.2.1 hr.2.2.2, fun _ => ⟨g, (hr.2.2.2 _ (by omega)).trans y2, y2b⟩⟩
set_option maxRecDepth 100000 in
theorem b_part1B {G : xx_G} {l : Launch} {A : xx_H} {z b i L cR sR : Nat} {xs : Nat → Int32} {Q : Option Value ⊕ String → xx_H → Prop} (I : yx_F A z b L xs) (hi : i + 6 ≤ L) (hL : L ≤ 3072) (K : ∀ C : xx_H, yx_F C z b L xs → xx_X G l mL_law 12 cR sR 1182 (xx_lv5 z b (b + 297) (b + 319) i) [] C Q) (h0 : ¬ xs (i + 1) = 0) (hp : ¬ xs (i + 2) < 1) (hq : 20 ≤ xs (i + 2)) : xx_X G l mL_law 12 (cR + 14) (sR + 11400) 1030 (xx_lv5 z b (b + 297) (b + 319) i) [] A Q := by
  obtain ⟨hz, zb, bA, ⟨gw, hw⟩, br, k0, md⟩ := I
  obtain ⟨hb, hk, npay, ntold, nth, ntab, npath, nent, nstr, nval, nprod, nown, nhand, ndiv⟩ := id br
  obtain ⟨hc, m0, m1, m2, m3, m4, m5, m6, m7, m8, m9, m10, m11, m12, m13, -⟩ := id md
  obtain ⟨hg9, p0, p1⟩ := npay
  obtain ⟨hf, za, hfb, hfl⟩ := nhand
  refine xx_room (d2 := 12) (c2 := 0 + (0 + cR)) (s2 := 0 + (0 + sR)) (by omega) (by omega) (by omega) ?_
  refine k_part1 (d1 := 3) (c1 := 0) (s1 := 0) (d2 := 2) (c2 := 0) (s2 := 0) (P1 := (fun k B => k = 0 ∧ B.1 = A.1 ∧ (∃ g, B.2 (b + 319) = xx_l 1 g ∧ g 0 = 0) ∧ ∀ q, q ≠ b + 319 → B.2 q = A.2 q)) (P2 := (fun k v C => yx_G C z b L xs k ∧ (k = 0 → ∃ g, C.2 (b + 319) = xx_l 1 g ∧ g 0 = v))) hi (by omega) (by decide) (by decide) hz h0
    (h_L_part hb (xx_room (d := 2) (d2 := 1) (c1 := 0) (c2 := 0) (s1 := 0) (s2 := 0) (by decide) (by decide) (by decide) (c_X8_part2 hb hf za.1 hfb hfl hp)) (fun r B hr => Or.inl ⟨_, hr.1, gw, by rw [hr.2]; exact hw, fun C y1 y2 y3 => ⟨rfl, by rw [y1, hr.2], ⟨_, y2, rfl⟩, fun q hq => by rw [y3 q hq, hr.2]⟩⟩)) ?_ (fun k v C hC => ⟨hC.1.1, hC.2, K C hC.1.2⟩)
  · rintro k B ⟨rfl, y1, ⟨g, y2, y2b⟩, y3⟩
    have eB : ∀ q, q ≠ b + 319 → B.2 q = A.2 q := y3
    have hcB := (eB (b + 297) (by omega)).trans hc
    refine ⟨(eB z (by omega)).trans hz, ⟨_, hcB⟩, xx_room (d2 := 0) (c2 := 0) (s2 := 0) (by decide) (by decide) (by decide) (xx_mono (fun r C hr => ?_) (c_X9_partB1 hcB hq))⟩
    exact ⟨_, hr.1, yx_G.th (B := B) ((eB z (by omega)).trans hz) zb (by omega) ⟨g, y2⟩ (br.to (eB _ (by omega)) (fun q a1 a2 => eB q (by omega))) (md.to (k2 := k0) hcB (fun q a1 a2 => eB q (by omega))) hr.2.1 hr.2.2.1 hr.2.2.2, fun _ => ⟨g, (hr.2.2.2 _ (by omega)).trans y2, y2b⟩⟩
set_option maxRecDepth 100000 in
theorem b_sign {G : xx_G} {l : Launch} {A : xx_H} {z b i L cR sR : Nat} {xs : Nat → Int32} {Q : Option Value ⊕ String → xx_H → Prop} (I : yx_F A z b L xs) (hi : i + 6 ≤ L) (hL : L ≤ 3072) (K : ∀ C : xx_H, yx_F C z b L xs → xx_X G l mL_law 12 cR sR 1182 (xx_lv5 z b (b + 297) (b + 319) i) [] C Q) : xx_X G l mL_law 12 (cR + 14) (sR + 11400) 1113 (xx_lv5 z b (b + 297) (b + 319) i) [] A Q := by
  obtain ⟨hz, zb, bA, ⟨gw, hw⟩, br, k0, md⟩ := I
  obtain ⟨hb, hk, npay, ntold, nth, ntab, npath, nent, nstr, nval, nprod, nown, nhand, ndiv⟩ := id br
  obtain ⟨hc, m0, m1, m2, m3, m4, m5, m6, m7, m8, m9, m10, m11, m12, m13, -⟩ := id md
  obtain ⟨hg9, p0, p1⟩ := npay
  obtain ⟨hf, za, hfb, hfl⟩ := nhand
  refine xx_room (d2 := 12) (c2 := 0 + (0 + cR)) (s2 := 0 + (0 + sR)) (by omega) (by omega) (by omega) ?_
  refine k_sign (d1 := 0) (c1 := 0) (s1 := 0) (d2 := 0) (c2 := 0) (s2 := 0) (P1 := fun v B => v = 0 ∧ B = A) (P2 := fun _ C => yx_F C z b L xs) (by decide) (by decide) hb
    (xx_mono (fun r B hr => ⟨0, hr.1, rfl, hr.2⟩) (c_X8_sign hb hf za.1)) ?_ (fun v C hC => K C hC)
  rintro v B ⟨rfl, rfl⟩
  exact ⟨⟨_, hc⟩, xx_mono (fun r C hr => ⟨hr.1, (yx_G.th hz zb bA ⟨gw, hw⟩ br md hr.2.1 hr.2.2.1 hr.2.2.2).2⟩) (c_X9_sign hc m2 (by omega))⟩
theorem b_game {G : xx_G} {l : Launch} {A : xx_H} {z b i L cR sR : Nat} {xs : Nat → Int32} {Q : Option Value ⊕ String → xx_H → Prop} (I : yx_F A z b L xs) (hi : i + 6 ≤ L) (hL : L ≤ 3072) (K : ∀ C : xx_H, yx_F C z b L xs → xx_X G l mL_law 12 cR sR 1182 (xx_lv5 z b (b + 297) (b + 319) i) [] C Q) (KI : ∀ C : xx_H, yx_I C z b L xs → xx_X G l mL_law 12 cR sR 1182 (xx_lv5 z b (b + 297) (b + 319) i) [] C Q) : xx_X G l mL_law 12 (cR + 14) (sR + 11400) 124 (xx_lv5 z b (b + 297) (b + 319) i) [] A Q := by
  by_cases hg : ¬ xs (i + 1) < 1 ∧ ¬ 6 < xs (i + 1) ∧ ¬ xs (i + 2) < 1 ∧ xs (i + 2) ≤ 6
  · obtain ⟨o, t, ho1, ho, ht1, ht, e1, e2⟩ := yx_gok hg
    obtain ⟨hz, zb, bA, hw, br, k0, md⟩ := I
    exact a_gameG hz zb bA hw br.g md.r ho1 ho ht1 ht e1 e2 hi hL KI
  · exact b_gameB I hi hL K hg
theorem b_told {G : xx_G} {l : Launch} {A : xx_H} {z b i L cR sR : Nat} {xs : Nat → Int32} {Q : Option Value ⊕ String → xx_H → Prop} (I : yx_F A z b L xs) (hi : i + 6 ≤ L) (hL : L ≤ 3072) (K : ∀ C : xx_H, yx_F C z b L xs → xx_X G l mL_law 12 cR sR 1182 (xx_lv5 z b (b + 297) (b + 319) i) [] C Q) : xx_X G l mL_law 12 (cR + 14) (sR + 11400) 1126 (xx_lv5 z b (b + 297) (b + 319) i) [] A Q := by
  by_cases hg : (xs (i + 1)).toInt < 0 ∨ 6 < (xs (i + 1)).toInt
  · exact b_toldB I hi hL K hg
  · have hg1 : ¬ (xs (i + 1)).toInt < 0 := fun q => hg (Or.inl q)
    have hg2 : ¬ 6 < (xs (i + 1)).toInt := fun q => hg (Or.inr q)
    obtain ⟨j, j1, ej⟩ := nI_of2 (x := xs (i + 1)) (n := 6) (M := 6) (by decide) (fun q => hg1 (Int32.lt_iff_toInt_lt.mp q)) (Int32.le_iff_toInt_le.mpr (by show (xs (i + 1)).toInt ≤ 6; omega))
    have hj : j = 0 ∨ j = 1 ∨ j = 2 ∨ j = 3 ∨ j = 4 ∨ j = 5 ∨ j = 6 := by omega
    rcases hj with rfl | rfl | rfl | rfl | rfl | rfl | rfl
    · exact b_told0 I hi hL K ej
    · exact b_told1 I hi hL K ej
    · exact b_told2 I hi hL K ej
    · exact b_told3 I hi hL K ej
    · exact b_told4 I hi hL K ej
    · exact b_told5 I hi hL K ej
    · exact b_told6 I hi hL K ej
theorem b_part {G : xx_G} {l : Launch} {A : xx_H} {z b i L cR sR : Nat} {xs : Nat → Int32} {Q : Option Value ⊕ String → xx_H → Prop} (I : yx_F A z b L xs) (hi : i + 6 ≤ L) (hL : L ≤ 3072) (K : ∀ C : xx_H, yx_F C z b L xs → xx_X G l mL_law 12 cR sR 1182 (xx_lv5 z b (b + 297) (b + 319) i) [] C Q) : xx_X G l mL_law 12 (cR + 14) (sR + 11400) 1030 (xx_lv5 z b (b + 297) (b + 319) i) [] A Q := by
  by_cases h0 : xs (i + 1) = 0
  · by_cases hp : xs (i + 2) < 0
    · exact b_part0N I hi hL K h0 hp
    · by_cases hq : 20 ≤ xs (i + 2)
      · exact b_part0B I hi hL K h0 hp hq
      · exact b_part0A I hi hL K h0 hp hq
  · by_cases hp : xs (i + 2) < 0
    · exact b_part1N I hi hL K h0 hp
    · by_cases ha : xs (i + 2) = 0
      · exact b_part1Z I hi hL K h0 ha
      · have hp1 : ¬ xs (i + 2) < 1 := by
          obtain ⟨j, j1, ej⟩ := nI_of hp
          rw [ej]
          have : j ≠ 0 := fun q => ha (by rw [ej, q]; rfl)
          exact nI_nlt (b := 1) (by omega) j1
        by_cases hq : 20 ≤ xs (i + 2)
        · exact b_part1B I hi hL K h0 hp1 hq
        · exact b_part1A I hi hL K h0 hp1 hq
