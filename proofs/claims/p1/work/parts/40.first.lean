/-! ===== one call on a fresh object ===== -/
set_option maxRecDepth 100000 in
theorem f_pay {G : xx_G} {l : Launch} {A : xx_H} {z b a c e w : Nat} {xs : Nat → Int32} {Q : Option Value ⊕ String → xx_H → Prop} (h1 : z < b) (h2 : b < a) (h3 : a + 296 ≤ c) (h4 : c < e) (h5 : e + 21 ≤ w) (hs : A.2 z = xx_s 6 xs) (br : xx_br0 A b a) (md : xx_md0 A c e) (hw : A.2 w = xx_l 1 (fun _ => 0)) (K : ∀ C : xx_H, C.2 z = xx_s 6 xs → xx_X G l mL_law 9 0 0 1182 (xx_lv5 z b c w 0) [] C Q) : xx_X G l mL_law 9 1 6 172 (xx_lv5 z b c w 0) [] A Q := by
  obtain ⟨hb, hk, -⟩ := br
  obtain ⟨hc, -⟩ := md
  refine k_pay (d1 := 8) (c1 := 1) (s1 := 6) (d2 := 2) (c2 := 0) (s2 := 0) (c3 := 0) (s3 := 0) (P1 := (fun k B => k = 1 ∧ B.2 = A.2)) (P2 := (fun k C => (∃ fs, C.2 c = xx_o 9 (.int k :: fs) ∧ fs.length = 28) ∧ C.2 z = xx_s 6 xs)) (by decide) (by decide) (by decide) (by decide) hs
    (h_L_pay hb (r_X8_pay hb hk rfl) (fun r B hr => Or.inr (Or.inl ⟨hr.1, rfl, hr.2.2⟩))) ?_ ?_
  · rintro k B ⟨rfl, eB⟩
    refine ⟨by rw [eB]; exact hs, ⟨_, by rw [eB]; exact hc⟩, xx_room (d2 := 1) (c2 := 0) (s2 := 0) (by decide) (by decide) (by decide) (xx_mono (fun r C hr => ?_) (r_X9_pay (by rw [eB]; exact hc)))⟩
    exact ⟨hr.1, ⟨_, hr.2.2.1, rfl⟩, (hr.2.2.2 z (by omega)).trans (by rw [eB]; exact hs)⟩
  · rintro k C ⟨hf, hz⟩
    exact ⟨hf, K C hz⟩
set_option maxRecDepth 100000 in
theorem f_run {G : xx_G} {l : Launch} {A : xx_H} {z b a c e w : Nat} {xs : Nat → Int32} {Q : Option Value ⊕ String → xx_H → Prop} (h1 : z < b) (h2 : b < a) (h3 : a + 296 ≤ c) (h4 : c < e) (h5 : e + 21 ≤ w) (hs : A.2 z = xx_s 6 xs) (br : xx_br0 A b a) (md : xx_md0 A c e) (hw : A.2 w = xx_l 1 (fun _ => 0)) (K : ∀ C : xx_H, C.2 z = xx_s 6 xs → xx_X G l mL_law 9 0 0 1182 (xx_lv5 z b c w 0) [] C Q) : xx_X G l mL_law 9 1 6 256 (xx_lv5 z b c w 0) [] A Q := by
  obtain ⟨hb, hk, -⟩ := br
  obtain ⟨hc, -⟩ := md
  refine k_run (d1 := 8) (c1 := 1) (s1 := 6) (d2 := 2) (c2 := 0) (s2 := 0) (c3 := 0) (s3 := 0) (P1 := (fun k B => k = 1 ∧ B.2 = A.2)) (P2 := (fun k v C => ((∃ fs, C.2 c = xx_o 9 (.int k :: fs) ∧ fs.length = 28) ∧ (k = 0 → ∃ g, C.2 w = xx_l 1 g ∧ g 0 = Int32.toInt64 v)) ∧ C.2 z = xx_s 6 xs)) (by decide) (by decide) (by decide) (by decide) hs
    (h_L_run hb (r_X8_run hb hk rfl) (fun r B hr => Or.inr (Or.inl ⟨hr.1, rfl, hr.2.2⟩))) ?_ ?_
  · rintro k B ⟨rfl, eB⟩
    refine ⟨by rw [eB]; exact hs, ⟨_, by rw [eB]; exact hc⟩, xx_room (d2 := 1) (c2 := 0) (s2 := 0) (by decide) (by decide) (by decide) (xx_mono (fun r C hr => ?_) (r_X9_run (by rw [eB]; exact hc)))⟩
    exact ⟨_, hr.1, ⟨⟨_, hr.2.2.1, rfl⟩, fun q => absurd q (by decide)⟩, (hr.2.2.2 z (by omega)).trans (by rw [eB]; exact hs)⟩
  · rintro k v C ⟨hf, hz⟩
    exact ⟨hf.1, hf.2, K C hz⟩
set_option maxRecDepth 100000 in
theorem f_weight {G : xx_G} {l : Launch} {A : xx_H} {z b a c e w : Nat} {xs : Nat → Int32} {Q : Option Value ⊕ String → xx_H → Prop} (h1 : z < b) (h2 : b < a) (h3 : a + 296 ≤ c) (h4 : c < e) (h5 : e + 21 ≤ w) (hs : A.2 z = xx_s 6 xs) (br : xx_br0 A b a) (md : xx_md0 A c e) (hw : A.2 w = xx_l 1 (fun _ => 0)) (K : ∀ C : xx_H, C.2 z = xx_s 6 xs → xx_X G l mL_law 9 0 0 1182 (xx_lv5 z b c w 0) [] C Q) : xx_X G l mL_law 9 1 6 380 (xx_lv5 z b c w 0) [] A Q := by
  obtain ⟨hb, hk, -⟩ := br
  obtain ⟨hc, -⟩ := md
  refine k_weight (d1 := 8) (c1 := 1) (s1 := 6) (d2 := 2) (c2 := 0) (s2 := 0) (c3 := 0) (s3 := 0) (P1 := (fun k B => k = 1 ∧ B.2 = A.2)) (P2 := (fun k C => (∃ fs, C.2 c = xx_o 9 (.int k :: fs) ∧ fs.length = 28) ∧ C.2 z = xx_s 6 xs)) (by decide) (by decide) (by decide) (by decide) hs
    (h_L_weight hb (r_X8_weight hb hk rfl) (fun r B hr => Or.inr (Or.inl ⟨hr.1, rfl, hr.2.2⟩))) ?_ ?_
  · rintro k B ⟨rfl, eB⟩
    refine ⟨by rw [eB]; exact hs, ⟨_, by rw [eB]; exact hc⟩, xx_room (d2 := 1) (c2 := 0) (s2 := 0) (by decide) (by decide) (by decide) (xx_mono (fun r C hr => ?_) (r_X9_weight (by rw [eB]; exact hc)))⟩
    exact ⟨hr.1, ⟨_, hr.2.2.1, rfl⟩, (hr.2.2.2 z (by omega)).trans (by rw [eB]; exact hs)⟩
  · rintro k C ⟨hf, hz⟩
    exact ⟨hf, K C hz⟩
set_option maxRecDepth 100000 in
theorem f_list {G : xx_G} {l : Launch} {A : xx_H} {z b a c e w : Nat} {xs : Nat → Int32} {Q : Option Value ⊕ String → xx_H → Prop} (h1 : z < b) (h2 : b < a) (h3 : a + 296 ≤ c) (h4 : c < e) (h5 : e + 21 ≤ w) (hs : A.2 z = xx_s 6 xs) (br : xx_br0 A b a) (md : xx_md0 A c e) (hw : A.2 w = xx_l 1 (fun _ => 0)) (K : ∀ C : xx_H, C.2 z = xx_s 6 xs → xx_X G l mL_law 9 0 0 1182 (xx_lv5 z b c w 0) [] C Q) : xx_X G l mL_law 9 1 6 452 (xx_lv5 z b c w 0) [] A Q := by
  obtain ⟨hb, hk, -⟩ := br
  obtain ⟨hc, -⟩ := md
  refine k_list (d1 := 8) (c1 := 1) (s1 := 6) (d2 := 2) (c2 := 0) (s2 := 0) (c3 := 0) (s3 := 0) (P1 := (fun k B => k = 1 ∧ B.2 = A.2)) (P2 := (fun k v C => ((∃ fs, C.2 c = xx_o 9 (.int k :: fs) ∧ fs.length = 28) ∧ (k = 0 → ∃ g, C.2 w = xx_l 1 g ∧ g 0 = Int32.toInt64 v)) ∧ C.2 z = xx_s 6 xs)) (by decide) (by decide) (by decide) (by decide) hs
    (h_L_list hb (r_X8_list hb hk rfl) (fun r B hr => Or.inr ⟨hr.1, rfl, hr.2.2⟩)) ?_ ?_
  · rintro k B ⟨rfl, eB⟩
    refine ⟨by rw [eB]; exact hs, ⟨_, by rw [eB]; exact hc⟩, xx_room (d2 := 1) (c2 := 0) (s2 := 0) (by decide) (by decide) (by decide) (xx_mono (fun r C hr => ?_) (r_X9_list (by rw [eB]; exact hc)))⟩
    exact ⟨_, hr.1, ⟨⟨_, hr.2.2.1, rfl⟩, fun q => absurd q (by decide)⟩, (hr.2.2.2 z (by omega)).trans (by rw [eB]; exact hs)⟩
  · rintro k v C ⟨hf, hz⟩
    exact ⟨hf.1, hf.2, K C hz⟩
set_option maxRecDepth 100000 in
theorem f_round {G : xx_G} {l : Launch} {A : xx_H} {z b a c e w : Nat} {xs : Nat → Int32} {Q : Option Value ⊕ String → xx_H → Prop} (h1 : z < b) (h2 : b < a) (h3 : a + 296 ≤ c) (h4 : c < e) (h5 : e + 21 ≤ w) (hs : A.2 z = xx_s 6 xs) (br : xx_br0 A b a) (md : xx_md0 A c e) (hw : A.2 w = xx_l 1 (fun _ => 0)) (K : ∀ C : xx_H, C.2 z = xx_s 6 xs → xx_X G l mL_law 9 0 0 1182 (xx_lv5 z b c w 0) [] C Q) : xx_X G l mL_law 9 1 6 911 (xx_lv5 z b c w 0) [] A Q := by
  obtain ⟨hb, hk, -⟩ := br
  obtain ⟨hc, -⟩ := md
  refine k_round (d1 := 8) (c1 := 1) (s1 := 6) (d2 := 2) (c2 := 0) (s2 := 0) (c3 := 0) (s3 := 0) (P1 := (fun k B => k = 1 ∧ B.2 = A.2)) (P2 := (fun k v C => ((∃ fs, C.2 c = xx_o 9 (.int k :: fs) ∧ fs.length = 28) ∧ (k = 0 → ∃ g, C.2 w = xx_l 1 g ∧ g 0 = Int32.toInt64 v)) ∧ C.2 z = xx_s 6 xs)) (by decide) (by decide) (by decide) (by decide) hs
    (h_L_round hb (r_X8_round hb hk rfl) (fun r B hr => Or.inr ⟨hr.1, rfl, hr.2.2⟩)) ?_ ?_
  · rintro k B ⟨rfl, eB⟩
    refine ⟨by rw [eB]; exact hs, ⟨_, by rw [eB]; exact hc⟩, xx_room (d2 := 1) (c2 := 0) (s2 := 0) (by decide) (by decide) (by decide) (xx_mono (fun r C hr => ?_) (r_X9_round (by rw [eB]; exact hc)))⟩
    exact ⟨_, hr.1, ⟨⟨_, hr.2.2.1, rfl⟩, fun q => absurd q (by decide)⟩, (hr.2.2.2 z (by omega)).trans (by rw [eB]; exact hs)⟩
  · rintro k v C ⟨hf, hz⟩
    exact ⟨hf.1, hf.2, K C hz⟩
set_option maxRecDepth 100000 in
theorem f_isThere {G : xx_G} {l : Launch} {A : xx_H} {z b a c e w : Nat} {xs : Nat → Int32} {Q : Option Value ⊕ String → xx_H → Prop} (h1 : z < b) (h2 : b < a) (h3 : a + 296 ≤ c) (h4 : c < e) (h5 : e + 21 ≤ w) (hs : A.2 z = xx_s 6 xs) (br : xx_br0 A b a) (md : xx_md0 A c e) (hw : A.2 w = xx_l 1 (fun _ => 0)) (K : ∀ C : xx_H, C.2 z = xx_s 6 xs → xx_X G l mL_law 9 0 0 1182 (xx_lv5 z b c w 0) [] C Q) : xx_X G l mL_law 9 1 6 955 (xx_lv5 z b c w 0) [] A Q := by
  obtain ⟨hb, hk, -⟩ := br
  obtain ⟨hc, -⟩ := md
  refine k_isThere (d1 := 8) (c1 := 1) (s1 := 6) (d2 := 2) (c2 := 0) (s2 := 0) (c3 := 0) (s3 := 0) (P1 := (fun k B => k = 1 ∧ B.2 = A.2)) (P2 := (fun k v C => ((∃ fs, C.2 c = xx_o 9 (.int k :: fs) ∧ fs.length = 28) ∧ (k = 0 → ∃ g, C.2 w = xx_l 1 g ∧ g 0 = (if v = 0 then 0 else 1))) ∧ C.2 z = xx_s 6 xs)) (by decide) (by decide) (by decide) (by decide) hs
    (h_L_isThere hb (r_X8_isThere hb hk rfl) (fun r B hr => Or.inr (Or.inl ⟨hr.1, rfl, hr.2.2⟩))) ?_ ?_
  · rintro k B ⟨rfl, eB⟩
    refine ⟨by rw [eB]; exact hs, ⟨_, by rw [eB]; exact hc⟩, xx_room (d2 := 1) (c2 := 0) (s2 := 0) (by decide) (by decide) (by decide) (xx_mono (fun r C hr => ?_) (r_X9_isThere (by rw [eB]; exact hc)))⟩
    exact ⟨_, hr.1, ⟨⟨_, hr.2.2.1, rfl⟩, fun q => absurd q (by decide)⟩, (hr.2.2.2 z (by omega)).trans (by rw [eB]; exact hs)⟩
  · rintro k v C ⟨hf, hz⟩
    exact ⟨hf.1, hf.2, K C hz⟩
set_option maxRecDepth 100000 in
theorem f_support {G : xx_G} {l : Launch} {A : xx_H} {z b a c e w : Nat} {xs : Nat → Int32} {Q : Option Value ⊕ String → xx_H → Prop} (h1 : z < b) (h2 : b < a) (h3 : a + 296 ≤ c) (h4 : c < e) (h5 : e + 21 ≤ w) (hs : A.2 z = xx_s 6 xs) (br : xx_br0 A b a) (md : xx_md0 A c e) (hw : A.2 w = xx_l 1 (fun _ => 0)) (K : ∀ C : xx_H, C.2 z = xx_s 6 xs → xx_X G l mL_law 9 0 0 1182 (xx_lv5 z b c w 0) [] C Q) : xx_X G l mL_law 9 1 6 496 (xx_lv5 z b c w 0) [] A Q := by
  obtain ⟨hb, hk, -⟩ := br
  obtain ⟨hc, -⟩ := md
  refine k_support (d1 := 8) (c1 := 1) (s1 := 6) (d2 := 2) (c2 := 0) (s2 := 0) (c3 := 0) (s3 := 0) (P1 := (fun k B => k = 1 ∧ B.2 = A.2)) (P2 := (fun k v C => ((∃ fs, C.2 c = xx_o 9 (.int k :: fs) ∧ fs.length = 28) ∧ (k = 0 → ∃ g, C.2 w = xx_l 1 g ∧ g 0 = Int32.toInt64 v)) ∧ C.2 z = xx_s 6 xs)) (by decide) (by decide) (by decide) (by decide) hs
    (h_L_support hb (r_X8_support hb hk rfl) (fun r B hr => Or.inr (Or.inl ⟨hr.1, rfl, hr.2.2⟩))) ?_ ?_
  · rintro k B ⟨rfl, eB⟩
    refine ⟨by rw [eB]; exact hs, ⟨_, by rw [eB]; exact hc⟩, xx_room (d2 := 1) (c2 := 0) (s2 := 0) (by decide) (by decide) (by decide) (xx_mono (fun r C hr => ?_) (r_X9_support (by rw [eB]; exact hc)))⟩
    exact ⟨_, hr.1, ⟨⟨_, hr.2.2.1, rfl⟩, fun q => absurd q (by decide)⟩, (hr.2.2.2 z (by omega)).trans (by rw [eB]; exact hs)⟩
  · rintro k v C ⟨hf, hz⟩
    exact ⟨hf.1, hf.2, K C hz⟩
set_option maxRecDepth 100000 in
theorem f_strategy {G : xx_G} {l : Launch} {A : xx_H} {z b a c e w : Nat} {xs : Nat → Int32} {Q : Option Value ⊕ String → xx_H → Prop} (h1 : z < b) (h2 : b < a) (h3 : a + 296 ≤ c) (h4 : c < e) (h5 : e + 21 ≤ w) (hs : A.2 z = xx_s 6 xs) (br : xx_br0 A b a) (md : xx_md0 A c e) (hw : A.2 w = xx_l 1 (fun _ => 0)) (K : ∀ C : xx_H, C.2 z = xx_s 6 xs → xx_X G l mL_law 9 0 0 1182 (xx_lv5 z b c w 0) [] C Q) : xx_X G l mL_law 9 1 6 564 (xx_lv5 z b c w 0) [] A Q := by
  obtain ⟨hb, hk, -⟩ := br
  obtain ⟨hc, -⟩ := md
  refine k_strategy (d1 := 8) (c1 := 1) (s1 := 6) (d2 := 2) (c2 := 0) (s2 := 0) (c3 := 0) (s3 := 0) (P1 := (fun k B => k = 1 ∧ B.2 = A.2)) (P2 := (fun k v C => ((∃ fs, C.2 c = xx_o 9 (.int k :: fs) ∧ fs.length = 28) ∧ (k = 0 → ∃ g, C.2 w = xx_l 1 g ∧ g 0 = Int32.toInt64 v)) ∧ C.2 z = xx_s 6 xs)) (by decide) (by decide) (by decide) (by decide) hs
    (h_L_strategy hb (r_X8_strategy hb hk rfl) (fun r B hr => Or.inr (Or.inl ⟨hr.1, rfl, hr.2.2⟩))) ?_ ?_
  · rintro k B ⟨rfl, eB⟩
    refine ⟨by rw [eB]; exact hs, ⟨_, by rw [eB]; exact hc⟩, xx_room (d2 := 1) (c2 := 0) (s2 := 0) (by decide) (by decide) (by decide) (xx_mono (fun r C hr => ?_) (r_X9_strategy (by rw [eB]; exact hc)))⟩
    exact ⟨_, hr.1, ⟨⟨_, hr.2.2.1, rfl⟩, fun q => absurd q (by decide)⟩, (hr.2.2.2 z (by omega)).trans (by rw [eB]; exact hs)⟩
  · rintro k v C ⟨hf, hz⟩
    exact ⟨hf.1, hf.2, K C hz⟩
set_option maxRecDepth 100000 in
theorem f_gets {G : xx_G} {l : Launch} {A : xx_H} {z b a c e w : Nat} {xs : Nat → Int32} {Q : Option Value ⊕ String → xx_H → Prop} (h1 : z < b) (h2 : b < a) (h3 : a + 296 ≤ c) (h4 : c < e) (h5 : e + 21 ≤ w) (hs : A.2 z = xx_s 6 xs) (br : xx_br0 A b a) (md : xx_md0 A c e) (hw : A.2 w = xx_l 1 (fun _ => 0)) (K : ∀ C : xx_H, C.2 z = xx_s 6 xs → xx_X G l mL_law 9 0 0 1182 (xx_lv5 z b c w 0) [] C Q) : xx_X G l mL_law 9 1 6 644 (xx_lv5 z b c w 0) [] A Q := by
  obtain ⟨hb, hk, -⟩ := br
  obtain ⟨hc, -⟩ := md
  refine k_gets (d1 := 8) (c1 := 1) (s1 := 6) (d2 := 2) (c2 := 0) (s2 := 0) (c3 := 0) (s3 := 0) (P1 := (fun k B => k = 1 ∧ B.2 = A.2)) (P2 := (fun k v C => ((∃ fs, C.2 c = xx_o 9 (.int k :: fs) ∧ fs.length = 28) ∧ (k = 0 → ∃ g, C.2 w = xx_l 1 g ∧ g 0 = Int32.toInt64 v)) ∧ C.2 z = xx_s 6 xs)) (by decide) (by decide) (by decide) (by decide) hs
    (h_L_gets hb (r_X8_gets hb hk rfl) (fun r B hr => Or.inr (Or.inl ⟨hr.1, rfl, hr.2.2⟩))) ?_ ?_
  · rintro k B ⟨rfl, eB⟩
    refine ⟨by rw [eB]; exact hs, ⟨_, by rw [eB]; exact hc⟩, xx_room (d2 := 1) (c2 := 0) (s2 := 0) (by decide) (by decide) (by decide) (xx_mono (fun r C hr => ?_) (r_X9_gets (by rw [eB]; exact hc)))⟩
    exact ⟨_, hr.1, ⟨⟨_, hr.2.2.1, rfl⟩, fun q => absurd q (by decide)⟩, (hr.2.2.2 z (by omega)).trans (by rw [eB]; exact hs)⟩
  · rintro k v C ⟨hf, hz⟩
    exact ⟨hf.1, hf.2, K C hz⟩
set_option maxRecDepth 100000 in
theorem f_replies {G : xx_G} {l : Launch} {A : xx_H} {z b a c e w : Nat} {xs : Nat → Int32} {Q : Option Value ⊕ String → xx_H → Prop} (h1 : z < b) (h2 : b < a) (h3 : a + 296 ≤ c) (h4 : c < e) (h5 : e + 21 ≤ w) (hs : A.2 z = xx_s 6 xs) (br : xx_br0 A b a) (md : xx_md0 A c e) (hw : A.2 w = xx_l 1 (fun _ => 0)) (K : ∀ C : xx_H, C.2 z = xx_s 6 xs → xx_X G l mL_law 9 0 0 1182 (xx_lv5 z b c w 0) [] C Q) : xx_X G l mL_law 9 1 6 724 (xx_lv5 z b c w 0) [] A Q := by
  obtain ⟨hb, hk, -⟩ := br
  obtain ⟨hc, -⟩ := md
  refine k_replies (d1 := 8) (c1 := 1) (s1 := 6) (d2 := 2) (c2 := 0) (s2 := 0) (c3 := 0) (s3 := 0) (P1 := (fun k B => k = 1 ∧ B.2 = A.2)) (P2 := (fun k v C => ((∃ fs, C.2 c = xx_o 9 (.int k :: fs) ∧ fs.length = 28) ∧ (k = 0 → ∃ g, C.2 w = xx_l 1 g ∧ g 0 = Int32.toInt64 v)) ∧ C.2 z = xx_s 6 xs)) (by decide) (by decide) (by decide) (by decide) hs
    (h_L_replies hb (r_X8_replies hb hk rfl) (fun r B hr => Or.inr (Or.inl ⟨hr.1, rfl, hr.2.2⟩))) ?_ ?_
  · rintro k B ⟨rfl, eB⟩
    refine ⟨by rw [eB]; exact hs, ⟨_, by rw [eB]; exact hc⟩, xx_room (d2 := 1) (c2 := 0) (s2 := 0) (by decide) (by decide) (by decide) (xx_mono (fun r C hr => ?_) (r_X9_replies (by rw [eB]; exact hc)))⟩
    exact ⟨_, hr.1, ⟨⟨_, hr.2.2.1, rfl⟩, fun q => absurd q (by decide)⟩, (hr.2.2.2 z (by omega)).trans (by rw [eB]; exact hs)⟩
  · rintro k v C ⟨hf, hz⟩
    exact ⟨hf.1, hf.2, K C hz⟩
set_option maxRecDepth 100000 in
theorem f_judge {G : xx_G} {l : Launch} {A : xx_H} {z b a c e w : Nat} {xs : Nat → Int32} {Q : Option Value ⊕ String → xx_H → Prop} (h1 : z < b) (h2 : b < a) (h3 : a + 296 ≤ c) (h4 : c < e) (h5 : e + 21 ≤ w) (hs : A.2 z = xx_s 6 xs) (br : xx_br0 A b a) (md : xx_md0 A c e) (hw : A.2 w = xx_l 1 (fun _ => 0)) (K : ∀ C : xx_H, C.2 z = xx_s 6 xs → xx_X G l mL_law 9 0 0 1182 (xx_lv5 z b c w 0) [] C Q) : xx_X G l mL_law 9 1 6 792 (xx_lv5 z b c w 0) [] A Q := by
  obtain ⟨hb, hk, -⟩ := br
  obtain ⟨hc, -⟩ := md
  refine k_judge (d1 := 8) (c1 := 1) (s1 := 6) (d2 := 2) (c2 := 0) (s2 := 0) (c3 := 0) (s3 := 0) (P1 := (fun k B => k = 1 ∧ B.2 = A.2)) (P2 := (fun k v C => ((∃ fs, C.2 c = xx_o 9 (.int k :: fs) ∧ fs.length = 28) ∧ (k = 0 → ∃ g, C.2 w = xx_l 1 g ∧ g 0 = (if v = 0 then 0 else 1))) ∧ C.2 z = xx_s 6 xs)) (by decide) (by decide) (by decide) (by decide) hs
    (h_L_judge hb (r_X8_judge hb hk rfl) (fun r B hr => Or.inr ⟨hr.1, rfl, hr.2.2⟩)) ?_ ?_
  · rintro k B ⟨rfl, eB⟩
    refine ⟨by rw [eB]; exact hs, ⟨_, by rw [eB]; exact hc⟩, xx_room (d2 := 1) (c2 := 0) (s2 := 0) (by decide) (by decide) (by decide) (xx_mono (fun r C hr => ?_) (r_X9_judge (by rw [eB]; exact hc)))⟩
    exact ⟨_, hr.1, ⟨⟨_, hr.2.2.1, rfl⟩, fun q => absurd q (by decide)⟩, (hr.2.2.2 z (by omega)).trans (by rw [eB]; exact hs)⟩
  · rintro k v C ⟨hf, hz⟩
    exact ⟨hf.1, hf.2, K C hz⟩
set_option maxRecDepth 100000 in
theorem f_step {G : xx_G} {l : Launch} {A : xx_H} {z b a c e w : Nat} {xs : Nat → Int32} {Q : Option Value ⊕ String → xx_H → Prop} (h1 : z < b) (h2 : b < a) (h3 : a + 296 ≤ c) (h4 : c < e) (h5 : e + 21 ≤ w) (hs : A.2 z = xx_s 6 xs) (br : xx_br0 A b a) (md : xx_md0 A c e) (hw : A.2 w = xx_l 1 (fun _ => 0)) (K : ∀ C : xx_H, C.2 z = xx_s 6 xs → xx_X G l mL_law 9 0 0 1182 (xx_lv5 z b c w 0) [] C Q) : xx_X G l mL_law 9 1 6 312 (xx_lv5 z b c w 0) [] A Q := by
  obtain ⟨hb, hk, -⟩ := br
  obtain ⟨hc, -⟩ := md
  refine k_step (d1 := 7) (c1 := 1) (s1 := 6) (d2 := 2) (c2 := 0) (s2 := 0) (c3 := 0) (s3 := 0) (P1 := (fun k B => k = 1 ∧ B.2 = A.2)) (P2 := (fun k v C => ((∃ fs, C.2 c = xx_o 9 (.int k :: fs) ∧ fs.length = 28) ∧ (k = 0 → ∃ g, C.2 w = xx_l 1 g ∧ g 0 = Int32.toInt64 v)) ∧ C.2 z = xx_s 6 xs)) (by decide) (by decide) (by decide) (by decide) hs
    (h_L_step hb (r_X8_step (f := fun _ => 0) hb) (fun r B hr => Or.inr (Or.inl ⟨hr.1, rfl, hr.2.2⟩))) ?_ ?_
  · rintro k B ⟨rfl, eB⟩
    refine ⟨by rw [eB]; exact hs, ⟨_, by rw [eB]; exact hc⟩, xx_room (d2 := 1) (c2 := 0) (s2 := 0) (by decide) (by decide) (by decide) (xx_mono (fun r C hr => ?_) (r_X9_step (by rw [eB]; exact hc)))⟩
    exact ⟨_, hr.1, ⟨⟨_, hr.2.2.1, rfl⟩, fun q => absurd q (by decide)⟩, (hr.2.2.2 z (by omega)).trans (by rw [eB]; exact hs)⟩
  · rintro k v C ⟨hf, hz⟩
    exact ⟨hf.1, hf.2, K C hz⟩
set_option maxRecDepth 100000 in
theorem f_index {G : xx_G} {l : Launch} {A : xx_H} {z b a c e w : Nat} {xs : Nat → Int32} {Q : Option Value ⊕ String → xx_H → Prop} (h1 : z < b) (h2 : b < a) (h3 : a + 296 ≤ c) (h4 : c < e) (h5 : e + 21 ≤ w) (hs : A.2 z = xx_s 6 xs) (br : xx_br0 A b a) (md : xx_md0 A c e) (hw : A.2 w = xx_l 1 (fun _ => 0)) (K : ∀ C : xx_H, C.2 z = xx_s 6 xs → xx_X G l mL_law 9 0 0 1182 (xx_lv5 z b c w 0) [] C Q) : xx_X G l mL_law 9 1 6 855 (xx_lv5 z b c w 0) [] A Q := by
  obtain ⟨hb, hk, -⟩ := br
  obtain ⟨hc, -⟩ := md
  refine k_index (d1 := 7) (c1 := 1) (s1 := 6) (d2 := 2) (c2 := 0) (s2 := 0) (c3 := 0) (s3 := 0) (P1 := (fun k B => k = 1 ∧ B.2 = A.2)) (P2 := (fun k v C => ((∃ fs, C.2 c = xx_o 9 (.int k :: fs) ∧ fs.length = 28) ∧ (k = 0 → ∃ g, C.2 w = xx_l 1 g ∧ g 0 = Int32.toInt64 v)) ∧ C.2 z = xx_s 6 xs)) (by decide) (by decide) (by decide) (by decide) hs
    (h_L_index hb (r_X8_index (f := fun _ => 0) hb) (fun r B hr => Or.inr ⟨hr.1, rfl, hr.2.2⟩)) ?_ ?_
  · rintro k B ⟨rfl, eB⟩
    refine ⟨by rw [eB]; exact hs, ⟨_, by rw [eB]; exact hc⟩, xx_room (d2 := 1) (c2 := 0) (s2 := 0) (by decide) (by decide) (by decide) (xx_mono (fun r C hr => ?_) (r_X9_index (by rw [eB]; exact hc)))⟩
    exact ⟨_, hr.1, ⟨⟨_, hr.2.2.1, rfl⟩, fun q => absurd q (by decide)⟩, (hr.2.2.2 z (by omega)).trans (by rw [eB]; exact hs)⟩
  · rintro k v C ⟨hf, hz⟩
    exact ⟨hf.1, hf.2, K C hz⟩
set_option maxRecDepth 100000 in
theorem f_gameB {G : xx_G} {l : Launch} {A : xx_H} {z b a c e w : Nat} {xs : Nat → Int32} {Q : Option Value ⊕ String → xx_H → Prop} (h1 : z < b) (h2 : b < a) (h3 : a + 296 ≤ c) (h4 : c < e) (h5 : e + 21 ≤ w) (hs : A.2 z = xx_s 6 xs) (br : xx_br0 A b a) (md : xx_md0 A c e) (hw : A.2 w = xx_l 1 (fun _ => 0)) (K : ∀ C : xx_H, C.2 z = xx_s 6 xs → xx_X G l mL_law 9 0 0 1182 (xx_lv5 z b c w 0) [] C Q) (hg : ¬ (¬ xs (0 + 1) < 1 ∧ ¬ 6 < xs (0 + 1) ∧ ¬ xs (0 + 2) < 1 ∧ xs (0 + 2) ≤ 6)) : xx_X G l mL_law 9 1 6 124 (xx_lv5 z b c w 0) [] A Q := by
  obtain ⟨hb, hk, -⟩ := br
  obtain ⟨hc, -⟩ := md
  have hg2 : xx_inn (xs (0 + 1)) 1 6 = 0 ∨ xx_inn (xs (0 + 2)) 1 6 = 0 := by
    unfold xx_inn
    by_cases q1 : xs (0 + 1) < 1
    · exact Or.inl (if_pos q1)
    by_cases q2 : 6 < xs (0 + 1)
    · exact Or.inl (by rw [if_neg q1, if_pos q2])
    by_cases q3 : xs (0 + 2) < 1
    · exact Or.inr (if_pos q3)
    by_cases q4 : 6 < xs (0 + 2)
    · exact Or.inr (by rw [if_neg q3, if_pos q4])
    exact absurd ⟨q1, q2, q3, Int32.not_lt.mp q4⟩ hg
  refine k_game (d1 := 7) (c1 := 1) (s1 := 6) (d2 := 2) (c2 := 0) (s2 := 0) (c3 := 0) (s3 := 0) (P1 := (fun k B => k = 1 ∧ B.2 = A.2)) (P2 := (fun k C => (∃ fs, C.2 c = xx_o 9 (.int k :: fs) ∧ fs.length = 28) ∧ C.2 z = xx_s 6 xs)) (by decide) (by decide) (by decide) (by decide) hs
    (h_L_game hb (r_X8_game (f := fun _ => 0) hb hg) (fun r B hr => Or.inr ⟨hr.1, rfl, hr.2.2⟩)) ?_ ?_
  · rintro k B ⟨rfl, eB⟩
    refine ⟨by rw [eB]; exact hs, ⟨_, by rw [eB]; exact hc⟩, xx_room (d2 := 2) (c2 := 0) (s2 := 0) (by decide) (by decide) (by decide) (xx_mono (fun r C hr => ?_) (r_X9_game hg2 (by rw [eB]; exact hc)))⟩
    exact ⟨hr.1, ⟨_, hr.2.2.1, rfl⟩, (hr.2.2.2 z (by omega)).trans (by rw [eB]; exact hs)⟩
  · rintro k C ⟨hf, hz⟩
    exact ⟨hf, K C hz⟩
set_option maxRecDepth 100000 in
theorem f_toldB {G : xx_G} {l : Launch} {A : xx_H} {z b a c e w : Nat} {xs : Nat → Int32} {Q : Option Value ⊕ String → xx_H → Prop} (h1 : z < b) (h2 : b < a) (h3 : a + 296 ≤ c) (h4 : c < e) (h5 : e + 21 ≤ w) (hs : A.2 z = xx_s 6 xs) (br : xx_br0 A b a) (md : xx_md0 A c e) (hw : A.2 w = xx_l 1 (fun _ => 0)) (K : ∀ C : xx_H, C.2 z = xx_s 6 xs → xx_X G l mL_law 9 0 0 1182 (xx_lv5 z b c w 0) [] C Q) (hg : (xs (0 + 1)).toInt < 0 ∨ 6 < (xs (0 + 1)).toInt) : xx_X G l mL_law 9 1 6 1126 (xx_lv5 z b c w 0) [] A Q := by
  obtain ⟨hb, hk, -⟩ := br
  obtain ⟨hc, -⟩ := md
  have hg2 : xx_inn (xs (0 + 1)) 0 6 = 0 := by
    unfold xx_inn
    rcases hg with q | q
    · rw [if_pos (Int32.lt_iff_toInt_lt.mpr q)]
    · by_cases q1 : xs (0 + 1) < 0
      · rw [if_pos q1]
      · rw [if_neg q1, if_pos (show (6 : Int32) < xs (0 + 1) from Int32.lt_iff_toInt_lt.mpr (by show (6 : Int) < _; exact q))]
  refine k_told (d1 := 7) (c1 := 1) (s1 := 6) (d2 := 2) (c2 := 0) (s2 := 0) (c3 := 0) (s3 := 0) (P1 := (fun k B => k = 1 ∧ B.2 = A.2)) (P2 := (fun k v C => ((∃ fs, C.2 c = xx_o 9 (.int k :: fs) ∧ fs.length = 28) ∧ (k = 0 → ∃ g, C.2 w = xx_l 1 g ∧ g 0 = Int32.toInt64 v)) ∧ C.2 z = xx_s 6 xs)) (by decide) (by decide) (by decide) (by decide) hs
    (h_L_told hb (r_X8_told (f := fun _ => 0) hb hg) (fun r B hr => Or.inr ⟨hr.1, rfl, hr.2.2⟩)) ?_ ?_
  · rintro k B ⟨rfl, eB⟩
    refine ⟨by rw [eB]; exact hs, ⟨_, by rw [eB]; exact hc⟩, xx_room (d2 := 1) (c2 := 0) (s2 := 0) (by decide) (by decide) (by decide) (xx_mono (fun r C hr => ?_) (c_X9_toldX (by rw [eB]; exact hc) hg2))⟩
    exact ⟨_, hr.1, ⟨⟨_, hr.2.2.1, rfl⟩, fun q => absurd q (by decide)⟩, (hr.2.2.2 z (by omega)).trans (by rw [eB]; exact hs)⟩
  · rintro k v C ⟨hf, hz⟩
    exact ⟨hf.1, hf.2, K C hz⟩
set_option maxRecDepth 100000 in
theorem f_part0N {G : xx_G} {l : Launch} {A : xx_H} {z b a c e w : Nat} {xs : Nat → Int32} {Q : Option Value ⊕ String → xx_H → Prop} (h1 : z < b) (h2 : b < a) (h3 : a + 296 ≤ c) (h4 : c < e) (h5 : e + 21 ≤ w) (hs : A.2 z = xx_s 6 xs) (br : xx_br0 A b a) (md : xx_md0 A c e) (hw : A.2 w = xx_l 1 (fun _ => 0)) (K : ∀ C : xx_H, C.2 z = xx_s 6 xs → xx_X G l mL_law 9 0 0 1182 (xx_lv5 z b c w 0) [] C Q) (h0 : xs (0 + 1) = 0) (hg : xs (0 + 2) < 0) : xx_X G l mL_law 9 1 6 1030 (xx_lv5 z b c w 0) [] A Q := by
  obtain ⟨hb, hk, -⟩ := br
  obtain ⟨hc, -⟩ := md
  refine k_part0 (d1 := 7) (c1 := 1) (s1 := 6) (d2 := 2) (c2 := 0) (s2 := 0) (c3 := 0) (s3 := 0) (P1 := (fun k B => k = 1 ∧ B.2 = A.2)) (P2 := (fun k v C => ((∃ fs, C.2 c = xx_o 9 (.int k :: fs) ∧ fs.length = 28) ∧ (k = 0 → ∃ g, C.2 w = xx_l 1 g ∧ g 0 = v)) ∧ C.2 z = xx_s 6 xs)) (by decide) (by decide) (by decide) (by decide) hs h0
    (h_L_part hb (r_X8_part (f := fun _ => 0) hb hg) (fun r B hr => Or.inr ⟨hr.1, rfl, hr.2.2⟩)) ?_ ?_
  · rintro k B ⟨rfl, eB⟩
    refine ⟨by rw [eB]; exact hs, ⟨_, by rw [eB]; exact hc⟩, xx_room (d2 := 0) (c2 := 0) (s2 := 0) (by decide) (by decide) (by decide) (xx_mono (fun r C hr => ?_) (c_X9_partN0 (by rw [eB]; exact hc) hg))⟩
    exact ⟨_, hr.1, ⟨⟨_, hr.2.2.1, rfl⟩, fun q => absurd q (by decide)⟩, (hr.2.2.2 z (by omega)).trans (by rw [eB]; exact hs)⟩
  · rintro k v C ⟨hf, hz⟩
    exact ⟨hf.1, hf.2, K C hz⟩
set_option maxRecDepth 100000 in
theorem f_part1N {G : xx_G} {l : Launch} {A : xx_H} {z b a c e w : Nat} {xs : Nat → Int32} {Q : Option Value ⊕ String → xx_H → Prop} (h1 : z < b) (h2 : b < a) (h3 : a + 296 ≤ c) (h4 : c < e) (h5 : e + 21 ≤ w) (hs : A.2 z = xx_s 6 xs) (br : xx_br0 A b a) (md : xx_md0 A c e) (hw : A.2 w = xx_l 1 (fun _ => 0)) (K : ∀ C : xx_H, C.2 z = xx_s 6 xs → xx_X G l mL_law 9 0 0 1182 (xx_lv5 z b c w 0) [] C Q) (h0 : ¬ xs (0 + 1) = 0) (hg : xs (0 + 2) < 0) : xx_X G l mL_law 9 1 6 1030 (xx_lv5 z b c w 0) [] A Q := by
  obtain ⟨hb, hk, -⟩ := br
  obtain ⟨hc, -⟩ := md
  refine k_part1 (d1 := 7) (c1 := 1) (s1 := 6) (d2 := 2) (c2 := 0) (s2 := 0) (c3 := 0) (s3 := 0) (P1 := (fun k B => k = 1 ∧ B.2 = A.2)) (P2 := (fun k v C => ((∃ fs, C.2 c = xx_o 9 (.int k :: fs) ∧ fs.length = 28) ∧ (k = 0 → ∃ g, C.2 w = xx_l 1 g ∧ g 0 = v)) ∧ C.2 z = xx_s 6 xs)) (by decide) (by decide) (by decide) (by decide) hs h0
    (h_L_part hb (r_X8_part (f := fun _ => 0) hb hg) (fun r B hr => Or.inr ⟨hr.1, rfl, hr.2.2⟩)) ?_ ?_
  · rintro k B ⟨rfl, eB⟩
    refine ⟨by rw [eB]; exact hs, ⟨_, by rw [eB]; exact hc⟩, xx_room (d2 := 0) (c2 := 0) (s2 := 0) (by decide) (by decide) (by decide) (xx_mono (fun r C hr => ?_) (c_X9_partN1 (by rw [eB]; exact hc) hg))⟩
    exact ⟨_, hr.1, ⟨⟨_, hr.2.2.1, rfl⟩, fun q => absurd q (by decide)⟩, (hr.2.2.2 z (by omega)).trans (by rw [eB]; exact hs)⟩
  · rintro k v C ⟨hf, hz⟩
    exact ⟨hf.1, hf.2, K C hz⟩
set_option maxRecDepth 100000 in
theorem f_told0 {G : xx_G} {l : Launch} {A : xx_H} {z b a c e w : Nat} {xs : Nat → Int32} {Q : Option Value ⊕ String → xx_H → Prop} (h1 : z < b) (h2 : b < a) (h3 : a + 296 ≤ c) (h4 : c < e) (h5 : e + 21 ≤ w) (hs : A.2 z = xx_s 6 xs) (br : xx_br0 A b a) (md : xx_md0 A c e) (hw : A.2 w = xx_l 1 (fun _ => 0)) (K : ∀ C : xx_H, C.2 z = xx_s 6 xs → xx_X G l mL_law 9 0 0 1182 (xx_lv5 z b c w 0) [] C Q) (ha : xs (0 + 1) = 0) : xx_X G l mL_law 9 1 6 1126 (xx_lv5 z b c w 0) [] A Q := by
  obtain ⟨hb, hk, npay, ntold, nth, ntab, npath, nent, nstr, nval, nprod, nown, nhand, ndiv⟩ := br
  obtain ⟨hc, m0, m1, m2, m3, m4, m5, m6, m7, m8, m9, m10, m11, m12, m13, -⟩ := md
  obtain ⟨hg, p0, p1⟩ := npay
  obtain ⟨hf, za, hfb, hfl⟩ := nhand
  refine xx_room (d2 := 9) (c2 := 0 + (0 + 0)) (s2 := 0 + (0 + 0)) (by decide) (by decide) (by decide) ?_
  refine k_told (d1 := 3) (c1 := 0) (s1 := 0) (d2 := 2) (c2 := 0) (s2 := 0) (c3 := 0) (s3 := 0) (P1 := (fun k B => k = 0 ∧ B.1 = A.1 ∧ B.2 w = xx_l 1 (vp_updL (fun _ => 0) 0 (Int32.toInt64 0)) ∧ ∀ q, q ≠ w → B.2 q = A.2 q)) (P2 := (fun k v C => ((∃ fs, C.2 c = xx_o 9 (.int k :: fs) ∧ fs.length = 28) ∧ (k = 0 → ∃ g, C.2 w = xx_l 1 g ∧ g 0 = Int32.toInt64 v)) ∧ C.2 z = xx_s 6 xs)) (by decide) (by decide) (by decide) (by decide) hs
    (by rw [ha]; exact h_L_told hb (xx_room (d := 2) (d2 := 0) (c1 := 0) (c2 := 0) (s1 := 0) (s2 := 0) (by decide) (by decide) (by decide) (c_X8_told0 hb hk hg rfl rfl p0.1 p1.1)) (fun r B hr => Or.inl ⟨_, hr.1, _, by rw [hr.2]; exact hw, fun C y1 y2 y3 => ⟨rfl, by rw [y1, hr.2], y2, fun q hq => by rw [y3 q hq, hr.2]⟩⟩)) ?_ ?_
  · rintro k B ⟨rfl, y1, y2, y3⟩
    have eB : ∀ q, q ≠ w → B.2 q = A.2 q := y3
    have hcB := (eB c (by omega)).trans hc
    refine ⟨(eB z (by omega)).trans hs, ⟨_, hcB⟩, xx_room (d2 := 1) (c2 := 0) (s2 := 0) (by decide) (by decide) (by decide) (xx_mono (fun r C hr => ?_) (by rw [ha]; exact c_X9_told0 hcB ((eB _ (by omega)).trans m13) (by omega) rfl rfl))⟩
    exact ⟨_, hr.1, ⟨⟨_, hr.2.2.1, rfl⟩, fun _ => ⟨_, (hr.2.2.2 w (by omega)).trans y2, rfl⟩⟩, (hr.2.2.2 z (by omega)).trans ((eB z (by omega)).trans hs)⟩
  · rintro k v C ⟨hf, hz⟩
    exact ⟨hf.1, hf.2, K C hz⟩
set_option maxRecDepth 100000 in
theorem f_told1 {G : xx_G} {l : Launch} {A : xx_H} {z b a c e w : Nat} {xs : Nat → Int32} {Q : Option Value ⊕ String → xx_H → Prop} (h1 : z < b) (h2 : b < a) (h3 : a + 296 ≤ c) (h4 : c < e) (h5 : e + 21 ≤ w) (hs : A.2 z = xx_s 6 xs) (br : xx_br0 A b a) (md : xx_md0 A c e) (hw : A.2 w = xx_l 1 (fun _ => 0)) (K : ∀ C : xx_H, C.2 z = xx_s 6 xs → xx_X G l mL_law 9 0 0 1182 (xx_lv5 z b c w 0) [] C Q) (ha : xs (0 + 1) = 1) : xx_X G l mL_law 9 1 6 1126 (xx_lv5 z b c w 0) [] A Q := by
  obtain ⟨hb, hk, npay, ntold, nth, ntab, npath, nent, nstr, nval, nprod, nown, nhand, ndiv⟩ := br
  obtain ⟨hc, m0, m1, m2, m3, m4, m5, m6, m7, m8, m9, m10, m11, m12, m13, -⟩ := md
  obtain ⟨hg, p0, p1⟩ := npay
  obtain ⟨hf, za, hfb, hfl⟩ := nhand
  refine xx_room (d2 := 9) (c2 := 0 + (0 + 0)) (s2 := 0 + (0 + 0)) (by decide) (by decide) (by decide) ?_
  refine k_told (d1 := 3) (c1 := 0) (s1 := 0) (d2 := 2) (c2 := 0) (s2 := 0) (c3 := 0) (s3 := 0) (P1 := (fun k B => k = 0 ∧ B.1 = A.1 ∧ B.2 w = xx_l 1 (vp_updL (fun _ => 0) 0 (Int32.toInt64 0)) ∧ ∀ q, q ≠ w → B.2 q = A.2 q)) (P2 := (fun k v C => ((∃ fs, C.2 c = xx_o 9 (.int k :: fs) ∧ fs.length = 28) ∧ (k = 0 → ∃ g, C.2 w = xx_l 1 g ∧ g 0 = Int32.toInt64 v)) ∧ C.2 z = xx_s 6 xs)) (by decide) (by decide) (by decide) (by decide) hs
    (by rw [ha]; exact h_L_told hb (xx_room (d := 2) (d2 := 0) (c1 := 0) (c2 := 0) (s1 := 0) (s2 := 0) (by decide) (by decide) (by decide) (c_X8_told1 hb hk hg rfl rfl p0.1 p1.1)) (fun r B hr => Or.inl ⟨_, hr.1, _, by rw [hr.2]; exact hw, fun C y1 y2 y3 => ⟨rfl, by rw [y1, hr.2], y2, fun q hq => by rw [y3 q hq, hr.2]⟩⟩)) ?_ ?_
  · rintro k B ⟨rfl, y1, y2, y3⟩
    have eB : ∀ q, q ≠ w → B.2 q = A.2 q := y3
    have hcB := (eB c (by omega)).trans hc
    refine ⟨(eB z (by omega)).trans hs, ⟨_, hcB⟩, xx_room (d2 := 1) (c2 := 0) (s2 := 0) (by decide) (by decide) (by decide) (xx_mono (fun r C hr => ?_) (by rw [ha]; exact c_X9_told1 hcB ((eB _ (by omega)).trans m13) (by omega) rfl rfl))⟩
    exact ⟨_, hr.1, ⟨⟨_, hr.2.2.1, rfl⟩, fun _ => ⟨_, (hr.2.2.2 w (by omega)).trans y2, rfl⟩⟩, (hr.2.2.2 z (by omega)).trans ((eB z (by omega)).trans hs)⟩
  · rintro k v C ⟨hf, hz⟩
    exact ⟨hf.1, hf.2, K C hz⟩
set_option maxRecDepth 100000 in
theorem f_told2 {G : xx_G} {l : Launch} {A : xx_H} {z b a c e w : Nat} {xs : Nat → Int32} {Q : Option Value ⊕ String → xx_H → Prop} (h1 : z < b) (h2 : b < a) (h3 : a + 296 ≤ c) (h4 : c < e) (h5 : e + 21 ≤ w) (hs : A.2 z = xx_s 6 xs) (br : xx_br0 A b a) (md : xx_md0 A c e) (hw : A.2 w = xx_l 1 (fun _ => 0)) (K : ∀ C : xx_H, C.2 z = xx_s 6 xs → xx_X G l mL_law 9 0 0 1182 (xx_lv5 z b c w 0) [] C Q) (ha : xs (0 + 1) = 2) : xx_X G l mL_law 9 1 6 1126 (xx_lv5 z b c w 0) [] A Q := by
  obtain ⟨hb, hk, npay, ntold, nth, ntab, npath, nent, nstr, nval, nprod, nown, nhand, ndiv⟩ := br
  obtain ⟨hc, m0, m1, m2, m3, m4, m5, m6, m7, m8, m9, m10, m11, m12, m13, -⟩ := md
  obtain ⟨hg, p0, p1⟩ := npay
  obtain ⟨hf, za, hfb, hfl⟩ := nhand
  refine xx_room (d2 := 9) (c2 := 0 + (0 + 0)) (s2 := 0 + (0 + 0)) (by decide) (by decide) (by decide) ?_
  refine k_told (d1 := 3) (c1 := 0) (s1 := 0) (d2 := 2) (c2 := 0) (s2 := 0) (c3 := 0) (s3 := 0) (P1 := (fun k B => k = 0 ∧ B.1 = A.1 ∧ B.2 w = xx_l 1 (vp_updL (fun _ => 0) 0 (Int32.toInt64 0)) ∧ ∀ q, q ≠ w → B.2 q = A.2 q)) (P2 := (fun k v C => ((∃ fs, C.2 c = xx_o 9 (.int k :: fs) ∧ fs.length = 28) ∧ (k = 0 → ∃ g, C.2 w = xx_l 1 g ∧ g 0 = Int32.toInt64 v)) ∧ C.2 z = xx_s 6 xs)) (by decide) (by decide) (by decide) (by decide) hs
    (by rw [ha]; exact h_L_told hb (xx_room (d := 2) (d2 := 0) (c1 := 0) (c2 := 0) (s1 := 0) (s2 := 0) (by decide) (by decide) (by decide) (c_X8_told2 hb hk hg rfl rfl p0.1 p1.1)) (fun r B hr => Or.inl ⟨_, hr.1, _, by rw [hr.2]; exact hw, fun C y1 y2 y3 => ⟨rfl, by rw [y1, hr.2], y2, fun q hq => by rw [y3 q hq, hr.2]⟩⟩)) ?_ ?_
  · rintro k B ⟨rfl, y1, y2, y3⟩
    have eB : ∀ q, q ≠ w → B.2 q = A.2 q := y3
    have hcB := (eB c (by omega)).trans hc
    refine ⟨(eB z (by omega)).trans hs, ⟨_, hcB⟩, xx_room (d2 := 1) (c2 := 0) (s2 := 0) (by decide) (by decide) (by decide) (xx_mono (fun r C hr => ?_) (by rw [ha]; exact c_X9_told2 hcB ((eB _ (by omega)).trans m13) (by omega) rfl rfl))⟩
    exact ⟨_, hr.1, ⟨⟨_, hr.2.2.1, rfl⟩, fun _ => ⟨_, (hr.2.2.2 w (by omega)).trans y2, rfl⟩⟩, (hr.2.2.2 z (by omega)).trans ((eB z (by omega)).trans hs)⟩
  · rintro k v C ⟨hf, hz⟩
    exact ⟨hf.1, hf.2, K C hz⟩
set_option maxRecDepth 100000 in
theorem f_told3 {G : xx_G} {l : Launch} {A : xx_H} {z b a c e w : Nat} {xs : Nat → Int32} {Q : Option Value ⊕ String → xx_H → Prop} (h1 : z < b) (h2 : b < a) (h3 : a + 296 ≤ c) (h4 : c < e) (h5 : e + 21 ≤ w) (hs : A.2 z = xx_s 6 xs) (br : xx_br0 A b a) (md : xx_md0 A c e) (hw : A.2 w = xx_l 1 (fun _ => 0)) (K : ∀ C : xx_H, C.2 z = xx_s 6 xs → xx_X G l mL_law 9 0 0 1182 (xx_lv5 z b c w 0) [] C Q) (ha : xs (0 + 1) = 3) : xx_X G l mL_law 9 1 6 1126 (xx_lv5 z b c w 0) [] A Q := by
  obtain ⟨hb, hk, npay, ntold, nth, ntab, npath, nent, nstr, nval, nprod, nown, nhand, ndiv⟩ := br
  obtain ⟨hc, m0, m1, m2, m3, m4, m5, m6, m7, m8, m9, m10, m11, m12, m13, -⟩ := md
  obtain ⟨hg, p0, p1⟩ := npay
  obtain ⟨hf, za, hfb, hfl⟩ := nhand
  refine xx_room (d2 := 9) (c2 := 0 + (0 + 0)) (s2 := 0 + (0 + 0)) (by decide) (by decide) (by decide) ?_
  refine k_told (d1 := 3) (c1 := 0) (s1 := 0) (d2 := 2) (c2 := 0) (s2 := 0) (c3 := 0) (s3 := 0) (P1 := (fun k B => k = 0 ∧ B.1 = A.1 ∧ B.2 w = xx_l 1 (vp_updL (fun _ => 0) 0 (Int32.toInt64 0)) ∧ ∀ q, q ≠ w → B.2 q = A.2 q)) (P2 := (fun k v C => ((∃ fs, C.2 c = xx_o 9 (.int k :: fs) ∧ fs.length = 28) ∧ (k = 0 → ∃ g, C.2 w = xx_l 1 g ∧ g 0 = Int32.toInt64 v)) ∧ C.2 z = xx_s 6 xs)) (by decide) (by decide) (by decide) (by decide) hs
    (by rw [ha]; exact h_L_told hb (xx_room (d := 2) (d2 := 0) (c1 := 0) (c2 := 0) (s1 := 0) (s2 := 0) (by decide) (by decide) (by decide) (c_X8_told3 hb hk hg rfl rfl p0.1 p1.1)) (fun r B hr => Or.inl ⟨_, hr.1, _, by rw [hr.2]; exact hw, fun C y1 y2 y3 => ⟨rfl, by rw [y1, hr.2], y2, fun q hq => by rw [y3 q hq, hr.2]⟩⟩)) ?_ ?_
  · rintro k B ⟨rfl, y1, y2, y3⟩
    have eB : ∀ q, q ≠ w → B.2 q = A.2 q := y3
    have hcB := (eB c (by omega)).trans hc
    refine ⟨(eB z (by omega)).trans hs, ⟨_, hcB⟩, xx_room (d2 := 1) (c2 := 0) (s2 := 0) (by decide) (by decide) (by decide) (xx_mono (fun r C hr => ?_) (by rw [ha]; exact c_X9_told3 hcB ((eB _ (by omega)).trans m13) (by omega) rfl rfl))⟩
    exact ⟨_, hr.1, ⟨⟨_, hr.2.2.1, rfl⟩, fun _ => ⟨_, (hr.2.2.2 w (by omega)).trans y2, rfl⟩⟩, (hr.2.2.2 z (by omega)).trans ((eB z (by omega)).trans hs)⟩
  · rintro k v C ⟨hf, hz⟩
    exact ⟨hf.1, hf.2, K C hz⟩
set_option maxRecDepth 100000 in
theorem f_told4 {G : xx_G} {l : Launch} {A : xx_H} {z b a c e w : Nat} {xs : Nat → Int32} {Q : Option Value ⊕ String → xx_H → Prop} (h1 : z < b) (h2 : b < a) (h3 : a + 296 ≤ c) (h4 : c < e) (h5 : e + 21 ≤ w) (hs : A.2 z = xx_s 6 xs) (br : xx_br0 A b a) (md : xx_md0 A c e) (hw : A.2 w = xx_l 1 (fun _ => 0)) (K : ∀ C : xx_H, C.2 z = xx_s 6 xs → xx_X G l mL_law 9 0 0 1182 (xx_lv5 z b c w 0) [] C Q) (ha : xs (0 + 1) = 4) : xx_X G l mL_law 9 1 6 1126 (xx_lv5 z b c w 0) [] A Q := by
  obtain ⟨hb, hk, npay, ntold, nth, ntab, npath, nent, nstr, nval, nprod, nown, nhand, ndiv⟩ := br
  obtain ⟨hc, m0, m1, m2, m3, m4, m5, m6, m7, m8, m9, m10, m11, m12, m13, -⟩ := md
  obtain ⟨hg, p0, p1⟩ := npay
  obtain ⟨hf, za, hfb, hfl⟩ := nhand
  refine xx_room (d2 := 9) (c2 := 0 + (0 + 0)) (s2 := 0 + (0 + 0)) (by decide) (by decide) (by decide) ?_
  refine k_told (d1 := 3) (c1 := 0) (s1 := 0) (d2 := 2) (c2 := 0) (s2 := 0) (c3 := 0) (s3 := 0) (P1 := (fun k B => k = 0 ∧ B.1 = A.1 ∧ B.2 w = xx_l 1 (vp_updL (fun _ => 0) 0 (Int32.toInt64 (-1))) ∧ ∀ q, q ≠ w → B.2 q = A.2 q)) (P2 := (fun k v C => ((∃ fs, C.2 c = xx_o 9 (.int k :: fs) ∧ fs.length = 28) ∧ (k = 0 → ∃ g, C.2 w = xx_l 1 g ∧ g 0 = Int32.toInt64 v)) ∧ C.2 z = xx_s 6 xs)) (by decide) (by decide) (by decide) (by decide) hs
    (by rw [ha]; exact h_L_told hb (xx_room (d := 2) (d2 := 0) (c1 := 0) (c2 := 0) (s1 := 0) (s2 := 0) (by decide) (by decide) (by decide) (c_X8_told4 hb hk hg rfl rfl p0.1 p1.1)) (fun r B hr => Or.inl ⟨_, hr.1, _, by rw [hr.2]; exact hw, fun C y1 y2 y3 => ⟨rfl, by rw [y1, hr.2], y2, fun q hq => by rw [y3 q hq, hr.2]⟩⟩)) ?_ ?_
  · rintro k B ⟨rfl, y1, y2, y3⟩
    have eB : ∀ q, q ≠ w → B.2 q = A.2 q := y3
    have hcB := (eB c (by omega)).trans hc
    refine ⟨(eB z (by omega)).trans hs, ⟨_, hcB⟩, xx_room (d2 := 1) (c2 := 0) (s2 := 0) (by decide) (by decide) (by decide) (xx_mono (fun r C hr => ?_) (by rw [ha]; exact c_X9_told4 hcB ((eB _ (by omega)).trans m13) (by omega) rfl rfl))⟩
    exact ⟨_, hr.1, ⟨⟨_, hr.2.2.1, rfl⟩, fun _ => ⟨_, (hr.2.2.2 w (by omega)).trans y2, rfl⟩⟩, (hr.2.2.2 z (by omega)).trans ((eB z (by omega)).trans hs)⟩
  · rintro k v C ⟨hf, hz⟩
    exact ⟨hf.1, hf.2, K C hz⟩
set_option maxRecDepth 100000 in
theorem f_told5 {G : xx_G} {l : Launch} {A : xx_H} {z b a c e w : Nat} {xs : Nat → Int32} {Q : Option Value ⊕ String → xx_H → Prop} (h1 : z < b) (h2 : b < a) (h3 : a + 296 ≤ c) (h4 : c < e) (h5 : e + 21 ≤ w) (hs : A.2 z = xx_s 6 xs) (br : xx_br0 A b a) (md : xx_md0 A c e) (hw : A.2 w = xx_l 1 (fun _ => 0)) (K : ∀ C : xx_H, C.2 z = xx_s 6 xs → xx_X G l mL_law 9 0 0 1182 (xx_lv5 z b c w 0) [] C Q) (ha : xs (0 + 1) = 5) : xx_X G l mL_law 9 1 6 1126 (xx_lv5 z b c w 0) [] A Q := by
  obtain ⟨hb, hk, npay, ntold, nth, ntab, npath, nent, nstr, nval, nprod, nown, nhand, ndiv⟩ := br
  obtain ⟨hc, m0, m1, m2, m3, m4, m5, m6, m7, m8, m9, m10, m11, m12, m13, -⟩ := md
  obtain ⟨hg, p0, p1⟩ := npay
  obtain ⟨hf, za, hfb, hfl⟩ := nhand
  refine xx_room (d2 := 9) (c2 := 0 + (0 + 0)) (s2 := 0 + (0 + 0)) (by decide) (by decide) (by decide) ?_
  refine k_told (d1 := 3) (c1 := 0) (s1 := 0) (d2 := 2) (c2 := 0) (s2 := 0) (c3 := 0) (s3 := 0) (P1 := (fun k B => k = 0 ∧ B.1 = A.1 ∧ B.2 w = xx_l 1 (vp_updL (fun _ => 0) 0 (Int32.toInt64 0)) ∧ ∀ q, q ≠ w → B.2 q = A.2 q)) (P2 := (fun k v C => ((∃ fs, C.2 c = xx_o 9 (.int k :: fs) ∧ fs.length = 28) ∧ (k = 0 → ∃ g, C.2 w = xx_l 1 g ∧ g 0 = Int32.toInt64 v)) ∧ C.2 z = xx_s 6 xs)) (by decide) (by decide) (by decide) (by decide) hs
    (by rw [ha]; exact h_L_told hb (xx_room (d := 2) (d2 := 0) (c1 := 0) (c2 := 0) (s1 := 0) (s2 := 0) (by decide) (by decide) (by decide) (c_X8_told5 hb hk hg rfl rfl p0.1 p1.1)) (fun r B hr => Or.inl ⟨_, hr.1, _, by rw [hr.2]; exact hw, fun C y1 y2 y3 => ⟨rfl, by rw [y1, hr.2], y2, fun q hq => by rw [y3 q hq, hr.2]⟩⟩)) ?_ ?_
  · rintro k B ⟨rfl, y1, y2, y3⟩
    have eB : ∀ q, q ≠ w → B.2 q = A.2 q := y3
    have hcB := (eB c (by omega)).trans hc
    refine ⟨(eB z (by omega)).trans hs, ⟨_, hcB⟩, xx_room (d2 := 1) (c2 := 0) (s2 := 0) (by decide) (by decide) (by decide) (xx_mono (fun r C hr => ?_) (by rw [ha]; exact c_X9_told5 hcB ((eB _ (by omega)).trans m13) (by omega) rfl rfl))⟩
    exact ⟨_, hr.1, ⟨⟨_, hr.2.2.1, rfl⟩, fun _ => ⟨_, (hr.2.2.2 w (by omega)).trans y2, rfl⟩⟩, (hr.2.2.2 z (by omega)).trans ((eB z (by omega)).trans hs)⟩
  · rintro k v C ⟨hf, hz⟩
    exact ⟨hf.1, hf.2, K C hz⟩
set_option maxRecDepth 100000 in
theorem f_told6 {G : xx_G} {l : Launch} {A : xx_H} {z b a c e w : Nat} {xs : Nat → Int32} {Q : Option Value ⊕ String → xx_H → Prop} (h1 : z < b) (h2 : b < a) (h3 : a + 296 ≤ c) (h4 : c < e) (h5 : e + 21 ≤ w) (hs : A.2 z = xx_s 6 xs) (br : xx_br0 A b a) (md : xx_md0 A c e) (hw : A.2 w = xx_l 1 (fun _ => 0)) (K : ∀ C : xx_H, C.2 z = xx_s 6 xs → xx_X G l mL_law 9 0 0 1182 (xx_lv5 z b c w 0) [] C Q) (ha : xs (0 + 1) = 6) : xx_X G l mL_law 9 1 6 1126 (xx_lv5 z b c w 0) [] A Q := by
  obtain ⟨hb, hk, npay, ntold, nth, ntab, npath, nent, nstr, nval, nprod, nown, nhand, ndiv⟩ := br
  obtain ⟨hc, m0, m1, m2, m3, m4, m5, m6, m7, m8, m9, m10, m11, m12, m13, -⟩ := md
  obtain ⟨hg, p0, p1⟩ := npay
  obtain ⟨hf, za, hfb, hfl⟩ := nhand
  refine xx_room (d2 := 9) (c2 := 0 + (0 + 0)) (s2 := 0 + (0 + 0)) (by decide) (by decide) (by decide) ?_
  refine k_told (d1 := 3) (c1 := 0) (s1 := 0) (d2 := 2) (c2 := 0) (s2 := 0) (c3 := 0) (s3 := 0) (P1 := (fun k B => k = 0 ∧ B.1 = A.1 ∧ B.2 w = xx_l 1 (vp_updL (fun _ => 0) 0 (Int32.toInt64 0)) ∧ ∀ q, q ≠ w → B.2 q = A.2 q)) (P2 := (fun k v C => ((∃ fs, C.2 c = xx_o 9 (.int k :: fs) ∧ fs.length = 28) ∧ (k = 0 → ∃ g, C.2 w = xx_l 1 g ∧ g 0 = Int32.toInt64 v)) ∧ C.2 z = xx_s 6 xs)) (by decide) (by decide) (by decide) (by decide) hs
    (by rw [ha]; exact h_L_told hb (xx_room (d := 2) (d2 := 0) (c1 := 0) (c2 := 0) (s1 := 0) (s2 := 0) (by decide) (by decide) (by decide) (c_X8_told6 hb hk hg rfl rfl p0.1 p1.1)) (fun r B hr => Or.inl ⟨_, hr.1, _, by rw [hr.2]; exact hw, fun C y1 y2 y3 => ⟨rfl, by rw [y1, hr.2], y2, fun q hq => by rw [y3 q hq, hr.2]⟩⟩)) ?_ ?_
  · rintro k B ⟨rfl, y1, y2, y3⟩
    have eB : ∀ q, q ≠ w → B.2 q = A.2 q := y3
    have hcB := (eB c (by omega)).trans hc
    refine ⟨(eB z (by omega)).trans hs, ⟨_, hcB⟩, xx_room (d2 := 1) (c2 := 0) (s2 := 0) (by decide) (by decide) (by decide) (xx_mono (fun r C hr => ?_) (by rw [ha]; exact c_X9_told6 hcB ((eB _ (by omega)).trans m13) (by omega) rfl rfl))⟩
    exact ⟨_, hr.1, ⟨⟨_, hr.2.2.1, rfl⟩, fun _ => ⟨_, (hr.2.2.2 w (by omega)).trans y2, rfl⟩⟩, (hr.2.2.2 z (by omega)).trans ((eB z (by omega)).trans hs)⟩
  · rintro k v C ⟨hf, hz⟩
    exact ⟨hf.1, hf.2, K C hz⟩
set_option maxRecDepth 100000 in
theorem f_part0A {G : xx_G} {l : Launch} {A : xx_H} {z b a c e w : Nat} {xs : Nat → Int32} {Q : Option Value ⊕ String → xx_H → Prop} (h1 : z < b) (h2 : b < a) (h3 : a + 296 ≤ c) (h4 : c < e) (h5 : e + 21 ≤ w) (hs : A.2 z = xx_s 6 xs) (br : xx_br0 A b a) (md : xx_md0 A c e) (hw : A.2 w = xx_l 1 (fun _ => 0)) (K : ∀ C : xx_H, C.2 z = xx_s 6 xs → xx_X G l mL_law 9 0 0 1182 (xx_lv5 z b c w 0) [] C Q) (h0 : xs (0 + 1) = 0) (hp : ¬ xs (0 + 2) < 0) (hq : ¬ 20 ≤ xs (0 + 2)) : xx_X G l mL_law 9 1 6 1030 (xx_lv5 z b c w 0) [] A Q := by
  obtain ⟨hb, hk, npay, ntold, nth, ntab, npath, nent, nstr, nval, nprod, nown, nhand, ndiv⟩ := br
  obtain ⟨hc, m0, m1, m2, m3, m4, m5, m6, m7, m8, m9, m10, m11, m12, m13, -⟩ := md
  obtain ⟨hg, p0, p1⟩ := npay
  obtain ⟨hf, za, hfb, hfl⟩ := nhand
  refine xx_room (d2 := 9) (c2 := 0 + (0 + 0)) (s2 := 0 + (0 + 0)) (by decide) (by decide) (by decide) ?_
  refine k_part0 (d1 := 3) (c1 := 0) (s1 := 0) (d2 := 2) (c2 := 0) (s2 := 0) (c3 := 0) (s3 := 0) (P1 := (fun k B => k = 0 ∧ B.1 = A.1 ∧ B.2 w = xx_l 1 (vp_updL (fun _ => 0) 0 0) ∧ ∀ q, q ≠ w → B.2 q = A.2 q)) (P2 := (fun k v C => ((∃ fs, C.2 c = xx_o 9 (.int k :: fs) ∧ fs.length = 28) ∧ (k = 0 → ∃ g, C.2 w = xx_l 1 g ∧ g 0 = v)) ∧ C.2 z = xx_s 6 xs)) (by decide) (by decide) (by decide) (by decide) hs h0
    (h_L_part hb (xx_room (d := 2) (d2 := 1) (c1 := 0) (c2 := 0) (s1 := 0) (s2 := 0) (by decide) (by decide) (by decide) (c_X8_part0 hb hf za.1 hfb hfl hp)) (fun r B hr => Or.inl ⟨_, hr.1, _, by rw [hr.2]; exact hw, fun C y1 y2 y3 => ⟨rfl, by rw [y1, hr.2], y2, fun q hq => by rw [y3 q hq, hr.2]⟩⟩)) ?_ ?_
  · rintro k B ⟨rfl, y1, y2, y3⟩
    have eB : ∀ q, q ≠ w → B.2 q = A.2 q := y3
    have hcB := (eB c (by omega)).trans hc
    refine ⟨(eB z (by omega)).trans hs, ⟨_, hcB⟩, xx_room (d2 := 0) (c2 := 0) (s2 := 0) (by decide) (by decide) (by decide) (xx_mono (fun r C hr => ?_) (c_X9_part0 hcB ((eB _ (by omega)).trans m0) ((eB _ (by omega)).trans m1) (by omega) (by omega) rfl rfl rfl hp hq))⟩
    exact ⟨_, hr.1, ⟨⟨_, hr.2.2.1, rfl⟩, fun _ => ⟨_, (hr.2.2.2 w (by omega)).trans y2, rfl⟩⟩, (hr.2.2.2 z (by omega)).trans ((eB z (by omega)).trans hs)⟩
  · rintro k v C ⟨hf, hz⟩
    exact ⟨hf.1, hf.2, K C hz⟩
set_option maxRecDepth 100000 in
theorem f_part0B {G : xx_G} {l : Launch} {A : xx_H} {z b a c e w : Nat} {xs : Nat → Int32} {Q : Option Value ⊕ String → xx_H → Prop} (h1 : z < b) (h2 : b < a) (h3 : a + 296 ≤ c) (h4 : c < e) (h5 : e + 21 ≤ w) (hs : A.2 z = xx_s 6 xs) (br : xx_br0 A b a) (md : xx_md0 A c e) (hw : A.2 w = xx_l 1 (fun _ => 0)) (K : ∀ C : xx_H, C.2 z = xx_s 6 xs → xx_X G l mL_law 9 0 0 1182 (xx_lv5 z b c w 0) [] C Q) (h0 : xs (0 + 1) = 0) (hp : ¬ xs (0 + 2) < 0) (hq : 20 ≤ xs (0 + 2)) : xx_X G l mL_law 9 1 6 1030 (xx_lv5 z b c w 0) [] A Q := by
  obtain ⟨hb, hk, npay, ntold, nth, ntab, npath, nent, nstr, nval, nprod, nown, nhand, ndiv⟩ := br
  obtain ⟨hc, m0, m1, m2, m3, m4, m5, m6, m7, m8, m9, m10, m11, m12, m13, -⟩ := md
  obtain ⟨hg, p0, p1⟩ := npay
  obtain ⟨hf, za, hfb, hfl⟩ := nhand
  refine xx_room (d2 := 9) (c2 := 0 + (0 + 0)) (s2 := 0 + (0 + 0)) (by decide) (by decide) (by decide) ?_
  refine k_part0 (d1 := 3) (c1 := 0) (s1 := 0) (d2 := 2) (c2 := 0) (s2 := 0) (c3 := 0) (s3 := 0) (P1 := (fun k B => k = 0 ∧ B.1 = A.1 ∧ B.2 w = xx_l 1 (vp_updL (fun _ => 0) 0 0) ∧ ∀ q, q ≠ w → B.2 q = A.2 q)) (P2 := (fun k v C => ((∃ fs, C.2 c = xx_o 9 (.int k :: fs) ∧ fs.length = 28) ∧ (k = 0 → ∃ g, C.2 w = xx_l 1 g ∧ g 0 = v)) ∧ C.2 z = xx_s 6 xs)) (by decide) (by decide) (by decide) (by decide) hs h0
    (h_L_part hb (xx_room (d := 2) (d2 := 1) (c1 := 0) (c2 := 0) (s1 := 0) (s2 := 0) (by decide) (by decide) (by decide) (c_X8_part0 hb hf za.1 hfb hfl hp)) (fun r B hr => Or.inl ⟨_, hr.1, _, by rw [hr.2]; exact hw, fun C y1 y2 y3 => ⟨rfl, by rw [y1, hr.2], y2, fun q hq => by rw [y3 q hq, hr.2]⟩⟩)) ?_ ?_
  · rintro k B ⟨rfl, y1, y2, y3⟩
    have eB : ∀ q, q ≠ w → B.2 q = A.2 q := y3
    have hcB := (eB c (by omega)).trans hc
    refine ⟨(eB z (by omega)).trans hs, ⟨_, hcB⟩, xx_room (d2 := 0) (c2 := 0) (s2 := 0) (by decide) (by decide) (by decide) (xx_mono (fun r C hr => ?_) (c_X9_partB0 hcB hq))⟩
    exact ⟨_, hr.1, ⟨⟨_, hr.2.2.1, rfl⟩, fun _ => ⟨_, (hr.2.2.2 w (by omega)).trans y2, rfl⟩⟩, (hr.2.2.2 z (by omega)).trans ((eB z (by omega)).trans hs)⟩
  · rintro k v C ⟨hf, hz⟩
    exact ⟨hf.1, hf.2, K C hz⟩
set_option maxRecDepth 100000 in
theorem f_part1Z {G : xx_G} {l : Launch} {A : xx_H} {z b a c e w : Nat} {xs : Nat → Int32} {Q : Option Value ⊕ String → xx_H → Prop} (h1 : z < b) (h2 : b < a) (h3 : a + 296 ≤ c) (h4 : c < e) (h5 : e + 21 ≤ w) (hs : A.2 z = xx_s 6 xs) (br : xx_br0 A b a) (md : xx_md0 A c e) (hw : A.2 w = xx_l 1 (fun _ => 0)) (K : ∀ C : xx_H, C.2 z = xx_s 6 xs → xx_X G l mL_law 9 0 0 1182 (xx_lv5 z b c w 0) [] C Q) (h0 : ¬ xs (0 + 1) = 0) (ha : xs (0 + 2) = 0) : xx_X G l mL_law 9 1 6 1030 (xx_lv5 z b c w 0) [] A Q := by
  obtain ⟨hb, hk, npay, ntold, nth, ntab, npath, nent, nstr, nval, nprod, nown, nhand, ndiv⟩ := br
  obtain ⟨hc, m0, m1, m2, m3, m4, m5, m6, m7, m8, m9, m10, m11, m12, m13, -⟩ := md
  obtain ⟨hg, p0, p1⟩ := npay
  obtain ⟨hf, za, hfb, hfl⟩ := nhand
  refine xx_room (d2 := 9) (c2 := 0 + (0 + 0)) (s2 := 0 + (0 + 0)) (by decide) (by decide) (by decide) ?_
  refine k_part1 (d1 := 3) (c1 := 0) (s1 := 0) (d2 := 2) (c2 := 0) (s2 := 0) (c3 := 0) (s3 := 0) (P1 := (fun k B => k = 0 ∧ B.1 = A.1 ∧ B.2 w = xx_l 1 (vp_updL (fun _ => 0) 0 1) ∧ ∀ q, q ≠ w → B.2 q = A.2 q)) (P2 := (fun k v C => ((∃ fs, C.2 c = xx_o 9 (.int k :: fs) ∧ fs.length = 28) ∧ (k = 0 → ∃ g, C.2 w = xx_l 1 g ∧ g 0 = v)) ∧ C.2 z = xx_s 6 xs)) (by decide) (by decide) (by decide) (by decide) hs h0
    (by rw [ha]; exact h_L_part hb (xx_room (d := 2) (d2 := 1) (c1 := 0) (c2 := 0) (s1 := 0) (s2 := 0) (by decide) (by decide) (by decide) (c_X8_part1 hb hf za.1 hfb hfl)) (fun r B hr => Or.inl ⟨_, hr.1, _, by rw [hr.2]; exact hw, fun C y1 y2 y3 => ⟨rfl, by rw [y1, hr.2], y2, fun q hq => by rw [y3 q hq, hr.2]⟩⟩)) ?_ ?_
  · rintro k B ⟨rfl, y1, y2, y3⟩
    have eB : ∀ q, q ≠ w → B.2 q = A.2 q := y3
    have hcB := (eB c (by omega)).trans hc
    refine ⟨(eB z (by omega)).trans hs, ⟨_, hcB⟩, xx_room (d2 := 0) (c2 := 0) (s2 := 0) (by decide) (by decide) (by decide) (xx_mono (fun r C hr => ?_) (by rw [ha]; exact c_X9_part1 hcB ((eB _ (by omega)).trans m0) ((eB _ (by omega)).trans m1) (by omega) (by omega) rfl rfl rfl))⟩
    exact ⟨_, hr.1, ⟨⟨_, hr.2.2.1, rfl⟩, fun _ => ⟨_, (hr.2.2.2 w (by omega)).trans y2, rfl⟩⟩, (hr.2.2.2 z (by omega)).trans ((eB z (by omega)).trans hs)⟩
  · rintro k v C ⟨hf, hz⟩
    exact ⟨hf.1, hf.2, K C hz⟩
set_option maxRecDepth 100000 in
theorem f_part1A {G : xx_G} {l : Launch} {A : xx_H} {z b a c e w : Nat} {xs : Nat → Int32} {Q : Option Value ⊕ String → xx_H → Prop} (h1 : z < b) (h2 : b < a) (h3 : a + 296 ≤ c) (h4 : c < e) (h5 : e + 21 ≤ w) (hs : A.2 z = xx_s 6 xs) (br : xx_br0 A b a) (md : xx_md0 A c e) (hw : A.2 w = xx_l 1 (fun _ => 0)) (K : ∀ C : xx_H, C.2 z = xx_s 6 xs → xx_X G l mL_law 9 0 0 1182 (xx_lv5 z b c w 0) [] C Q) (h0 : ¬ xs (0 + 1) = 0) (hp : ¬ xs (0 + 2) < 1) (hq : ¬ 20 ≤ xs (0 + 2)) : xx_X G l mL_law 9 1 6 1030 (xx_lv5 z b c w 0) [] A Q := by
  obtain ⟨hb, hk, npay, ntold, nth, ntab, npath, nent, nstr, nval, nprod, nown, nhand, ndiv⟩ := br
  obtain ⟨hc, m0, m1, m2, m3, m4, m5, m6, m7, m8, m9, m10, m11, m12, m13, -⟩ := md
  obtain ⟨hg, p0, p1⟩ := npay
  obtain ⟨hf, za, hfb, hfl⟩ := nhand
  refine xx_room (d2 := 9) (c2 := 0 + (0 + 0)) (s2 := 0 + (0 + 0)) (by decide) (by decide) (by decide) ?_
  refine k_part1 (d1 := 3) (c1 := 0) (s1 := 0) (d2 := 2) (c2 := 0) (s2 := 0) (c3 := 0) (s3 := 0) (P1 := (fun k B => k = 0 ∧ B.1 = A.1 ∧ B.2 w = xx_l 1 (vp_updL (fun _ => 0) 0 0) ∧ ∀ q, q ≠ w → B.2 q = A.2 q)) (P2 := (fun k v C => ((∃ fs, C.2 c = xx_o 9 (.int k :: fs) ∧ fs.length = 28) ∧ (k = 0 → ∃ g, C.2 w = xx_l 1 g ∧ g 0 = v)) ∧ C.2 z = xx_s 6 xs)) (by decide) (by decide) (by decide) (by decide) hs h0
    (h_L_part hb (xx_room (d := 2) (d2 := 1) (c1 := 0) (c2 := 0) (s1 := 0) (s2 := 0) (by decide) (by decide) (by decide) (c_X8_part2 hb hf za.1 hfb hfl hp)) (fun r B hr => Or.inl ⟨_, hr.1, _, by rw [hr.2]; exact hw, fun C y1 y2 y3 => ⟨rfl, by rw [y1, hr.2], y2, fun q hq => by rw [y3 q hq, hr.2]⟩⟩)) ?_ ?_
  · rintro k B ⟨rfl, y1, y2, y3⟩
    have eB : ∀ q, q ≠ w → B.2 q = A.2 q := y3
    have hcB := (eB c (by omega)).trans hc
    refine ⟨(eB z (by omega)).trans hs, ⟨_, hcB⟩, xx_room (d2 := 0) (c2 := 0) (s2 := 0) (by decide) (by decide) (by decide) (xx_mono (fun r C hr => ?_) (c_X9_part2 hcB ((eB _ (by omega)).trans m0) ((eB _ (by omega)).trans m1) (by omega) (by omega) rfl rfl rfl hp hq))⟩
    exact ⟨_, hr.1, ⟨⟨_, hr.2.2.1, rfl⟩, fun _ => ⟨_, (hr.2.2.2 w (by omega)).trans y2, rfl⟩⟩, (hr.2.2.2 z (by omega)).trans ((eB z (by omega)).trans hs)⟩
  · rintro k v C ⟨hf, hz⟩
    exact ⟨hf.1, hf.2, K C hz⟩
set_option maxRecDepth 100000 in
theorem f_part1B {G : xx_G} {l : Launch} {A : xx_H} {z b a c e w : Nat} {xs : Nat → Int32} {Q : Option Value ⊕ String → xx_H → Prop} (h1 : z < b) (h2 : b < a) (h3 : a + 296 ≤ c) (h4 : c < e) (h5 : e + 21 ≤ w) (hs : A.2 z = xx_s 6 xs) (br : xx_br0 A b a) (md : xx_md0 A c e) (hw : A.2 w = xx_l 1 (fun _ => 0)) (K : ∀ C : xx_H, C.2 z = xx_s 6 xs → xx_X G l mL_law 9 0 0 1182 (xx_lv5 z b c w 0) [] C Q) (h0 : ¬ xs (0 + 1) = 0) (hp : ¬ xs (0 + 2) < 1) (hq : 20 ≤ xs (0 + 2)) : xx_X G l mL_law 9 1 6 1030 (xx_lv5 z b c w 0) [] A Q := by
  obtain ⟨hb, hk, npay, ntold, nth, ntab, npath, nent, nstr, nval, nprod, nown, nhand, ndiv⟩ := br
  obtain ⟨hc, m0, m1, m2, m3, m4, m5, m6, m7, m8, m9, m10, m11, m12, m13, -⟩ := md
  obtain ⟨hg, p0, p1⟩ := npay
  obtain ⟨hf, za, hfb, hfl⟩ := nhand
  refine xx_room (d2 := 9) (c2 := 0 + (0 + 0)) (s2 := 0 + (0 + 0)) (by decide) (by decide) (by decide) ?_
  refine k_part1 (d1 := 3) (c1 := 0) (s1 := 0) (d2 := 2) (c2 := 0) (s2 := 0) (c3 := 0) (s3 := 0) (P1 := (fun k B => k = 0 ∧ B.1 = A.1 ∧ B.2 w = xx_l 1 (vp_updL (fun _ => 0) 0 0) ∧ ∀ q, q ≠ w → B.2 q = A.2 q)) (P2 := (fun k v C => ((∃ fs, C.2 c = xx_o 9 (.int k :: fs) ∧ fs.length = 28) ∧ (k = 0 → ∃ g, C.2 w = xx_l 1 g ∧ g 0 = v)) ∧ C.2 z = xx_s 6 xs)) (by decide) (by decide) (by decide) (by decide) hs h0
    (h_L_part hb (xx_room (d := 2) (d2 := 1) (c1 := 0) (c2 := 0) (s1 := 0) (s2 := 0) (by decide) (by decide) (by decide) (c_X8_part2 hb hf za.1 hfb hfl hp)) (fun r B hr => Or.inl ⟨_, hr.1, _, by rw [hr.2]; exact hw, fun C y1 y2 y3 => ⟨rfl, by rw [y1, hr.2], y2, fun q hq => by rw [y3 q hq, hr.2]⟩⟩)) ?_ ?_
  · rintro k B ⟨rfl, y1, y2, y3⟩
    have eB : ∀ q, q ≠ w → B.2 q = A.2 q := y3
    have hcB := (eB c (by omega)).trans hc
    refine ⟨(eB z (by omega)).trans hs, ⟨_, hcB⟩, xx_room (d2 := 0) (c2 := 0) (s2 := 0) (by decide) (by decide) (by decide) (xx_mono (fun r C hr => ?_) (c_X9_partB1 hcB hq))⟩
    exact ⟨_, hr.1, ⟨⟨_, hr.2.2.1, rfl⟩, fun _ => ⟨_, (hr.2.2.2 w (by omega)).trans y2, rfl⟩⟩, (hr.2.2.2 z (by omega)).trans ((eB z (by omega)).trans hs)⟩
  · rintro k v C ⟨hf, hz⟩
    exact ⟨hf.1, hf.2, K C hz⟩
set_option maxRecDepth 100000 in
theorem f_sign {G : xx_G} {l : Launch} {A : xx_H} {z b a c e w : Nat} {xs : Nat → Int32} {Q : Option Value ⊕ String → xx_H → Prop} (h1 : z < b) (h2 : b < a) (h3 : a + 296 ≤ c) (h4 : c < e) (h5 : e + 21 ≤ w) (hs : A.2 z = xx_s 6 xs) (br : xx_br0 A b a) (md : xx_md0 A c e) (hw : A.2 w = xx_l 1 (fun _ => 0)) (K : ∀ C : xx_H, C.2 z = xx_s 6 xs → xx_X G l mL_law 9 0 0 1182 (xx_lv5 z b c w 0) [] C Q) : xx_X G l mL_law 9 1 6 1113 (xx_lv5 z b c w 0) [] A Q := by
  obtain ⟨hb, hk, npay, ntold, nth, ntab, npath, nent, nstr, nval, nprod, nown, nhand, ndiv⟩ := br
  obtain ⟨hc, m0, m1, m2, m3, m4, m5, m6, m7, m8, m9, m10, m11, m12, m13, -⟩ := md
  obtain ⟨hg, p0, p1⟩ := npay
  obtain ⟨hf, za, hfb, hfl⟩ := nhand
  refine xx_room (d2 := 9) (c2 := 0 + (0 + 0)) (s2 := 0 + (0 + 0)) (by decide) (by decide) (by decide) ?_
  refine k_sign (d1 := 0) (c1 := 0) (s1 := 0) (d2 := 0) (c2 := 0) (s2 := 0) (c3 := 0) (s3 := 0) (P1 := fun v B => v = 0 ∧ B = A) (P2 := fun _ C => C.2 z = xx_s 6 xs) (by decide) (by decide) hb
    (xx_mono (fun r B hr => ⟨0, hr.1, rfl, hr.2⟩) (c_X8_sign hb hf za.1)) ?_ (fun v C hz => K C hz)
  rintro v B ⟨rfl, rfl⟩
  exact ⟨⟨_, hc⟩, xx_mono (fun r C hr => ⟨hr.1, (hr.2.2.2 z (by omega)).trans hs⟩) (c_X9_sign hc m2 (by omega))⟩
set_option maxRecDepth 100000 in
theorem f_gameG {G : xx_G} {l : Launch} {A : xx_H} {z b a c e w : Nat} {xs : Nat → Int32} {Q : Option Value ⊕ String → xx_H → Prop} (h1 : z < b) (h2 : b < a) (h3 : a + 296 ≤ c) (h4 : c < e) (h5 : e + 21 ≤ w) (hs : A.2 z = xx_s 6 xs) (br : xx_br0 A b a) (md : xx_md0 A c e) (hw : A.2 w = xx_l 1 (fun _ => 0)) (K : ∀ C : xx_H, C.2 z = xx_s 6 xs → xx_X G l mL_law 9 0 0 1182 (xx_lv5 z b c w 0) [] C Q) {o t : Nat} (ho1 : 1 ≤ o) (ho : o ≤ 6) (ht1 : 1 ≤ t) (ht : t ≤ 6) (e1 : xs (0 + 1) = nI o) (e2 : xs (0 + 2) = nI t) : xx_X G l mL_law 9 1 6 124 (xx_lv5 z b c w 0) [] A Q := by
  obtain ⟨hb, hk, npay, ntold, nth, ntab, npath, nent, nstr, nval, nprod, nown, nhand, ndiv⟩ := br
  obtain ⟨hc, m0, m1, m2, m3, m4, m5, m6, m7, m8, m9, m10, m11, m12, m13, m14, m15, -⟩ := md
  obtain ⟨hg, p0, p1⟩ := npay
  obtain ⟨hf, za, hfb, hfl⟩ := nhand
  obtain ⟨hh, t0, t1⟩ := ntold
  refine xx_room (d2 := 9) (c2 := 0 + (0 + 0)) (s2 := 0 + (0 + 0)) (by decide) (by decide) (by decide) ?_
  refine k_game (d1 := 4) (c1 := 0) (s1 := 0) (d2 := 2) (c2 := 0) (s2 := 0) (c3 := 0) (s3 := 0) (P1 := fun k B => k = 0 ∧ ∀ q, q ≠ b → ¬ (a ≤ q ∧ q < a + 18) → B.2 q = A.2 q) (P2 := (fun k C => (∃ fs, C.2 c = xx_o 9 (.int k :: fs) ∧ fs.length = 28) ∧ C.2 z = xx_s 6 xs)) (by decide) (by decide) (by decide) (by decide) hs
    (by rw [e1, e2]; exact h_L_game hb (c_X8_game ho1 ho ht1 ht h2 hb hk hg hh nth p0.1 p0.2.1 p0.2.2.1 p0.2.2.2 t0.1 t0.2.1 t0.2.2 p1.1 p1.2.1 p1.2.2.1 p1.2.2.2 t1.1 t1.2.1 t1.2.2) (fun r B hr => Or.inl ⟨hr.1, rfl, hr.2.2.2.2.2.2.2.2.2.2.2.2.2.2.2.2.2.2.2⟩)) ?_ ?_
  · rintro k B ⟨rfl, eB⟩
    have hcB := (eB c (by omega) (by omega)).trans hc
    refine ⟨(eB z (by omega) (by omega)).trans hs, ⟨_, hcB⟩, ?_⟩
    rw [e1, e2]
    refine (xx_mono (fun r C hr => ?_) (c_X9_game h4 ho1 ho ht1 ht hcB ((eB _ (by omega) (by omega)).trans m3) ((eB _ (by omega) (by omega)).trans m4) ((eB _ (by omega) (by omega)).trans m5) ((eB _ (by omega) (by omega)).trans m6) ((eB _ (by omega) (by omega)).trans m12) ((eB _ (by omega) (by omega)).trans m13) ((eB _ (by omega) (by omega)).trans m14) ((eB _ (by omega) (by omega)).trans m15)))
    exact ⟨hr.1, ⟨_, hr.2.2.1, rfl⟩, (hr.2.2.2.2.2.2.2.2.2.2.2 z (by omega) (by omega)).trans ((eB z (by omega) (by omega)).trans hs)⟩
  · rintro k C ⟨hf, hz⟩
    exact ⟨hf, K C hz⟩
set_option maxRecDepth 100000 in
theorem f_game {G : xx_G} {l : Launch} {A : xx_H} {z b a c e w : Nat} {xs : Nat → Int32} {Q : Option Value ⊕ String → xx_H → Prop} (h1 : z < b) (h2 : b < a) (h3 : a + 296 ≤ c) (h4 : c < e) (h5 : e + 21 ≤ w) (hs : A.2 z = xx_s 6 xs) (br : xx_br0 A b a) (md : xx_md0 A c e) (hw : A.2 w = xx_l 1 (fun _ => 0)) (K : ∀ C : xx_H, C.2 z = xx_s 6 xs → xx_X G l mL_law 9 0 0 1182 (xx_lv5 z b c w 0) [] C Q) : xx_X G l mL_law 9 1 6 124 (xx_lv5 z b c w 0) [] A Q := by
  by_cases hg : ¬ xs (0 + 1) < 1 ∧ ¬ 6 < xs (0 + 1) ∧ ¬ xs (0 + 2) < 1 ∧ xs (0 + 2) ≤ 6
  · obtain ⟨q1, q2, q3, q4⟩ := hg
    obtain ⟨o, o1, e1⟩ := nI_of2 (n := 6) (M := 6) (by decide) (fun q => q1 (Int32.lt_trans q (by decide))) (Int32.not_lt.mp q2)
    obtain ⟨t, t1, e2⟩ := nI_of2 (n := 6) (M := 6) (by decide) (fun q => q3 (Int32.lt_trans q (by decide))) q4
    have o0 : o ≠ 0 := fun q => by subst q; rw [e1] at q1; exact q1 (by decide)
    have t0 : t ≠ 0 := fun q => by subst q; rw [e2] at q3; exact q3 (by decide)
    exact f_gameG h1 h2 h3 h4 h5 hs br md hw K (by omega) o1 (by omega) t1 e1 e2
  · exact f_gameB h1 h2 h3 h4 h5 hs br md hw K hg
theorem f_told {G : xx_G} {l : Launch} {A : xx_H} {z b a c e w : Nat} {xs : Nat → Int32} {Q : Option Value ⊕ String → xx_H → Prop} (h1 : z < b) (h2 : b < a) (h3 : a + 296 ≤ c) (h4 : c < e) (h5 : e + 21 ≤ w) (hs : A.2 z = xx_s 6 xs) (br : xx_br0 A b a) (md : xx_md0 A c e) (hw : A.2 w = xx_l 1 (fun _ => 0)) (K : ∀ C : xx_H, C.2 z = xx_s 6 xs → xx_X G l mL_law 9 0 0 1182 (xx_lv5 z b c w 0) [] C Q) : xx_X G l mL_law 9 1 6 1126 (xx_lv5 z b c w 0) [] A Q := by
  by_cases hg : (xs (0 + 1)).toInt < 0 ∨ 6 < (xs (0 + 1)).toInt
  · exact f_toldB h1 h2 h3 h4 h5 hs br md hw K hg
  · have hg1 : ¬ (xs (0 + 1)).toInt < 0 := fun q => hg (Or.inl q)
    have hg2 : ¬ 6 < (xs (0 + 1)).toInt := fun q => hg (Or.inr q)
    obtain ⟨j, j1, ej⟩ := nI_of2 (x := xs (0 + 1)) (n := 6) (M := 6) (by decide) (fun q => hg1 (Int32.lt_iff_toInt_lt.mp q)) (Int32.le_iff_toInt_le.mpr (by show (xs (0 + 1)).toInt ≤ 6; omega))
    have hj : j = 0 ∨ j = 1 ∨ j = 2 ∨ j = 3 ∨ j = 4 ∨ j = 5 ∨ j = 6 := by omega
    rcases hj with rfl | rfl | rfl | rfl | rfl | rfl | rfl
    · exact f_told0 h1 h2 h3 h4 h5 hs br md hw K ej
    · exact f_told1 h1 h2 h3 h4 h5 hs br md hw K ej
    · exact f_told2 h1 h2 h3 h4 h5 hs br md hw K ej
    · exact f_told3 h1 h2 h3 h4 h5 hs br md hw K ej
    · exact f_told4 h1 h2 h3 h4 h5 hs br md hw K ej
    · exact f_told5 h1 h2 h3 h4 h5 hs br md hw K ej
    · exact f_told6 h1 h2 h3 h4 h5 hs br md hw K ej
theorem f_part {G : xx_G} {l : Launch} {A : xx_H} {z b a c e w : Nat} {xs : Nat → Int32} {Q : Option Value ⊕ String → xx_H → Prop} (h1 : z < b) (h2 : b < a) (h3 : a + 296 ≤ c) (h4 : c < e) (h5 : e + 21 ≤ w) (hs : A.2 z = xx_s 6 xs) (br : xx_br0 A b a) (md : xx_md0 A c e) (hw : A.2 w = xx_l 1 (fun _ => 0)) (K : ∀ C : xx_H, C.2 z = xx_s 6 xs → xx_X G l mL_law 9 0 0 1182 (xx_lv5 z b c w 0) [] C Q) : xx_X G l mL_law 9 1 6 1030 (xx_lv5 z b c w 0) [] A Q := by
  by_cases h0 : xs (0 + 1) = 0
  · by_cases hp : xs (0 + 2) < 0
    · exact f_part0N h1 h2 h3 h4 h5 hs br md hw K h0 hp
    · by_cases hq : 20 ≤ xs (0 + 2)
      · exact f_part0B h1 h2 h3 h4 h5 hs br md hw K h0 hp hq
      · exact f_part0A h1 h2 h3 h4 h5 hs br md hw K h0 hp hq
  · by_cases hp : xs (0 + 2) < 0
    · exact f_part1N h1 h2 h3 h4 h5 hs br md hw K h0 hp
    · by_cases ha : xs (0 + 2) = 0
      · exact f_part1Z h1 h2 h3 h4 h5 hs br md hw K h0 ha
      · have hp1 : ¬ xs (0 + 2) < 1 := by
          obtain ⟨j, j1, ej⟩ := nI_of hp
          rw [ej]
          have : j ≠ 0 := fun q => ha (by rw [ej, q]; rfl)
          exact nI_nlt (b := 1) (by omega) j1
        by_cases hq : 20 ≤ xs (0 + 2)
        · exact f_part1B h1 h2 h3 h4 h5 hs br md hw K h0 hp1 hq
        · exact f_part1A h1 h2 h3 h4 h5 hs br md hw K h0 hp1 hq
set_option maxRecDepth 100000 in
theorem k_first {G : xx_G} {l : Launch} {A : xx_H} {z b a c e w L : Nat} {xs : Nat → Int32} {Q : Option Value ⊕ String → xx_H → Prop} (hL : L ≤ 6) (h1 : z < b) (h2 : b < a) (h3 : a + 296 ≤ c) (h4 : c < e) (h5 : e + 21 ≤ w) (hs : A.2 z = xx_s L xs) (br : xx_br0 A b a) (md : xx_md0 A c e) (hw : A.2 w = xx_l 1 (fun _ => 0)) (hQ : ∀ C : xx_H, Q (.inl (some (.int 1))) C) : xx_X G l mL_law 9 1 6 23 (xx_lv5 z b c w 0) [] A Q := by
  by_cases h6 : L < 6
  · exact k_end hs (by omega) (by omega) (by omega) (hQ A)
  · have e6 : L = 6 := by omega
    subst e6
    have K0 : ∀ (C : xx_H) (c1 s1 : Nat), C.2 z = xx_s 6 xs → xx_X G l mL_law 9 c1 s1 1182 (xx_lv5 z b c w 0) [] C Q := fun C c1 s1 hz => k_next (k_end (i := 0 + 6) hz (by omega) (by omega) (by omega) (hQ C))
    have K : ∀ C : xx_H, C.2 z = xx_s 6 xs → xx_X G l mL_law 9 0 0 1182 (xx_lv5 z b c w 0) [] C Q := fun C hz => K0 C 0 0 hz
    refine k_go hs (by omega) (by omega) (fun j hj => ?_) (K0 A 1 6 hs)
    have hj2 : j = 0 ∨ j = 1 ∨ j = 2 ∨ j = 3 ∨ j = 4 ∨ j = 5 ∨ j = 6 ∨ j = 7 ∨ j = 8 ∨ j = 9 ∨ j = 10 ∨ j = 11 ∨ j = 12 ∨ j = 13 ∨ j = 14 ∨ j = 15 ∨ j = 16 := by omega
    rcases hj2 with rfl | rfl | rfl | rfl | rfl | rfl | rfl | rfl | rfl | rfl | rfl | rfl | rfl | rfl | rfl | rfl | rfl
    · exact f_game h1 h2 h3 h4 h5 hs br md hw K
    · exact f_pay h1 h2 h3 h4 h5 hs br md hw K
    · exact f_run h1 h2 h3 h4 h5 hs br md hw K
    · exact f_step h1 h2 h3 h4 h5 hs br md hw K
    · exact f_weight h1 h2 h3 h4 h5 hs br md hw K
    · exact f_list h1 h2 h3 h4 h5 hs br md hw K
    · exact f_support h1 h2 h3 h4 h5 hs br md hw K
    · exact f_strategy h1 h2 h3 h4 h5 hs br md hw K
    · exact f_gets h1 h2 h3 h4 h5 hs br md hw K
    · exact f_replies h1 h2 h3 h4 h5 hs br md hw K
    · exact f_judge h1 h2 h3 h4 h5 hs br md hw K
    · exact f_index h1 h2 h3 h4 h5 hs br md hw K
    · exact f_round h1 h2 h3 h4 h5 hs br md hw K
    · exact f_isThere h1 h2 h3 h4 h5 hs br md hw K
    · exact f_part h1 h2 h3 h4 h5 hs br md hw K
    · exact f_sign h1 h2 h3 h4 h5 hs br md hw K
    · exact f_told h1 h2 h3 h4 h5 hs br md hw K
