/-! ===== the law's loop ===== -/
set_option maxRecDepth 100000 in
theorem k_loop {G : xx_G} {l : Launch} {z b L : Nat} {xs : Nat → Int32} {Q : Option Value ⊕ String → xx_H → Prop} (hL : L ≤ 3072) (hQ : ∀ C : xx_H, Q (.inl (some (.int 1))) C) : ∀ (v i : Nat) (A : xx_H), i ≤ 3078 → L < i + 6 * v + 6 → (yx_F A z b L xs ∨ yx_I A z b L xs) → xx_X G l mL_law 12 (14 * v) (11400 * v) 23 (xx_lv5 z b (b + 297) (b + 319) i) [] A Q
  | 0, i, A, h1, h2, hA => k_end (hA.elim (fun h => h.1) (fun h => h.1)) hL h1 (by omega) (hQ A)
  | v + 1, i, A, h1, h2, hA => by
    have hs : A.2 z = xx_s L xs := hA.elim (fun h => h.1) (fun h => h.1)
    by_cases h6 : L < i + 6
    · exact k_end hs hL h1 h6 (hQ A)
    have hi : i + 6 ≤ L := by omega
    have K : ∀ C : xx_H, (yx_F C z b L xs ∨ yx_I C z b L xs) → xx_X G l mL_law 12 (14 * v) (11400 * v) 1182 (xx_lv5 z b (b + 297) (b + 319) i) [] C Q := fun C hC => k_next (k_loop hL hQ v (i + 6) C (by omega) (by omega) hC)
    show xx_X G l mL_law 12 (14 * v + 14) (11400 * v + 11400) 23 (xx_lv5 z b (b + 297) (b + 319) i) [] A Q
    refine k_go hs hL hi (fun j hj => ?_) (xx_room (d2 := 12) (c2 := 14 * v) (s2 := 11400 * v) (by omega) (by omega) (by omega) (K A hA))
    have hj2 : j = 0 ∨ j = 1 ∨ j = 2 ∨ j = 3 ∨ j = 4 ∨ j = 5 ∨ j = 6 ∨ j = 7 ∨ j = 8 ∨ j = 9 ∨ j = 10 ∨ j = 11 ∨ j = 12 ∨ j = 13 ∨ j = 14 ∨ j = 15 ∨ j = 16 := by omega
    rcases hA with I | I
    · have KF : ∀ C : xx_H, yx_F C z b L xs → xx_X G l mL_law 12 (14 * v) (11400 * v) 1182 (xx_lv5 z b (b + 297) (b + 319) i) [] C Q := fun C hC => K C (Or.inl hC)
      rcases hj2 with rfl | rfl | rfl | rfl | rfl | rfl | rfl | rfl | rfl | rfl | rfl | rfl | rfl | rfl | rfl | rfl | rfl
      · exact b_game I hi hL KF (fun C hC => K C (Or.inr hC))
      · exact b_pay I hi hL KF
      · exact b_run I hi hL KF
      · exact b_step I hi hL KF
      · exact b_weight I hi hL KF
      · exact b_list I hi hL KF
      · exact b_support I hi hL KF
      · exact b_strategy I hi hL KF
      · exact b_gets I hi hL KF
      · exact b_replies I hi hL KF
      · exact b_judge I hi hL KF
      · exact b_index I hi hL KF
      · exact b_round I hi hL KF
      · exact b_isThere I hi hL KF
      · exact b_part I hi hL KF
      · exact b_sign I hi hL KF
      · exact b_told I hi hL KF
    · have KI : ∀ C : xx_H, yx_I C z b L xs → xx_X G l mL_law 12 (14 * v) (11400 * v) 1182 (xx_lv5 z b (b + 297) (b + 319) i) [] C Q := fun C hC => K C (Or.inr hC)
      rcases hj2 with rfl | rfl | rfl | rfl | rfl | rfl | rfl | rfl | rfl | rfl | rfl | rfl | rfl | rfl | rfl | rfl | rfl
      · exact a_game I hi hL KI
      · exact a_pay I hi hL KI
      · exact a_run I hi hL KI
      · exact a_step I hi hL KI
      · exact a_weight I hi hL KI
      · exact a_list I hi hL KI
      · exact a_support I hi hL KI
      · exact a_strategy I hi hL KI
      · exact a_gets I hi hL KI
      · exact a_replies I hi hL KI
      · exact a_judge I hi hL KI
      · exact a_index I hi hL KI
      · exact a_round I hi hL KI
      · exact a_isThere I hi hL KI
      · exact a_part I hi hL KI
      · exact a_sign I hi hL KI
      · exact a_told I hi hL KI
