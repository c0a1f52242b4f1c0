/-! ===== what the arguments must be ===== -/
def yy_cn (m n p : Nat) : Nat := if p = 0 then m else n
def yy_in (x : Int32) (k : Nat) : Prop := ∃ v, v < k ∧ x = nI v
theorem yy_cn6 {m n p : Nat} (hm : m ≤ 6) (hn : n ≤ 6) : yy_cn m n p ≤ 6 := by unfold yy_cn; split <;> assumption
theorem yy_in_lo {x : Int32} {k : Nat} (hk : k < 2 ^ 31) (h : x < 0) : ¬ yy_in x k := by
  rintro ⟨v, hv, e⟩
  rw [e] at h
  exact nI_pos (by omega) h
theorem yy_in_hi {x : Int32} {k : Nat} (hk : k < 2 ^ 31) (h : ¬ x < nI k) : ¬ yy_in x k := by
  rintro ⟨v, hv, e⟩
  rw [e] at h
  exact h (nI_lt hv hk)
theorem yy_in_of {x : Int32} {k : Nat} (hk : k < 2 ^ 31) (h : ¬ x < 0) (h2 : x < nI k) : yy_in x k := by
  obtain ⟨j, hj, e⟩ := nI_of h
  rw [e] at h2
  exact ⟨j, (nI_ltI hj hk).mp h2, e⟩
theorem yy_in_of2 {x : Int32} {k : Nat} (hk : k + 1 < 2 ^ 31) (h : ¬ x < 0) (h2 : x ≤ nI k) : yy_in x (k + 1) := by
  obtain ⟨j, hj, e⟩ := nI_of h
  rw [e] at h2
  exact ⟨j, by have := (nI_leI hj (by omega)).mp h2; omega, e⟩
theorem yy_in_hi2 {x : Int32} {k : Nat} (hk : k + 1 < 2 ^ 31) (h : ¬ x ≤ nI k) : ¬ yy_in x (k + 1) := by
  rintro ⟨v, hv, e⟩
  rw [e] at h
  exact h ((nI_leI (by omega) (by omega)).mpr (by omega))
/-- a good end, or a throw that leaves all as it was -/
def xx_oe (g : Prop) (E : String) (A : xx_H) (z : Option Value ⊕ String) (B : xx_H) : Prop := (g ∧ z = .inl none ∧ B = A) ∨ (¬ g ∧ z = .inr E ∧ A.1 ≤ B.1 ∧ B.2 = A.2)
set_option maxRecDepth 100000 in
theorem c_X8_needGame {G : xx_G} {l : Launch} {A : xx_H} {b m n : Nat} {u6 u7 u8 u10 u11 : Value} {fc : Nat → Int32} (hb : A.2 b = xx_o 8 [.ref (b + 1), .ref (b + 2), .ref (b + 11), .ref (b + 18), .ref (b + 19), .ref (b + 226), u6, u7, u8, .ref (b + 230), u10, u11, .ref (b + 233), .ref (b + 266), .ref (b + 279), .ref (b + 281), .ref (b + 283), .ref (b + 288)]) (hc : A.2 (b + 1) = xx_i 2 fc) (hc2 : ∀ p, p < 2 → fc p = nI (yy_cn m n p)) (hm1 : 1 ≤ m) (hm : m ≤ 6) : xx_X G l mX8_needGame 6 0 0 0 (lv_args 0 [.ref b]) [] A (fun z B => z = .inl none ∧ B = A) := by
  refine xx_clv (lv2 := [(0, .ref b)]) rfl ?_
  refine xx_aload_n dX8_needGame_0 rfl ?_
  refine xx_get xx_c8 dX8_needGame_1 wf_X8_7 (j := 0) (by decide) hb rfl ?_
  refine xx_iconst (v := 0) dX8_needGame_4 (by decide) ?_
  refine xx_iald dX8_needGame_5 hc (by unfold vp_in; decide) ?_
  refine xx_eqi (y := nI m) (hc2 0 (by decide)) ?_
  refine xx_if_ne (tgt := 20) dX8_needGame_6 (by decide) (fun j6 => ?_) (fun h => absurd h (nI_ne0 (n := m) (by omega) (by omega)))
  exact xx_vret dX8_needGame_20 rfl ⟨rfl, rfl⟩
set_option maxRecDepth 100000 in
theorem c_X8_needPlayer {G : xx_G} {l : Launch} {A : xx_H} {b : Nat} {p : Int32} : xx_X G l mX8_needPlayer 6 1 6 0 (lv_args 0 [.ref b, .int p]) [] A (xx_oe (yy_in p 2) R_iae A) := by
  refine xx_clv (lv2 := [(0, .ref b), (1, .int p)]) rfl ?_
  refine xx_iload_n dX8_needPlayer_0 rfl ?_
  refine xx_if_lt (tgt := 9) dX8_needPlayer_1 (by decide) (fun j1 => ?_) (fun j1 => ?_)
  · exact xx_throwSW xx_thw_iae (List.mem_of_getElem? (i := 2) rfl) rfl dX8_needPlayer_9 dX8_needPlayer_12 dX8_needPlayer_13 dX8_needPlayer_16 dX8_needPlayer_19 (by decide) (by decide) (fun n9 hn9 => Or.inr ⟨yy_in_lo (by decide) j1, rfl, hn9, rfl⟩)
  · refine xx_iload_n dX8_needPlayer_4 rfl ?_
    refine xx_iconst (v := 1) dX8_needPlayer_5 (by decide) ?_
    refine xx_icmp_le (tgt := 20) dX8_needPlayer_6 (by decide) (fun j6 => ?_) (fun j6 => ?_)
    · exact xx_vret dX8_needPlayer_20 rfl (Or.inl ⟨yy_in_of2 (k := 1) (by decide) j1 j6, rfl, rfl⟩)
    · exact xx_throwSW xx_thw_iae (List.mem_of_getElem? (i := 2) rfl) rfl dX8_needPlayer_9 dX8_needPlayer_12 dX8_needPlayer_13 dX8_needPlayer_16 dX8_needPlayer_19 (by decide) (by decide) (fun n9 hn9 => Or.inr ⟨yy_in_hi2 (k := 1) (by decide) j6, rfl, hn9, rfl⟩)
set_option maxRecDepth 100000 in
theorem c_X8_needRow {G : xx_G} {l : Launch} {A : xx_H} {b m n : Nat} {u6 u7 u8 u10 u11 : Value} {fc : Nat → Int32} {p : Nat} {x : Int32} (hb : A.2 b = xx_o 8 [.ref (b + 1), .ref (b + 2), .ref (b + 11), .ref (b + 18), .ref (b + 19), .ref (b + 226), u6, u7, u8, .ref (b + 230), u10, u11, .ref (b + 233), .ref (b + 266), .ref (b + 279), .ref (b + 281), .ref (b + 283), .ref (b + 288)]) (hc : A.2 (b + 1) = xx_i 2 fc) (hc2 : ∀ p, p < 2 → fc p = nI (yy_cn m n p)) (hm : m ≤ 6) (hn : n ≤ 6) (hp : p < 2) : xx_X G l mX8_needRow 6 1 6 0 (lv_args 0 [.ref b, .int (nI p), .int x]) [] A (xx_oe (yy_in x (yy_cn m n p)) R_iae A) := by
  have c6 := yy_cn6 (p := p) hm hn
  refine xx_clv (lv2 := [(0, .ref b), (1, .int (nI p)), (2, .int x)]) rfl ?_
  refine xx_iload_n dX8_needRow_0 rfl ?_
  refine xx_if_lt (tgt := 14) dX8_needRow_1 (by decide) (fun j1 => ?_) (fun j1 => ?_)
  · exact xx_throwSW xx_thw_iae (List.mem_of_getElem? (i := 3) rfl) rfl dX8_needRow_14 dX8_needRow_17 dX8_needRow_18 dX8_needRow_21 dX8_needRow_24 (by decide) (by decide) (fun n9 hn9 => Or.inr ⟨yy_in_lo (by omega) j1, rfl, hn9, rfl⟩)
  · refine xx_iload_n dX8_needRow_4 rfl ?_
    refine xx_aload_n dX8_needRow_5 rfl ?_
    refine xx_get xx_c8 dX8_needRow_6 wf_X8_7 (j := 0) (by decide) hb rfl ?_
    refine xx_iload_n dX8_needRow_9 rfl ?_
    refine xx_iald dX8_needRow_10 hc (vp_in_nI (by omega) (by decide)) ?_
    refine xx_eqi (y := nI (yy_cn m n p)) (by rw [nI_clamp (by omega)]; exact hc2 _ (by omega)) ?_
    refine xx_icmp_lt (tgt := 25) dX8_needRow_11 (by decide) (fun j11 => ?_) (fun j11 => ?_)
    · exact xx_vret dX8_needRow_25 rfl (Or.inl ⟨yy_in_of (by omega) j1 j11, rfl, rfl⟩)
    · exact xx_throwSW xx_thw_iae (List.mem_of_getElem? (i := 3) rfl) rfl dX8_needRow_14 dX8_needRow_17 dX8_needRow_18 dX8_needRow_21 dX8_needRow_24 (by decide) (by decide) (fun n9 hn9 => Or.inr ⟨yy_in_hi (by omega) j11, rfl, hn9, rfl⟩)
