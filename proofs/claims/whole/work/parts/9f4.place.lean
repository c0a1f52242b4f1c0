/-! ===== Minors: place, expand, fill, signOf ===== -/
theorem yST_n : ∀ k, k < 7 → yST k = .int (nI (yk_st k)) := by
  intro k hk
  rcases (show k = 0 ∨ k = 1 ∨ k = 2 ∨ k = 3 ∨ k = 4 ∨ k = 5 ∨ k = 6 by omega) with z | z | z | z | z | z | z <;> subst z <;> rfl
theorem ySE_n : ∀ k, k < 7 → ySE k = .int (nI (yk_se k)) := by
  intro k hk
  rcases (show k = 0 ∨ k = 1 ∨ k = 2 ∨ k = 3 ∨ k = 4 ∨ k = 5 ∨ k = 6 by omega) with z | z | z | z | z | z | z <;> subst z <;> rfl
/-- a Minors at p -/
def xx_mno (B : xx_H) (p py : Nat) (H9 : (Nat → Int32) → Prop) : Prop := B.2 p = xx_o 3 [.ref py, .ref (p + 1), .ref (p + 2), .ref (p + 3), .ref (p + 4)] ∧ (∃ f, B.2 (p + 1) = xx_i 64 f ∧ ∀ S, S < 64 → f S = nI (yk_r S)) ∧ (∃ g, B.2 (p + 2) = xx_i 5544 g ∧ H9 g) ∧ (∃ f, B.2 (p + 3) = xx_i 36 f) ∧ ∃ f, B.2 (p + 4) = xx_i 6 f
theorem xx_mno.to {B C : xx_H} {p py : Nat} {H9 : (Nat → Int32) → Prop} (h : xx_mno B p py H9) (hq : ∀ q, p ≤ q → q < p + 5 → C.2 q = B.2 q) : xx_mno C p py H9 := by
  obtain ⟨h1, ⟨f, h2, h3⟩, ⟨g, h4, h5⟩, ⟨s, h6⟩, ⟨x, h7⟩⟩ := h
  exact ⟨(hq _ (by omega) (by omega)).trans h1, ⟨f, (hq _ (by omega) (by omega)).trans h2, h3⟩, ⟨g, (hq _ (by omega) (by omega)).trans h4, h5⟩, ⟨s, (hq _ (by omega) (by omega)).trans h6⟩, ⟨x, (hq _ (by omega) (by omega)).trans h7⟩⟩
/-- its minors are those of a -/
def yk_H (a : Nat → Nat → Int) (o t : Nat) (g : Nat → Int32) : Prop := ∀ S, S < 2 ^ o → ∀ U, U < 2 ^ t → yb_c U = yb_c S → xx_mh g (yk_p S U) (yk_m a S U)
def yk_H0 (g : Nat → Int32) : Prop := xx_mh g 0 1
theorem yk_pw {o : Nat} (h : o ≤ 6) : 2 ^ o ≤ 64 := Nat.pow_le_pow_right (n := 2) (by decide) h
set_option maxRecDepth 100000 in
theorem c_X3_place {G : xx_G} {l : Launch} {A : xx_H} {p py : Nat} {H9 : (Nat → Int32) → Prop} {S U : Nat} (H : xx_mno A p py H9) (hS : S < 64) (hU : U < 64) : xx_X G l mX3_place 1 0 0 0 (lv_args 0 [.ref p, .int (nI S), .int (nI U)]) [] A (fun z B => z = .inl (some (.int (nI (yk_p S U)))) ∧ B = A) := by
  obtain ⟨h1, ⟨f, h2, h3⟩, _⟩ := id H
  have k6 := yb_c6 S hS
  refine xx_clv (lv2 := [(0, .ref p), (1, .int (nI S)), (2, .int (nI U))]) rfl ?_
  refine xx_iload_n dX3_place_0 rfl ?_
  refine xx_callS (N := mJ6_bitCount) (vs := [.int (nI S)]) (rest := []) (d2 := 0) (c2 := 0) (s2 := 0) (c3 := 0) (s3 := 0) dX3_place_1 wm_X3_28 ws_J6_bitCount wz_J6 (by decide) nJ6_bitCount ⟨pJ6_bitCount, Nat.le_of_ble_eq_true rfl, by decide, Nat.le_of_ble_eq_true rfl, by decide, by decide⟩ (c_J6_bitCount hS) (fun v9 B9 hC => ?_) (fun E9 B9 hC => absurd hC.1 (by simp))
  obtain ⟨hv9, e9⟩ := hC
  cases hv9
  refine xx_cst (st2 := [.int (nI (yb_c S))]) rfl ?_
  rw [e9]
  refine xx_istore_n dX3_place_4 (by decide) ?_
  refine xx_clv (lv2 := [(0, .ref p), (1, .int (nI S)), (2, .int (nI U)), (3, .int (nI (yb_c S)))]) rfl ?_
  refine xx_gst (v := .ref (G.2.1.2 10 0)) dX3_place_5 wf_X3_96 (fun s9 h9 => h9.st.1) ?_
  refine xx_iload_n dX3_place_8 rfl ?_
  refine xx_tald (x := nI (yk_st (yb_c S))) dX3_place_9 (fun s9 h9 => h9.st.2.1) (vp_in_nI (by omega) (by decide)) (by rw [nI_clamp (by omega)]; exact yST_n _ (by omega)) ?_
  refine xx_aload_n dX3_place_10 rfl ?_
  refine xx_get xx_c3 dX3_place_11 wf_X3_9 (j := 1) (by decide) h1 rfl ?_
  refine xx_iload_n dX3_place_14 rfl ?_
  refine xx_iald dX3_place_15 h2 (vp_in_nI (by omega) (by decide)) ?_
  refine xx_eqi (y := nI (yk_r S)) (by rw [nI_clamp (by omega)]; exact h3 S hS) ?_
  refine xx_gst (v := .ref (G.2.1.2 10 1)) dX3_place_16 wf_X3_99 (fun s9 h9 => h9.st.2.2.1) ?_
  refine xx_iload_n dX3_place_19 rfl ?_
  refine xx_tald (x := nI (yk_se (yb_c S))) dX3_place_20 (fun s9 h9 => h9.st.2.2.2) (vp_in_nI (by omega) (by decide)) (by rw [nI_clamp (by omega)]; exact ySE_n _ (by omega)) ?_
  refine xx_imul dX3_place_21 ?_
  refine xx_eqi (y := nI ((yk_r S) * (yk_se (yb_c S)))) (pk_mul (yk_r S) (yk_se (yb_c S))) ?_
  refine xx_iadd dX3_place_22 ?_
  refine xx_eqi (y := nI (yk_st (yb_c S) + ((yk_r S) * (yk_se (yb_c S))))) (nI_add (yk_st (yb_c S)) ((yk_r S) * (yk_se (yb_c S)))) ?_
  refine xx_aload_n dX3_place_23 rfl ?_
  refine xx_get xx_c3 dX3_place_24 wf_X3_9 (j := 1) (by decide) h1 rfl ?_
  refine xx_iload_n dX3_place_27 rfl ?_
  refine xx_iald dX3_place_28 h2 (vp_in_nI (by omega) (by decide)) ?_
  refine xx_eqi (y := nI (yk_r U)) (by rw [nI_clamp (by omega)]; exact h3 U hU) ?_
  refine xx_iadd dX3_place_29 ?_
  refine xx_eqi (y := nI (yk_st (yb_c S) + ((yk_r S) * (yk_se (yb_c S))) + (yk_r U))) (nI_add (yk_st (yb_c S) + ((yk_r S) * (yk_se (yb_c S)))) (yk_r U)) ?_
  refine xx_bipush (v := 6) dX3_place_30 (by decide) ?_
  refine xx_imul dX3_place_32 ?_
  refine xx_eqi (y := nI ((yk_st (yb_c S) + ((yk_r S) * (yk_se (yb_c S))) + (yk_r U)) * 6)) (pk_mul (yk_st (yb_c S) + ((yk_r S) * (yk_se (yb_c S))) + (yk_r U)) 6) ?_
  exact xx_iret dX3_place_33 rfl ⟨rfl, rfl⟩
set_option maxRecDepth 100000 in
theorem l_X3_ex {G : xx_G} {l : Launch} {A : xx_H} {p py o t mu S U : Nat} {le : Int} {w : Nat → Nat → Int} {g : Nat → Int32} {Q : Option Value ⊕ String → xx_H → Prop} (H : xx_mno A p py (fun _ => True)) (P : xx_po A py o t mu le w) (hS : S < 2 ^ o) (hU : U < 2 ^ t) (h0 : S ≠ 0) (hc : yb_c U = yb_c S) (hg : ∀ S2, S2 < S → ∀ U2, U2 < 2 ^ t → yb_c U2 = yb_c S2 → xx_mh g (yk_p S2 U2) (yk_m (fun i j => 1 + w i j - le) S2 U2)) (dj : py + 4 ≤ p ∨ p + 5 ≤ py) (kC : ∀ (B : xx_H) (g1 : Nat → Int32), (B.1 = A.1) → (B.2 (p + 2) = xx_i 5544 g1) → (xx_mh g1 (yk_p S U) (yd_s (yk_x U 6) (fun j => yd_g j * (1 + w (yk_e S 0) (yk_e U j) - le) * yk_m (fun i j => 1 + w i j - le) (S - 2 ^ yk_e S 0) (U - 2 ^ yk_e U j)))) → (∀ q, (q < yk_p S U ∨ yk_p S U + 6 ≤ q) → g1 q = g q) → (∀ q, q ≠ p + 2 → B.2 q = A.2 q) → xx_X G l mX3_expand 2 0 0 106 [(0, .ref p)] [] B Q) :
    ∀ (v i : Nat), i + v = 6 → ∀ (B : xx_H) (g1 : Nat → Int32), (B.1 = A.1) → (B.2 (p + 2) = xx_i 5544 g1) → (xx_mh g1 (yk_p S U) (yd_s (yk_x U i) (fun j => yd_g j * (1 + w (yk_e S 0) (yk_e U j) - le) * yk_m (fun i j => 1 + w i j - le) (S - 2 ^ yk_e S 0) (U - 2 ^ yk_e U j)))) → (∀ q, (q < yk_p S U ∨ yk_p S U + 6 ≤ q) → g1 q = g q) → (∀ q, q ≠ p + 2 → B.2 q = A.2 q) → xx_X G l mX3_expand 2 0 0 39 [(0, .ref p), (1, .int (nI S)), (2, .int (nI U)), (3, .int (nI (yk_p S U))), (4, .int (nI (yk_e S 0))), (5, .int (nI (S - 2 ^ yk_e S 0))), (6, .int (iz (yd_g (yk_x U i)))), (7, .int (nI i))] [] B Q := by
  obtain ⟨h1, ⟨fr, h2, h3⟩, _, _, _⟩ := id H
  obtain ⟨pb, o6, t6, _, wb, lb⟩ := id P
  have S64 : S < 64 := Nat.lt_of_lt_of_le hS (yk_pw o6)
  have U64 : U < 64 := Nat.lt_of_lt_of_le hU (yk_pw t6)
  obtain ⟨z1, z2⟩ := yk_z0 S S64 h0
  have e6 := yk_e6 S S64 0 z2
  have et := yk_et S S64 0 z2
  have eo := yk_le S S64 o o6 hS 0 z2
  have sd := yk_d6 S S64 _ e6 et
  have sp : 0 < 2 ^ yk_e S 0 := Nat.two_pow_pos _
  have pl := yk_pl S64 U64 hc
  intro v
  induction v with
  | zero =>
    intro i h9i B g1 y1 y2 y3 y4 y5
    have h9e : 6 = i := by omega
    subst h9e
    refine xx_clv (lv2 := [(0, .ref p), (1, .int (nI S)), (2, .int (nI U)), (3, .int (nI (yk_p S U))), (4, .int (nI (yk_e S 0))), (5, .int (nI (S - 2 ^ yk_e S 0))), (6, .int (iz (yd_g (yk_x U 6)))), (7, .int 6)]) rfl ?_
    refine xx_iload dX3_expand_39 rfl ?_
    refine xx_bipush (v := 6) dX3_expand_41 (by decide) ?_
    refine xx_icmp_ge (tgt := 106) dX3_expand_43 (by decide) (fun j43 => ?_) (fun h => absurd (by decide) h)
    refine xx_less [0] ?_
    refine xx_clv (lv2 := [(0, .ref p)]) rfl ?_
    exact kC B g1 y1 y2 y3 y4 y5
  | succ v ih =>
    intro i h9i B g1 y1 y2 y3 y4 y5
    have h1b := (y5 p (by omega)).trans h1
    have P2 := P.to (y5 py (by omega)) (y5 (py + 3) (by omega))
    have H2 : xx_mno B p py (fun _ => True) := ⟨h1b, ⟨fr, (y5 _ (by omega)).trans h2, h3⟩, ⟨g1, y2, trivial⟩, by obtain ⟨_, _, _, ⟨s8, q8⟩, _⟩ := H; exact ⟨s8, (y5 _ (by omega)).trans q8⟩, by obtain ⟨_, _, _, _, ⟨s8, q8⟩⟩ := H; exact ⟨s8, (y5 _ (by omega)).trans q8⟩⟩
    refine xx_iload dX3_expand_39 rfl ?_
    refine xx_bipush (v := 6) dX3_expand_41 (by decide) ?_
    refine xx_icmp_ge (tgt := 106) dX3_expand_43 (by decide) (fun h => absurd h (nI_ge (a := i) (b := 6) (by omega) (by omega))) (fun j43 => ?_)
    refine xx_iload_n dX3_expand_46 rfl ?_
    refine xx_iload dX3_expand_47 rfl ?_
    refine xx_ishr dX3_expand_49 ?_
    refine xx_iconst (v := 1) dX3_expand_50 (by decide) ?_
    refine xx_iand dX3_expand_51 ?_
    refine xx_eqi (y := if Nat.testBit U i then 1 else 0) (yb_sh U64 (by omega)) ?_
    refine xx_if_eq (tgt := 100) dX3_expand_52 (by decide) (fun j52 => ?_) (fun j52 => ?_)
    · have tb : Nat.testBit U i = false := by cases hz : Nat.testBit U i; rfl; exact absurd (j52.symm.trans (if_pos hz)) (by decide)
      have xf := yk_xf U U64 i (by omega) tb
      rw [← xf] at y3 ⊢
      refine xx_iinc (v := nI (i + 1)) dX3_expand_100 rfl (nI_1 i) (by decide) ?_
      refine xx_clv (lv2 := [(0, .ref p), (1, .int (nI S)), (2, .int (nI U)), (3, .int (nI (yk_p S U))), (4, .int (nI (yk_e S 0))), (5, .int (nI (S - 2 ^ yk_e S 0))), (6, .int (iz (yd_g (yk_x U (i + 1))))), (7, .int (nI (i + 1)))]) rfl ?_
      refine xx_goto (tgt := 39) dX3_expand_103 (by decide) ?_
      refine xx_less [0, 1, 2, 3, 4, 5, 6, 7] ?_
      refine xx_clv (lv2 := [(0, .ref p), (1, .int (nI S)), (2, .int (nI U)), (3, .int (nI (yk_p S U))), (4, .int (nI (yk_e S 0))), (5, .int (nI (S - 2 ^ yk_e S 0))), (6, .int (iz (yd_g (yk_x U (i + 1))))), (7, .int (nI (i + 1)))]) rfl ?_
      refine ih (i + 1) (by omega) B g1 y1 y2 y3 y4 y5
    · have tb : Nat.testBit U i = true := Classical.byContradiction (fun z => j52 (if_neg z))
      have ex := yk_ex U U64 i (by omega) tb
      have xl := yk_xl U U64 i (by omega) tb
      have ud := yk_d6 U U64 i (by omega) tb
      have ip : 0 < 2 ^ i := Nat.two_pow_pos i
      have uc := yk_dc U U64 i (by omega) tb
      have sc := yk_dc S S64 _ e6 et
      have it : i < t := by have := yk_le U U64 t t6 hU (yk_x U i) xl; rw [ex] at this; exact this
      have pl2 := yk_pl (S := S - 2 ^ yk_e S 0) (T := U - 2 ^ i) (by omega) (by omega) (by omega)
      have pd := yk_pd (S := S) (T := U) (U := S - 2 ^ yk_e S 0) (V := U - 2 ^ i) S64 U64 (by omega) (by omega) hc (by omega) (fun z => by omega)
      have mi := hg (S - 2 ^ yk_e S 0) (by omega) (U - 2 ^ i) (by omega) (by omega)
      have mi2 : xx_mh g1 (yk_p (S - 2 ^ yk_e S 0) (U - 2 ^ i)) _ := mi.to (fun q hq => y4 _ (by omega))
      have wb9 := wb (yk_e S 0) eo i it
      have gb := yd_g_abs (yk_x U i)
      refine xx_aload_n dX3_expand_55 rfl ?_
      refine xx_get xx_c3 dX3_expand_56 wf_X3_15 (j := 2) (by decide) h1b rfl ?_
      refine xx_iload_n dX3_expand_59 rfl ?_
      refine xx_aload_n dX3_expand_60 rfl ?_
      refine xx_get xx_c3 dX3_expand_61 wf_X3_15 (j := 2) (by decide) h1b rfl ?_
      refine xx_aload_n dX3_expand_64 rfl ?_
      refine xx_iload dX3_expand_65 rfl ?_
      refine xx_iload_n dX3_expand_67 rfl ?_
      refine xx_iconst (v := 1) dX3_expand_68 (by decide) ?_
      refine xx_iload dX3_expand_69 rfl ?_
      refine xx_ishl dX3_expand_71 ?_
      refine xx_iconst (v := (-1)) dX3_expand_72 (by decide) ?_
      refine xx_ixor dX3_expand_73 ?_
      refine xx_iand dX3_expand_74 ?_
      refine xx_eqi (y := nI (U - 2 ^ i)) (yk_dn U U64 i (by omega) tb) ?_
      refine xx_callV (N := mX3_place) (vs := [.int (nI (S - 2 ^ yk_e S 0)), .int (nI (U - 2 ^ i))]) (b := p) (rest := [.ref (p + 2), .int (nI (yk_p S U)), .ref (p + 2)]) (d2 := 1) (c2 := 0) (s2 := 0) (c3 := 0) (s3 := 0) dX3_expand_75 wm_X3_47 wi_X3_place wv_X3_place (k := 3) rfl (by decide) h1b nX3_place ⟨pX3_place, Nat.le_of_ble_eq_true rfl, by decide, Nat.le_of_ble_eq_true rfl, by decide, by decide⟩ (c_X3_place (S := S - 2 ^ yk_e S 0) (U := U - 2 ^ i) H2 (by omega) (by omega)) (fun v9 B9 hC => ?_) (fun E9 B9 hC => absurd hC.1 (by simp))
      obtain ⟨hv9, e9⟩ := hC
      cases hv9
      refine xx_cst (st2 := [.int (nI (yk_p (S - 2 ^ yk_e S 0) (U - 2 ^ i))), .ref (p + 2), .int (nI (yk_p S U)), .ref (p + 2)]) rfl ?_
      rw [e9]
      refine xx_iload dX3_expand_78 rfl ?_
      refine xx_aload_n dX3_expand_80 rfl ?_
      refine xx_get xx_c3 dX3_expand_81 wf_X3_24 (j := 0) (by decide) h1b rfl ?_
      refine xx_iload dX3_expand_84 rfl ?_
      refine xx_iload dX3_expand_86 rfl ?_
      refine xx_callV (N := mX4_lifted) (vs := [.int (nI (yk_e S 0)), .int (nI i)]) (b := py) (rest := [.int (iz (yd_g (yk_x U i))), .int (nI (yk_p (S - 2 ^ yk_e S 0) (U - 2 ^ i))), .ref (p + 2), .int (nI (yk_p S U)), .ref (p + 2)]) (d2 := 0) (c2 := 0) (s2 := 0) (c3 := 0) (s3 := 0) dX3_expand_88 wm_X3_86 wi_X4_lifted wv_X4_lifted (k := 4) rfl (by decide) P2.1 nX4_lifted ⟨pX4_lifted, Nat.le_of_ble_eq_true rfl, by decide, Nat.le_of_ble_eq_true rfl, by decide, by decide⟩ (c_X4_lifted P2 eo it) (fun v9 B9 hC => ?_) (fun E9 B9 hC => absurd hC.1 (by simp))
      obtain ⟨hv9, e9⟩ := hC
      cases hv9
      refine xx_cst (st2 := [.int (iz (1 + w (yk_e S 0) i - le)), .int (iz (yd_g (yk_x U i))), .int (nI (yk_p (S - 2 ^ yk_e S 0) (U - 2 ^ i))), .ref (p + 2), .int (nI (yk_p S U)), .ref (p + 2)]) rfl ?_
      rw [e9]
      refine xx_imul dX3_expand_91 ?_
      refine xx_eqi (y := iz (yd_g (yk_x U i) * (1 + w (yk_e S 0) i - le))) (iz_mul _ _) ?_
      have tbd : (yd_g (yk_x U i) * (1 + w (yk_e S 0) i - le)).natAbs < 2147483648 := by rw [Int.natAbs_mul, gb, Nat.one_mul]; omega
      refine xx_callS (N := mX3_addTimes) (vs := [.ref (p + 2), .int (nI (yk_p S U)), .ref (p + 2), .int (nI (yk_p (S - 2 ^ yk_e S 0) (U - 2 ^ i))), .int (iz (yd_g (yk_x U i) * (1 + w (yk_e S 0) i - le)))]) (rest := []) (d2 := 0) (c2 := 0) (s2 := 0) (c3 := 0) (s3 := 0) dX3_expand_92 wm_X3_89 ws_X3_addTimes wz_X3 (by decide) nX3_addTimes ⟨pX3_addTimes, Nat.le_of_ble_eq_true rfl, by decide, Nat.le_of_ble_eq_true rfl, by decide, by decide⟩ (c_X3_addTimes (s9 := yk_p S U) (t9 := yk_p (S - 2 ^ yk_e S 0) (U - 2 ^ i)) (t := yd_g (yk_x U i) * (1 + w (yk_e S 0) i - le)) y2 y2 pl pl2 (by decide) (by decide) (Or.inr pd.symm) y3 mi2 tbd) (fun v9 Eq1 hC => ?_) (fun E9 B9 hC => absurd hC.1 (by simp))
      obtain ⟨hv9, z1q, ⟨g2, k1, k2, k3⟩, k4⟩ := hC
      cases hv9
      refine xx_cst (st2 := []) rfl ?_
      have h1c := (k4 p (by omega)).trans h1b
      refine xx_iload dX3_expand_95 rfl ?_
      refine xx_ineg dX3_expand_97 ?_
      refine xx_eqi (y := iz (yd_g (yk_x U (i + 1)))) (by rw [yk_xt U U64 i (by omega) tb, yd_g_s]; exact (Int32.ofInt_neg _).symm) ?_
      refine xx_istore dX3_expand_98 (by decide) ?_
      refine xx_clv (lv2 := [(0, .ref p), (1, .int (nI S)), (2, .int (nI U)), (3, .int (nI (yk_p S U))), (4, .int (nI (yk_e S 0))), (5, .int (nI (S - 2 ^ yk_e S 0))), (6, .int (iz (yd_g (yk_x U (i + 1))))), (7, .int (nI i))]) rfl ?_
      refine xx_iinc (v := nI (i + 1)) dX3_expand_100 rfl (nI_1 i) (by decide) ?_
      refine xx_clv (lv2 := [(0, .ref p), (1, .int (nI S)), (2, .int (nI U)), (3, .int (nI (yk_p S U))), (4, .int (nI (yk_e S 0))), (5, .int (nI (S - 2 ^ yk_e S 0))), (6, .int (iz (yd_g (yk_x U (i + 1))))), (7, .int (nI (i + 1)))]) rfl ?_
      refine xx_goto (tgt := 39) dX3_expand_103 (by decide) ?_
      refine xx_less [0, 1, 2, 3, 4, 5, 6, 7] ?_
      refine xx_clv (lv2 := [(0, .ref p), (1, .int (nI S)), (2, .int (nI U)), (3, .int (nI (yk_p S U))), (4, .int (nI (yk_e S 0))), (5, .int (nI (S - 2 ^ yk_e S 0))), (6, .int (iz (yd_g (yk_x U (i + 1))))), (7, .int (nI (i + 1)))]) rfl ?_
      refine ih (i + 1) (by omega) Eq1 g2 (by omega) k1 ?_ (fun q hq => (k3 q hq).trans (y4 q hq)) (fun q hq => (k4 q hq).trans (y5 q hq))
      rw [yk_xt U U64 i (by omega) tb]
      show xx_mh g2 (yk_p S U) (yd_s (yk_x U i) (fun j => yd_g j * (1 + w (yk_e S 0) (yk_e U j) - le) * yk_m (fun i j => 1 + w i j - le) (S - 2 ^ yk_e S 0) (U - 2 ^ yk_e U j)) + yd_g (yk_x U i) * (1 + w (yk_e S 0) (yk_e U (yk_x U i)) - le) * yk_m (fun i j => 1 + w i j - le) (S - 2 ^ yk_e S 0) (U - 2 ^ yk_e U (yk_x U i)))
      rw [ex]
      exact k2
set_option maxRecDepth 100000 in
theorem c_X3_expand {G : xx_G} {l : Launch} {A : xx_H} {p py o t mu S U : Nat} {le : Int} {w : Nat → Nat → Int} {g : Nat → Int32} (H : xx_mno A p py (fun _ => True)) (hgm : A.2 (p + 2) = xx_i 5544 g) (P : xx_po A py o t mu le w) (hS : S < 2 ^ o) (hU : U < 2 ^ t) (h0 : S ≠ 0) (hc : yb_c U = yb_c S) (hg : ∀ S2, S2 < S → ∀ U2, U2 < 2 ^ t → yb_c U2 = yb_c S2 → xx_mh g (yk_p S2 U2) (yk_m (fun i j => 1 + w i j - le) S2 U2)) (dj : py + 4 ≤ p ∨ p + 5 ≤ py) : xx_X G l mX3_expand 2 0 0 0 (lv_args 0 [.ref p, .int (nI S), .int (nI U)]) [] A (fun z B => z = .inl none ∧ B.1 = A.1 ∧ (∃ g2, B.2 (p + 2) = xx_i 5544 g2 ∧ xx_mh g2 (yk_p S U) (yk_m (fun i j => 1 + w i j - le) S U) ∧ ∀ q, (q < yk_p S U ∨ yk_p S U + 6 ≤ q) → g2 q = g q) ∧ ∀ q, q ≠ p + 2 → B.2 q = A.2 q) := by
  obtain ⟨h1, ⟨fr, h2, h3⟩, _, ⟨s8, q8⟩, ⟨x8, r8⟩⟩ := id H
  obtain ⟨pb, o6, t6, _, wb, lb⟩ := id P
  have S64 : S < 64 := Nat.lt_of_lt_of_le hS (yk_pw o6)
  have U64 : U < 64 := Nat.lt_of_lt_of_le hU (yk_pw t6)
  have U0 : U ≠ 0 := fun z => by rw [z] at hc; have := (yk_z0 S S64 h0).2; rw [← hc] at this; exact absurd this (by decide)
  obtain ⟨z1, z2⟩ := yk_z0 S S64 h0
  have pl := yk_pl S64 U64 hc
  refine xx_clv (lv2 := [(0, .ref p), (1, .int (nI S)), (2, .int (nI U))]) rfl ?_
  refine xx_aload_n dX3_expand_0 rfl ?_
  refine xx_iload_n dX3_expand_1 rfl ?_
  refine xx_iload_n dX3_expand_2 rfl ?_
  refine xx_callV (N := mX3_place) (vs := [.int (nI S), .int (nI U)]) (b := p) (rest := []) (d2 := 1) (c2 := 0) (s2 := 0) (c3 := 0) (s3 := 0) dX3_expand_3 wm_X3_47 wi_X3_place wv_X3_place (k := 3) rfl (by decide) h1 nX3_place ⟨pX3_place, Nat.le_of_ble_eq_true rfl, by decide, Nat.le_of_ble_eq_true rfl, by decide, by decide⟩ (c_X3_place H S64 U64) (fun v9 B9 hC => ?_) (fun E9 B9 hC => absurd hC.1 (by simp))
  obtain ⟨hv9, e9⟩ := hC
  cases hv9
  refine xx_cst (st2 := [.int (nI (yk_p S U))]) rfl ?_
  rw [e9]
  refine xx_istore_n dX3_expand_6 (by decide) ?_
  refine xx_clv (lv2 := [(0, .ref p), (1, .int (nI S)), (2, .int (nI U)), (3, .int (nI (yk_p S U)))]) rfl ?_
  refine xx_iload_n dX3_expand_7 rfl ?_
  refine xx_callS (N := mJ6_ntz) (vs := [.int (nI S)]) (rest := []) (d2 := 0) (c2 := 0) (s2 := 0) (c3 := 0) (s3 := 0) dX3_expand_8 wm_X3_78 ws_J6_ntz wz_J6 (by decide) nJ6_ntz ⟨pJ6_ntz, Nat.le_of_ble_eq_true rfl, by decide, Nat.le_of_ble_eq_true rfl, by decide, by decide⟩ (c_J6_ntz S64 h0) (fun v9 B9 hC => ?_) (fun E9 B9 hC => absurd hC.1 (by simp))
  obtain ⟨hv9, e9⟩ := hC
  cases hv9
  refine xx_cst (st2 := [.int (nI (yk_e S 0))]) (by rw [z1]; rfl) ?_
  rw [e9]
  refine xx_istore dX3_expand_11 (by decide) ?_
  refine xx_clv (lv2 := [(0, .ref p), (1, .int (nI S)), (2, .int (nI U)), (3, .int (nI (yk_p S U))), (4, .int (nI (yk_e S 0)))]) rfl ?_
  refine xx_iload_n dX3_expand_13 rfl ?_
  refine xx_iload_n dX3_expand_14 rfl ?_
  refine xx_iconst (v := 1) dX3_expand_15 (by decide) ?_
  refine xx_isub dX3_expand_16 ?_
  refine xx_iand dX3_expand_17 ?_
  refine xx_eqi (y := nI (S - 2 ^ yk_e S 0)) (by rw [yk_lo S S64 h0, z1]) ?_
  refine xx_istore dX3_expand_18 (by decide) ?_
  refine xx_clv (lv2 := [(0, .ref p), (1, .int (nI S)), (2, .int (nI U)), (3, .int (nI (yk_p S U))), (4, .int (nI (yk_e S 0))), (5, .int (nI (S - 2 ^ yk_e S 0)))]) rfl ?_
  refine xx_iconst (v := 1) dX3_expand_20 (by decide) ?_
  refine xx_istore dX3_expand_21 (by decide) ?_
  refine xx_clv (lv2 := [(0, .ref p), (1, .int (nI S)), (2, .int (nI U)), (3, .int (nI (yk_p S U))), (4, .int (nI (yk_e S 0))), (5, .int (nI (S - 2 ^ yk_e S 0))), (6, .int 1)]) rfl ?_
  refine xx_aload_n dX3_expand_23 rfl ?_
  refine xx_get xx_c3 dX3_expand_24 wf_X3_15 (j := 2) (by decide) h1 rfl ?_
  refine xx_iload_n dX3_expand_27 rfl ?_
  refine xx_iload_n dX3_expand_28 rfl ?_
  refine xx_bipush (v := 6) dX3_expand_29 (by decide) ?_
  refine xx_iadd dX3_expand_31 ?_
  refine xx_eqi (y := nI (yk_p S U + 6)) (nI_add (yk_p S U) 6) ?_
  refine xx_iconst (v := 0) dX3_expand_32 (by decide) ?_
  refine xx_callS (N := mJ7_fillr) (vs := [.ref (p + 2), .int (nI (yk_p S U)), .int (nI (yk_p S U + 6)), .int 0]) (rest := []) (d2 := 1) (c2 := 0) (s2 := 0) (c3 := 0) (s3 := 0) dX3_expand_33 wm_X3_81 ws_J7_fillr wz_J7 (by decide) nJ7_fillr ⟨pJ7_fillr, Nat.le_of_ble_eq_true rfl, by decide, Nat.le_of_ble_eq_true rfl, by decide, by decide⟩ (c_J7_fillr (p := yk_p S U) (t := yk_p S U + 6) (n := 5544) (by decide) (by omega) (by omega) hgm) (fun v9 Eq1 hC => ?_) (fun E9 B9 hC => absurd hC.1 (by simp))
  obtain ⟨hv9, z1q, ⟨g1, k1, k2, k3⟩, k4⟩ := hC
  cases hv9
  refine xx_cst (st2 := []) rfl ?_
  refine xx_iconst (v := 0) dX3_expand_36 (by decide) ?_
  refine xx_istore dX3_expand_37 (by decide) ?_
  refine xx_clv (lv2 := [(0, .ref p), (1, .int (nI S)), (2, .int (nI U)), (3, .int (nI (yk_p S U))), (4, .int (nI (yk_e S 0))), (5, .int (nI (S - 2 ^ yk_e S 0))), (6, .int 1), (7, .int 0)]) rfl ?_
  refine xx_clv (lv2 := [(0, .ref p), (1, .int (nI S)), (2, .int (nI U)), (3, .int (nI (yk_p S U))), (4, .int (nI (yk_e S 0))), (5, .int (nI (S - 2 ^ yk_e S 0))), (6, .int (iz (yd_g (yk_x U 0)))), (7, .int (nI 0))]) (by rw [yk_x0]; rfl) ?_
  have H2 : xx_mno Eq1 p py (fun _ => True) := ⟨(k4 p (by omega)).trans h1, ⟨fr, (k4 _ (by omega)).trans h2, h3⟩, ⟨g1, k1, trivial⟩, ⟨s8, (k4 _ (by omega)).trans q8⟩, ⟨x8, (k4 _ (by omega)).trans r8⟩⟩
  have hg2 : ∀ S2, S2 < S → ∀ U2, U2 < 2 ^ t → yb_c U2 = yb_c S2 → xx_mh g1 (yk_p S2 U2) (yk_m (fun i j => 1 + w i j - le) S2 U2) := fun S2 hS2 U2 hU2 c2 => (hg S2 hS2 U2 hU2 c2).to (fun q hq => k3 _ (by have := yk_pd (S := S) (T := U) (U := S2) (V := U2) S64 U64 (by omega) (Nat.lt_of_lt_of_le hU2 (yk_pw t6)) hc c2 (fun z => by omega); omega))
  refine l_X3_ex (A := Eq1) (g := g1) H2 (P.to (k4 _ (by omega)) (k4 _ (by omega))) hS hU h0 hc hg2 dj (fun B g2 y1 y2 y3 y4 y5 => ?_) 6 0 (by omega) Eq1 g1 rfl k1 (by rw [yk_x0]; exact xx_mh0 (fun i hi => k2 _ (by omega) (by omega))) (fun q _ => rfl) (fun q _ => rfl)
  refine xx_vret dX3_expand_106 rfl ⟨rfl, by omega, ⟨g2, y2, ?_, fun q hq => (y4 q hq).trans (k3 q (by omega))⟩, fun q hq => (y5 q hq).trans (k4 q hq)⟩
  rw [yk_x6 U U64] at y3
  rw [yk_ms S64 U64 h0 hc]
  exact y3
set_option maxRecDepth 100000 in
theorem l_X3_fi {G : xx_G} {l : Launch} {A : xx_H} {p py o t mu : Nat} {le : Int} {w : Nat → Nat → Int} {S : Nat} {Q : Option Value ⊕ String → xx_H → Prop} (H : xx_mno A p py (fun _ => True)) (P : xx_po A py o t mu le w) (dj : py + 4 ≤ p ∨ p + 5 ≤ py) (hS : S < 2 ^ o) (h0 : S ≠ 0) (kC : ∀ (B : xx_H) (g : Nat → Int32), (1 ≤ (2 ^ t)) → (B.1 = A.1) → (B.2 (p + 2) = xx_i 5544 g) → (∀ S2, S2 < 2 ^ o → ∀ U2, U2 < 2 ^ t → yb_c U2 = yb_c S2 → (S2 < S ∨ (S2 = S ∧ U2 < (2 ^ t))) → xx_mh g (yk_p S2 U2) (yk_m (fun i j => 1 + w i j - le) S2 U2)) → (∀ q, q ≠ p + 2 → B.2 q = A.2 q) → xx_X G l mX3_fill 3 0 0 53 [(0, .ref p), (1, .int (nI S))] [] B Q) :
    ∀ (v i : Nat), i + v = 2 ^ t → ∀ (B : xx_H) (g : Nat → Int32), (1 ≤ i) → (B.1 = A.1) → (B.2 (p + 2) = xx_i 5544 g) → (∀ S2, S2 < 2 ^ o → ∀ U2, U2 < 2 ^ t → yb_c U2 = yb_c S2 → (S2 < S ∨ (S2 = S ∧ U2 < i)) → xx_mh g (yk_p S2 U2) (yk_m (fun i j => 1 + w i j - le) S2 U2)) → (∀ q, q ≠ p + 2 → B.2 q = A.2 q) → xx_X G l mX3_fill 3 0 0 17 [(0, .ref p), (1, .int (nI S)), (2, .int (nI i))] [] B Q := by
  obtain ⟨h1, ⟨fr, h2, h3⟩, _, ⟨s8, q8⟩, ⟨x8, r8⟩⟩ := id H
  obtain ⟨pb, o6, t6, _, wb, lb⟩ := id P
  have ow := yk_pw o6
  have tw := yk_pw t6
  intro v
  induction v with
  | zero =>
    intro i h9i B g y0 y1 y2 y3 y5
    have h9e : 2 ^ t = i := by omega
    subst h9e
    have h1b := (y5 p (by omega)).trans h1
    have pb2 := (y5 py (by omega)).trans pb
    refine xx_clv (lv2 := [(0, .ref p), (1, .int (nI S)), (2, .int (nI (2 ^ t)))]) rfl ?_
    refine xx_iload_n dX3_fill_17 rfl ?_
    refine xx_iconst (v := 1) dX3_fill_18 (by decide) ?_
    refine xx_aload_n dX3_fill_19 rfl ?_
    refine xx_get xx_c3 dX3_fill_20 wf_X3_24 (j := 0) (by decide) h1b rfl ?_
    refine xx_get xx_c4 dX3_fill_23 wf_X3_40 (j := 1) (by decide) pb2 rfl ?_
    refine xx_ishl dX3_fill_26 ?_
    refine xx_eqi (y := nI (2 ^ t)) (yb_1s6 t (by omega)) ?_
    refine xx_icmp_ge (tgt := 53) dX3_fill_27 (by decide) (fun j27 => ?_) (fun h => absurd (Int32.le_refl _) h)
    refine xx_less [0, 1] ?_
    refine xx_clv (lv2 := [(0, .ref p), (1, .int (nI S))]) rfl ?_
    exact kC B g y0 y1 y2 y3 y5
  | succ v ih =>
    intro i h9i B g y0 y1 y2 y3 y5
    have h1b := (y5 p (by omega)).trans h1
    have pb2 := (y5 py (by omega)).trans pb
    refine xx_iload_n dX3_fill_17 rfl ?_
    refine xx_iconst (v := 1) dX3_fill_18 (by decide) ?_
    refine xx_aload_n dX3_fill_19 rfl ?_
    refine xx_get xx_c3 dX3_fill_20 wf_X3_24 (j := 0) (by decide) h1b rfl ?_
    refine xx_get xx_c4 dX3_fill_23 wf_X3_40 (j := 1) (by decide) pb2 rfl ?_
    refine xx_ishl dX3_fill_26 ?_
    refine xx_eqi (y := nI (2 ^ t)) (yb_1s6 t (by omega)) ?_
    refine xx_icmp_ge (tgt := 53) dX3_fill_27 (by decide) (fun h => absurd h (nI_ge (a := i) (b := 2 ^ t) (by omega) (by omega))) (fun j27 => ?_)
    refine xx_iload_n dX3_fill_30 rfl ?_
    refine xx_callS (N := mJ6_bitCount) (vs := [.int (nI S)]) (rest := []) (d2 := 0) (c2 := 0) (s2 := 0) (c3 := 0) (s3 := 0) dX3_fill_31 wm_X3_28 ws_J6_bitCount wz_J6 (by decide) nJ6_bitCount ⟨pJ6_bitCount, Nat.le_of_ble_eq_true rfl, by decide, Nat.le_of_ble_eq_true rfl, by decide, by decide⟩ (c_J6_bitCount (a := S) (by omega)) (fun v9 B9 hC => ?_) (fun E9 B9 hC => absurd hC.1 (by simp))
    obtain ⟨hv9, e9⟩ := hC
    cases hv9
    refine xx_cst (st2 := [.int (nI (yb_c S))]) rfl ?_
    rw [e9]
    refine xx_iload_n dX3_fill_34 rfl ?_
    refine xx_callS (N := mJ6_bitCount) (vs := [.int (nI i)]) (rest := [.int (nI (yb_c S))]) (d2 := 0) (c2 := 0) (s2 := 0) (c3 := 0) (s3 := 0) dX3_fill_35 wm_X3_28 ws_J6_bitCount wz_J6 (by decide) nJ6_bitCount ⟨pJ6_bitCount, Nat.le_of_ble_eq_true rfl, by decide, Nat.le_of_ble_eq_true rfl, by decide, by decide⟩ (c_J6_bitCount (a := i) (by omega)) (fun v9 B9 hC => ?_) (fun E9 B9 hC => absurd hC.1 (by simp))
    obtain ⟨hv9, e9⟩ := hC
    cases hv9
    refine xx_cst (st2 := [.int (nI (yb_c i)), .int (nI (yb_c S))]) rfl ?_
    rw [e9]
    have cS := yb_c6 S (by omega)
    have cU := yb_c6 i (by omega)
    refine xx_icmp_ne (tgt := 47) dX3_fill_38 (by decide) (fun j38 => ?_) (fun j38 => ?_)
    · have j38 : ¬ yb_c S = yb_c i := fun hq9 => j38 ((nI_eq (a := yb_c S) (b := yb_c i) (by omega) (by omega)).mpr hq9)
      refine xx_iinc (v := nI (i + 1)) dX3_fill_47 rfl (nI_1 i) (by decide) ?_
      refine xx_clv (lv2 := [(0, .ref p), (1, .int (nI S)), (2, .int (nI (i + 1)))]) rfl ?_
      refine xx_goto (tgt := 17) dX3_fill_50 (by decide) ?_
      refine xx_less [0, 1, 2] ?_
      refine xx_clv (lv2 := [(0, .ref p), (1, .int (nI S)), (2, .int (nI (i + 1)))]) rfl ?_
      refine ih (i + 1) (by omega) B g (by omega) y1 y2 (fun S2 a1 U2 a2 a3 a4 => y3 S2 a1 U2 a2 a3 (by rcases a4 with a4 | ⟨a4, a5⟩; exact Or.inl a4; by_cases q : U2 = i; rw [q, a4] at a3; exact absurd a3.symm j38; exact Or.inr ⟨a4, by omega⟩)) y5
    · have j38 : yb_c S = yb_c i := (nI_eq (a := yb_c S) (b := yb_c i) (by omega) (by omega)).mp j38
      refine xx_aload_n dX3_fill_41 rfl ?_
      refine xx_iload_n dX3_fill_42 rfl ?_
      refine xx_iload_n dX3_fill_43 rfl ?_
      have H2 : xx_mno B p py (fun _ => True) := ⟨h1b, ⟨fr, (y5 _ (by omega)).trans h2, h3⟩, ⟨g, y2, trivial⟩, ⟨s8, (y5 _ (by omega)).trans q8⟩, ⟨x8, (y5 _ (by omega)).trans r8⟩⟩
      refine xx_callV (N := mX3_expand) (vs := [.int (nI S), .int (nI i)]) (b := p) (rest := []) (d2 := 2) (c2 := 0) (s2 := 0) (c3 := 0) (s3 := 0) dX3_fill_44 wm_X3_43 wi_X3_expand wv_X3_expand (k := 3) rfl (by decide) h1b nX3_expand ⟨pX3_expand, Nat.le_of_ble_eq_true rfl, by decide, Nat.le_of_ble_eq_true rfl, by decide, by decide⟩ (c_X3_expand (S := S) (U := i) H2 y2 (P.to (y5 _ (by omega)) (y5 _ (by omega))) hS (by omega) h0 (by omega) (fun S2 a1 U2 a2 a3 => y3 S2 (by omega) U2 a2 a3 (Or.inl a1)) dj) (fun v9 Eq1 hC => ?_) (fun E9 B9 hC => absurd hC.1 (by simp))
      obtain ⟨hv9, z1, ⟨g2, k1, k2, k3⟩, k4⟩ := hC
      cases hv9
      refine xx_cst (st2 := []) rfl ?_
      refine xx_iinc (v := nI (i + 1)) dX3_fill_47 rfl (nI_1 i) (by decide) ?_
      refine xx_clv (lv2 := [(0, .ref p), (1, .int (nI S)), (2, .int (nI (i + 1)))]) rfl ?_
      refine xx_goto (tgt := 17) dX3_fill_50 (by decide) ?_
      refine xx_less [0, 1, 2] ?_
      refine xx_clv (lv2 := [(0, .ref p), (1, .int (nI S)), (2, .int (nI (i + 1)))]) rfl ?_
      refine ih (i + 1) (by omega) Eq1 g2 (by omega) (by omega) k1 (fun S2 a1 U2 a2 a3 a4 => ?_) (fun q hq => (k4 q hq).trans (y5 q hq))
      by_cases z : S2 = S ∧ U2 = i
      · rw [z.1, z.2]; exact k2
      · have pd := yk_pd (S := S) (T := i) (U := S2) (V := U2) (by omega) (by omega) (by omega) (by omega) (by omega) a3 (fun q => z ⟨q.1.symm, q.2.symm⟩)
        exact (y3 S2 a1 U2 a2 a3 (by omega)).to (fun q hq => k3 _ (by omega))
set_option maxRecDepth 100000 in
theorem l_X3_fo {G : xx_G} {l : Launch} {A : xx_H} {p py o t mu : Nat} {le : Int} {w : Nat → Nat → Int} {Q : Option Value ⊕ String → xx_H → Prop} (H : xx_mno A p py (fun _ => True)) (P : xx_po A py o t mu le w) (dj : py + 4 ≤ p ∨ p + 5 ≤ py) (kC : ∀ (B : xx_H) (g : Nat → Int32), (1 ≤ (2 ^ o)) → (B.1 = A.1) → (B.2 (p + 2) = xx_i 5544 g) → (∀ S2, S2 < 2 ^ o → ∀ U2, U2 < 2 ^ t → yb_c U2 = yb_c S2 → (S2 < (2 ^ o) ∨ (S2 = (2 ^ o) ∧ U2 < 1)) → xx_mh g (yk_p S2 U2) (yk_m (fun i j => 1 + w i j - le) S2 U2)) → (∀ q, q ≠ p + 2 → B.2 q = A.2 q) → xx_X G l mX3_fill 3 0 0 59 [(0, .ref p)] [] B Q) :
    ∀ (v i : Nat), i + v = 2 ^ o → ∀ (B : xx_H) (g : Nat → Int32), (1 ≤ i) → (B.1 = A.1) → (B.2 (p + 2) = xx_i 5544 g) → (∀ S2, S2 < 2 ^ o → ∀ U2, U2 < 2 ^ t → yb_c U2 = yb_c S2 → (S2 < i ∨ (S2 = i ∧ U2 < 1)) → xx_mh g (yk_p S2 U2) (yk_m (fun i j => 1 + w i j - le) S2 U2)) → (∀ q, q ≠ p + 2 → B.2 q = A.2 q) → xx_X G l mX3_fill 3 0 0 2 [(0, .ref p), (1, .int (nI i))] [] B Q := by
  obtain ⟨h1, ⟨fr, h2, h3⟩, _, ⟨s8, q8⟩, ⟨x8, r8⟩⟩ := id H
  obtain ⟨pb, o6, t6, _, wb, lb⟩ := id P
  have ow := yk_pw o6
  have tw := yk_pw t6
  intro v
  induction v with
  | zero =>
    intro i h9i B g y0 y1 y2 y3 y5
    have h9e : 2 ^ o = i := by omega
    subst h9e
    have h1b := (y5 p (by omega)).trans h1
    have pb2 := (y5 py (by omega)).trans pb
    refine xx_clv (lv2 := [(0, .ref p), (1, .int (nI (2 ^ o)))]) rfl ?_
    refine xx_iload_n dX3_fill_2 rfl ?_
    refine xx_iconst (v := 1) dX3_fill_3 (by decide) ?_
    refine xx_aload_n dX3_fill_4 rfl ?_
    refine xx_get xx_c3 dX3_fill_5 wf_X3_24 (j := 0) (by decide) h1b rfl ?_
    refine xx_get xx_c4 dX3_fill_8 wf_X3_34 (j := 0) (by decide) pb2 rfl ?_
    refine xx_ishl dX3_fill_11 ?_
    refine xx_eqi (y := nI (2 ^ o)) (yb_1s6 o (by omega)) ?_
    refine xx_icmp_ge (tgt := 59) dX3_fill_12 (by decide) (fun j12 => ?_) (fun h => absurd (Int32.le_refl _) h)
    refine xx_less [0] ?_
    refine xx_clv (lv2 := [(0, .ref p)]) rfl ?_
    exact kC B g y0 y1 y2 y3 y5
  | succ v ih =>
    intro i h9i B g y0 y1 y2 y3 y5
    have h1b := (y5 p (by omega)).trans h1
    have pb2 := (y5 py (by omega)).trans pb
    refine xx_iload_n dX3_fill_2 rfl ?_
    refine xx_iconst (v := 1) dX3_fill_3 (by decide) ?_
    refine xx_aload_n dX3_fill_4 rfl ?_
    refine xx_get xx_c3 dX3_fill_5 wf_X3_24 (j := 0) (by decide) h1b rfl ?_
    refine xx_get xx_c4 dX3_fill_8 wf_X3_34 (j := 0) (by decide) pb2 rfl ?_
    refine xx_ishl dX3_fill_11 ?_
    refine xx_eqi (y := nI (2 ^ o)) (yb_1s6 o (by omega)) ?_
    refine xx_icmp_ge (tgt := 59) dX3_fill_12 (by decide) (fun h => absurd h (nI_ge (a := i) (b := 2 ^ o) (by omega) (by omega))) (fun j12 => ?_)
    refine xx_iconst (v := 1) dX3_fill_15 (by decide) ?_
    refine xx_istore_n dX3_fill_16 (by decide) ?_
    refine xx_clv (lv2 := [(0, .ref p), (1, .int (nI i)), (2, .int 1)]) rfl ?_
    have H2 : xx_mno B p py (fun _ => True) := ⟨h1b, ⟨fr, (y5 _ (by omega)).trans h2, h3⟩, ⟨g, y2, trivial⟩, ⟨s8, (y5 _ (by omega)).trans q8⟩, ⟨x8, (y5 _ (by omega)).trans r8⟩⟩
    refine xx_clv (lv2 := [(0, .ref p), (1, .int (nI i)), (2, .int (nI 1))]) rfl ?_
    have t1 : 1 ≤ 2 ^ t := Nat.two_pow_pos t
    refine l_X3_fi (A := B) (S := i) H2 (P.to (y5 _ (by omega)) (y5 _ (by omega))) dj (by omega) (by omega) (fun C g2 w0 w1 w2 w3 w5 => ?_) (2 ^ t - 1) 1 (by omega) B g (Nat.le_refl _) rfl y2 y3 (fun q _ => rfl)
    refine xx_iinc (v := nI (i + 1)) dX3_fill_53 rfl (nI_1 i) (by decide) ?_
    refine xx_clv (lv2 := [(0, .ref p), (1, .int (nI (i + 1)))]) rfl ?_
    refine xx_goto (tgt := 2) dX3_fill_56 (by decide) ?_
    refine xx_less [0, 1] ?_
    refine xx_clv (lv2 := [(0, .ref p), (1, .int (nI (i + 1)))]) rfl ?_
    refine ih (i + 1) (by omega) C g2 (by omega) (by omega) w2 (fun S2 a1 U2 a2 a3 a4 => ?_) (fun q hq => (w5 q hq).trans (y5 q hq))
    by_cases z : S2 < i
    · exact w3 S2 a1 U2 a2 a3 (Or.inl z)
    · by_cases y : S2 = i
      · exact w3 S2 a1 U2 a2 a3 (Or.inr ⟨y, a2⟩)
      · obtain ⟨a4, a5⟩ : S2 = i + 1 ∧ U2 < 1 := by omega
        have c0 : yb_c U2 = 0 := by rw [show U2 = 0 by omega]; rfl
        have := (yk_z0 S2 (by omega) (by omega)).2
        omega
set_option maxRecDepth 100000 in
theorem c_X3_fill {G : xx_G} {l : Launch} {A : xx_H} {p py o t mu : Nat} {le : Int} {w : Nat → Nat → Int} (H : xx_mno A p py yk_H0) (P : xx_po A py o t mu le w) (dj : py + 4 ≤ p ∨ p + 5 ≤ py) : xx_X G l mX3_fill 3 0 0 0 (lv_args 0 [.ref p]) [] A (fun z B => z = .inl none ∧ B.1 = A.1 ∧ xx_mno B p py (yk_H (fun i j => 1 + w i j - le) o t) ∧ ∀ q, q ≠ p + 2 → B.2 q = A.2 q) := by
  obtain ⟨h1, ⟨fr, h2, h3⟩, ⟨g, h4, h5⟩, ⟨s8, q8⟩, ⟨x8, r8⟩⟩ := id H
  have H2 : xx_mno A p py (fun _ => True) := ⟨h1, ⟨fr, h2, h3⟩, ⟨g, h4, trivial⟩, ⟨s8, q8⟩, ⟨x8, r8⟩⟩
  have o1 : 1 ≤ 2 ^ o := Nat.two_pow_pos o
  obtain ⟨pb, o6, t6, _, wb, lb⟩ := id P
  have ow := yk_pw o6
  have tw := yk_pw t6
  refine xx_clv (lv2 := [(0, .ref p)]) rfl ?_
  refine xx_iconst (v := 1) dX3_fill_0 (by decide) ?_
  refine xx_istore_n dX3_fill_1 (by decide) ?_
  refine xx_clv (lv2 := [(0, .ref p), (1, .int 1)]) rfl ?_
  refine xx_clv (lv2 := [(0, .ref p), (1, .int (nI 1))]) rfl ?_
  refine l_X3_fo H2 P dj (fun B g2 y0 y1 y2 y3 y5 => ?_) (2 ^ o - 1) 1 (by omega) A g (Nat.le_refl _) rfl h4 (fun S2 a1 U2 a2 a3 a4 => ?_) (fun q _ => rfl)
  rotate_left
  · have key : S2 = 0 ∧ U2 = 0 := by
      by_cases z : S2 = 0
      · refine ⟨z, Classical.byContradiction (fun q => ?_)⟩
        have := (yk_z0 U2 (by omega) q).2
        rw [a3, z] at this
        exact absurd this (by decide)
      · have := (yk_z0 S2 (by omega) z).2
        obtain ⟨b1, b2⟩ : S2 = 1 ∧ U2 < 1 := by omega
        rw [← a3, show U2 = 0 by omega] at this
        exact absurd this (by decide)
    rw [key.1, key.2]
    exact h5
  exact xx_vret dX3_fill_59 rfl ⟨rfl, y1, ⟨(y5 _ (by omega)).trans h1, ⟨fr, (y5 _ (by omega)).trans h2, h3⟩, ⟨g2, y2, fun S a1 U a2 a3 => y3 S a1 U a2 a3 (by omega)⟩, ⟨s8, (y5 _ (by omega)).trans q8⟩, ⟨x8, (y5 _ (by omega)).trans r8⟩⟩, y5⟩
set_option maxRecDepth 100000 in
theorem c_X3_signOf {G : xx_G} {l : Launch} {A : xx_H} {p py o t S U : Nat} {a : Nat → Nat → Int} (H : xx_mno A p py (yk_H a o t)) (ho : o ≤ 6) (ht : t ≤ 6) (hS : S < 2 ^ o) (hU : U < 2 ^ t) (hc : yb_c U = yb_c S) (ha : ∀ i, i < o → ∀ j, j < t → (a i j).natAbs ≤ 554344561) : xx_X G l mX3_signOf 2 0 0 0 (lv_args 0 [.ref p, .int (nI S), .int (nI U)]) [] A (fun z B => z = .inl (some (.int (iz (yk_m a S U).sign))) ∧ B = A) := by
  obtain ⟨h1, _, ⟨g, h4, h5⟩, _, _⟩ := id H
  have S64 : S < 64 := Nat.lt_of_lt_of_le hS (yk_pw ho)
  have U64 : U < 64 := Nat.lt_of_lt_of_le hU (yk_pw ht)
  refine xx_clv (lv2 := [(0, .ref p), (1, .int (nI S)), (2, .int (nI U))]) rfl ?_
  refine xx_aload_n dX3_signOf_0 rfl ?_
  refine xx_get xx_c3 dX3_signOf_1 wf_X3_15 (j := 2) (by decide) h1 rfl ?_
  refine xx_aload_n dX3_signOf_4 rfl ?_
  refine xx_iload_n dX3_signOf_5 rfl ?_
  refine xx_iload_n dX3_signOf_6 rfl ?_
  refine xx_callV (N := mX3_place) (vs := [.int (nI S), .int (nI U)]) (b := p) (rest := [.ref (p + 2)]) (d2 := 1) (c2 := 0) (s2 := 0) (c3 := 0) (s3 := 0) dX3_signOf_7 wm_X3_47 wi_X3_place wv_X3_place (k := 3) rfl (by decide) h1 nX3_place ⟨pX3_place, Nat.le_of_ble_eq_true rfl, by decide, Nat.le_of_ble_eq_true rfl, by decide, by decide⟩ (c_X3_place H S64 U64) (fun v9 B9 hC => ?_) (fun E9 B9 hC => absurd hC.1 (by simp))
  obtain ⟨hv9, e9⟩ := hC
  cases hv9
  refine xx_cst (st2 := [.int (nI (yk_p S U)), .ref (p + 2)]) rfl ?_
  rw [e9]
  refine xx_callS (N := mX3_signAt) (vs := [.ref (p + 2), .int (nI (yk_p S U))]) (rest := []) (d2 := 0) (c2 := 0) (s2 := 0) (c3 := 0) (s3 := 0) dX3_signOf_10 wm_X3_51 ws_X3_signAt wz_X3 (by decide) nX3_signAt ⟨pX3_signAt, Nat.le_of_ble_eq_true rfl, by decide, Nat.le_of_ble_eq_true rfl, by decide, by decide⟩ (c_X3_signAt h4 (yk_pl S64 U64 hc) (by decide) (h5 S hS U hU hc) (Nat.lt_trans (yk_b S64 U64 hc ho ht hS hU ha) (by decide +kernel))) (fun v9 B9 hC => ?_) (fun E9 B9 hC => absurd hC.1 (by simp))
  obtain ⟨hv9, e9⟩ := hC
  cases hv9
  refine xx_cst (st2 := [.int (iz (yk_m a S U).sign)]) rfl ?_
  rw [e9]
  exact xx_iret dX3_signOf_13 rfl ⟨rfl, rfl⟩
