/-! ===== Big: addTimes, setProduct, setProductBy ===== -/
theorem dJ9_abs_0 : decode cJ9_abs_067f4 0 = .ok (.lload_n 0, 1) := by decide +kernel
theorem dJ9_abs_1 : decode cJ9_abs_067f4 1 = .ok (.lconst 0, 1) := by decide +kernel
theorem dJ9_abs_2 : decode cJ9_abs_067f4 2 = .ok (.lcmp, 1) := by decide +kernel
theorem dJ9_abs_3 : decode cJ9_abs_067f4 3 = .ok (.ifCond .ge 8, 3) := by decide +kernel
theorem dJ9_abs_6 : decode cJ9_abs_067f4 6 = .ok (.lload_n 0, 1) := by decide +kernel
theorem dJ9_abs_7 : decode cJ9_abs_067f4 7 = .ok (.lneg, 1) := by decide +kernel
theorem dJ9_abs_8 : decode cJ9_abs_067f4 8 = .ok (.goto 4, 3) := by decide +kernel
theorem dJ9_abs_11 : decode cJ9_abs_067f4 11 = .ok (.lload_n 0, 1) := by decide +kernel
theorem dJ9_abs_12 : decode cJ9_abs_067f4 12 = .ok (.lreturn, 1) := by decide +kernel

abbrev mJ9_abs : xx_M := (yJ9_abs_067f4, cJ9_abs_067f4, 2, (some FieldType.long), [])
set_option maxRecDepth 100000 in
theorem pJ9_abs : plainFor mJ9_abs.1 = true ∧ xx_cw mJ9_abs ∈ lw_tbl ∧ goodWord (xx_cw mJ9_abs) = true := ⟨by decide +kernel, List.mem_of_getElem? (i := 1151) rfl, by decide +kernel⟩
theorem nJ9_abs : (parseMethodDescriptor mJ9_abs.1.desc).map (fun d => d.parameters.length) = some 1 := by decide +kernel
set_option maxRecDepth 100000 in
theorem ws_J9_abs : Cond.static yJ9_abs_067f4 ∈ lw_tbl := List.mem_of_getElem? (i := 1150) rfl
set_option maxRecDepth 100000 in
theorem wz_J9 : Cond.initialized RJ9 ∈ lw_tbl := List.mem_of_getElem? (i := 72) rfl
set_option maxRecDepth 100000 in
theorem c_J9_abs {G : xx_G} {l : Launch} {A : xx_H} {x : Int64} : xx_X G l mJ9_abs 0 0 0 0 (lv_args 0 [.long x]) [] A (fun r B => r = .inl (some (.long (if 0 ≤ x then x else -x))) ∧ B = A) := by
  refine xx_clv (lv2 := [(0, .long x)]) rfl ?_
  refine xx_lload_n dJ9_abs_0 rfl ?_
  refine xx_lconst (v := 0) dJ9_abs_1 (by decide) ?_
  refine xx_lcmp dJ9_abs_2 ?_
  refine xx_if_ge (tgt := 11) dJ9_abs_3 (by decide) (fun j3 => ?_) (fun j3 => ?_)
  · refine xx_lload_n dJ9_abs_11 rfl ?_
    exact xx_lret dJ9_abs_12 rfl ⟨by rw [if_pos ((lg_cmp_ge _ _).mp j3)], rfl⟩
  · refine xx_lload_n dJ9_abs_6 rfl ?_
    refine xx_lneg dJ9_abs_7 ?_
    refine xx_goto (tgt := 12) dJ9_abs_8 (by decide) ?_
    exact xx_lret dJ9_abs_12 rfl ⟨by rw [if_neg (fun q => j3 ((lg_cmp_ge _ _).mpr q))], rfl⟩
set_option maxRecDepth 100000 in
theorem c_J7_rc {G : xx_G} {l : Launch} {A : xx_H} {n p q : Nat} (hn : n < 2 ^ 31) (h1 : p ≤ q) (h2 : q ≤ n) : xx_X G l mJ7_rangeCheck 0 0 0 0 (lv_args 0 [.int (nI n), .int (nI p), .int (nI q)]) [] A (fun r B => r = .inl none ∧ B = A) := by
  refine xx_clv (lv2 := [(0, .int (nI n)), (1, .int (nI p)), (2, .int (nI q))]) rfl ?_
  refine xx_iload_n dJ7_rangeCheck_0 rfl ?_
  refine xx_iload_n dJ7_rangeCheck_1 rfl ?_
  refine xx_icmp_le (tgt := 46) dJ7_rangeCheck_2 (by decide) (fun j2 => ?_) (fun h => absurd (nI_le h1 (by omega)) h)
  refine xx_iload_n dJ7_rangeCheck_46 rfl ?_
  refine xx_if_ge (tgt := 59) dJ7_rangeCheck_47 (by decide) (fun j47 => ?_) (fun h => absurd (nI_pos' (by omega)) h)
  refine xx_iload_n dJ7_rangeCheck_59 rfl ?_
  refine xx_iload_n dJ7_rangeCheck_60 rfl ?_
  refine xx_icmp_le (tgt := 73) dJ7_rangeCheck_61 (by decide) (fun j61 => ?_) (fun h => absurd (nI_le h2 hn) h)
  exact xx_vret dJ7_rangeCheck_73 rfl ⟨rfl, rfl⟩
set_option maxRecDepth 100000 in
theorem l_J7_fillr {G : xx_G} {l : Launch} {A : xx_H} {a n p t : Nat} {v : Int32} {f : Nat → Int32} (hn : n < 2 ^ 31) (htn : t ≤ n) {Q : Option Value ⊕ String → xx_H → Prop} (hq : ∀ (B : xx_H) (g : Nat → Int32), B.1 = A.1 → B.2 a = xx_i n g → (∀ j, p ≤ j → j < t → g j = v) → (∀ j, j < p ∨ t ≤ j → g j = f j) → (∀ q, q ≠ a → B.2 q = A.2 q) → Q (.inl none) B) :
    ∀ (r i : Nat), i + r = t → p ≤ i → ∀ (B : xx_H) (g : Nat → Int32), B.1 = A.1 → B.2 a = xx_i n g → (∀ j, p ≤ j → j < i → g j = v) → (∀ j, j < p ∨ i ≤ j → g j = f j) → (∀ q, q ≠ a → B.2 q = A.2 q) →
      xx_X G l mJ7_fillr 1 0 0 10 [(0, .ref a), (2, .int (nI t)), (3, .int v), (4, .int (nI i))] [] B Q := by
  intro r
  induction r with
  | zero =>
    intro i hi hp B g hz ha hg ho hfr
    have : i = t := by omega
    subst this
    refine xx_iload dJ7_fillr_10 rfl ?_
    refine xx_iload_n dJ7_fillr_12 rfl ?_
    refine xx_icmp_ge (tgt := 27) dJ7_fillr_13 (by decide) (fun j13 => ?_) (fun h => absurd (Int32.le_refl _) h)
    exact xx_vret dJ7_fillr_27 rfl (hq B g hz ha hg ho hfr)
  | succ r ih =>
    intro i hi hp B g hz ha hg ho hfr
    refine xx_iload dJ7_fillr_10 rfl ?_
    refine xx_iload_n dJ7_fillr_12 rfl ?_
    refine xx_icmp_ge (tgt := 27) dJ7_fillr_13 (by decide) (fun h => absurd h (nI_ge (by omega) (by omega))) (fun j13 => ?_)
    refine xx_aload_n dJ7_fillr_16 rfl ?_
    refine xx_iload dJ7_fillr_17 rfl ?_
    refine xx_iload_n dJ7_fillr_19 rfl ?_
    refine xx_iast dJ7_fillr_20 ha (vp_in_nI (by omega) (by omega)) (xx_gu fun C z1 h1 o1 => ?_)
    rw [nI_clamp (by omega)] at h1
    refine xx_iinc (v := nI (i + 1)) dJ7_fillr_21 rfl (nI_1 i) (by decide) ?_
    refine xx_goto (tgt := 10) dJ7_fillr_24 (by decide) ?_
    refine xx_clv (lv2 := [(0, .ref a), (2, .int (nI t)), (3, .int v), (4, .int (nI (i + 1)))]) rfl ?_
    refine ih (i + 1) (by omega) (by omega) C (upd g i v) (by omega) h1 (fun j h2 h3 => ?_) (fun j hj => ?_) (fun q hq => (o1 q hq).trans (hfr q hq))
    · by_cases e : j = i
      · subst e; exact pk_us
      · rw [pk_un e]; exact hg j h2 (by omega)
    · rw [pk_un (by omega)]; exact ho j (by omega)
set_option maxRecDepth 100000 in
theorem c_J7_fillr {G : xx_G} {l : Launch} {A : xx_H} {a n p t : Nat} {v : Int32} {f : Nat → Int32} (hn : n < 2 ^ 31) (hpt : p ≤ t) (htn : t ≤ n) (ha : A.2 a = xx_i n f) : xx_X G l mJ7_fillr 1 0 0 0 (lv_args 0 [.ref a, .int (nI p), .int (nI t), .int v]) [] A (fun r B => r = .inl none ∧ B.1 = A.1 ∧ (∃ g, B.2 a = xx_i n g ∧ (∀ j, p ≤ j → j < t → g j = v) ∧ (∀ j, j < p ∨ t ≤ j → g j = f j)) ∧ ∀ q, q ≠ a → B.2 q = A.2 q) := by
  refine xx_clv (lv2 := [(0, .ref a), (1, .int (nI p)), (2, .int (nI t)), (3, .int v)]) rfl ?_
  refine xx_aload_n dJ7_fillr_0 rfl ?_
  refine xx_alen (kd := 1) (v := nI n) dJ7_fillr_1 (by decide) ha rfl ?_
  refine xx_iload_n dJ7_fillr_2 rfl ?_
  refine xx_iload_n dJ7_fillr_3 rfl ?_
  refine xx_callS (N := mJ7_rangeCheck) (vs := [.int (nI n), .int (nI p), .int (nI t)]) (rest := []) (d2 := 0) (c2 := 0) (s2 := 0) (c3 := 0) (s3 := 0) dJ7_fillr_4 wm_J7_13 ws_J7_rangeCheck wz_J7 (by decide) nJ7_rangeCheck ⟨pJ7_rangeCheck, Nat.le_of_ble_eq_true rfl, by decide, Nat.le_of_ble_eq_true rfl, by decide, by decide⟩ (c_J7_rc hn hpt htn) (fun v2 B hC => ?_) (fun E B hC => absurd hC.1 (by simp))
  obtain ⟨hv, rfl⟩ := hC
  cases hv
  refine xx_cst (st2 := []) rfl ?_
  refine xx_iload_n dJ7_fillr_7 rfl ?_
  refine xx_istore dJ7_fillr_8 (by decide) ?_
  refine xx_clv (lv2 := [(0, .ref a), (1, .int (nI p)), (2, .int (nI t)), (3, .int v), (4, .int (nI p))]) rfl ?_
  refine xx_less [0, 2, 3, 4] ?_
  refine xx_clv (lv2 := [(0, .ref a), (2, .int (nI t)), (3, .int v), (4, .int (nI p))]) rfl ?_
  exact l_J7_fillr (f := f) hn htn (fun C g y1 y2 y3 y4 y5 => ⟨rfl, y1, ⟨g, y2, y3, y4⟩, y5⟩) (t - p) p (by omega) (Nat.le_refl p) B f rfl ha (fun j h1 h2 => absurd h1 (by omega)) (fun j _ => rfl) (fun q _ => rfl)
set_option maxRecDepth 100000 in
theorem l_X0_at {G : xx_G} {l : Launch} {A : xx_H} {b x lex p φ : Nat} {s0 s1 s2 : Value} {f g : Nat → Int32} {D E : Nat → Nat} {Q : Option Value ⊕ String → xx_H → Prop} (hb : A.2 b = xx_o 0 [s0, s2, .ref (b + 1)]) (hf : A.2 (b + 1) = xx_i 14 f) (hx : A.2 x = xx_o 0 [s1, .int (nI lex), .ref (x + 1)]) (hg : A.2 (x + 1) = xx_i 14 g) (n1 : x ≠ b) (n2 : x ≠ b + 1) (n3 : x + 1 ≠ b) (hle : lex ≤ 14) (hE : ∀ i, i < lex → E i < yB ∧ g i = nI (E i)) (hat : p + lex ≤ 14) (hD : ∀ i, i < p + lex → D i < yB ∧ f i = nI (D i)) (hphi : φ < yB) (k : ∀ (B : xx_H) (f1 : Nat → Int32) (D1 : Nat → Nat) (c : Nat), B.1 = A.1 → c < yB → B.2 b = xx_o 0 [s0, s2, .ref (b + 1)] → B.2 (b + 1) = xx_i 14 f1 → (∀ j, p + lex ≤ j → f1 j = f j) → (∀ j, j < p + lex → D1 j < yB ∧ f1 j = nI (D1 j)) → yy_val yB D1 (p + lex) + c * yB ^ (p + lex) = yy_val yB D (p + lex) + φ * yy_val yB E lex * yB ^ p → (∀ q, q ≠ b + 1 → B.2 q = A.2 q) → xx_X G l mX0_addTimes 1 0 0 82 [(0, .ref b), (5, .long (lN c)), (7, .int (nI (p + lex)))] [] B Q) :
    ∀ (r i : Nat), i + r = lex → ∀ (B : xx_H) (f1 : Nat → Int32) (D1 : Nat → Nat) (c : Nat), B.1 = A.1 → B.2 (b + 1) = xx_i 14 f1 → (∀ j, p + i ≤ j → f1 j = f j) → (∀ j, j < p + i → D1 j < yB ∧ f1 j = nI (D1 j)) → c < yB → yy_val yB D1 (p + i) + c * yB ^ (p + i) = yy_val yB D (p + i) + φ * yy_val yB E i * yB ^ p → (∀ q, q ≠ b + 1 → B.2 q = A.2 q) → xx_X G l mX0_addTimes 1 0 0 21 [(0, .ref b), (1, .ref x), (2, .long (lN φ)), (4, .int (nI p)), (5, .long (lN c)), (7, .int (nI (p + lex))), (8, .int (nI (p + i)))] [] B Q := by
  intro r
  induction r with
  | zero =>
    intro i hi B f1 D1 c hz hf1 ho hd hc hv hfr
    have : i = lex := by omega
    subst this
    have hb2 := (hfr b (by omega)).trans hb
    refine xx_iload dX0_addTimes_21 rfl ?_
    refine xx_iload dX0_addTimes_23 rfl ?_
    refine xx_icmp_ge (tgt := 82) dX0_addTimes_25 (by decide) (fun j25 => ?_) (fun h => absurd (Int32.le_refl _) h)
    refine xx_less [0, 5, 7] ?_
    refine xx_clv (lv2 := [(0, .ref b), (5, .long (lN c)), (7, .int (nI (p + i)))]) rfl ?_
    exact k B f1 D1 c hz hc hb2 hf1 ho hd hv hfr
  | succ r ih =>
    intro i hi B f1 D1 c hz hf1 ho hd hc hv hfr
    have hb2 := (hfr b (by omega)).trans hb
    have hx2 := (hfr x (by omega)).trans hx
    have hg2 := (hfr (x + 1) (by omega)).trans hg
    obtain ⟨p1, q1⟩ := hD (p + i) (by omega)
    obtain ⟨p2, q2⟩ := hE i (by omega)
    have p1 : D (p + i) < 2147483648 := p1
    have p2 : E i < 2147483648 := p2
    have hphi2 : φ ≤ 2147483647 := by have : φ < 2147483648 := hphi
                                      omega
    have hc2 : c < 2147483648 := hc
    have hpr : φ * E i ≤ 2147483647 * 2147483647 := Nat.mul_le_mul hphi2 (by omega)
    have q3 : f1 (p + i) = nI (D (p + i)) := (ho _ (Nat.le_refl _)).trans q1
    refine xx_iload dX0_addTimes_21 rfl ?_
    refine xx_iload dX0_addTimes_23 rfl ?_
    refine xx_icmp_ge (tgt := 82) dX0_addTimes_25 (by decide) (fun h => absurd h (nI_ge (by omega) (by omega))) (fun j25 => ?_)
    refine xx_lload dX0_addTimes_28 rfl ?_
    refine xx_aload_n dX0_addTimes_30 rfl ?_
    refine xx_get xx_c0 dX0_addTimes_31 wf_X0_16 (j := 2) (by decide) hb2 rfl ?_
    refine xx_iload dX0_addTimes_34 rfl ?_
    refine xx_iald dX0_addTimes_36 hf1 (vp_in_nI (by omega) (by decide)) ?_
    refine xx_eqi (y := nI (D (p + i))) (by rw [nI_clamp (by omega)]; exact q3) ?_
    refine xx_i2l dX0_addTimes_37 ?_
    refine xx_eql (y := lN (D (p + i))) (nI_l (by omega)) ?_
    refine xx_lload_n dX0_addTimes_38 rfl ?_
    refine xx_aload_n dX0_addTimes_39 rfl ?_
    refine xx_get xx_c0 dX0_addTimes_40 wf_X0_16 (j := 2) (by decide) hx2 rfl ?_
    refine xx_iload dX0_addTimes_43 rfl ?_
    refine xx_iload dX0_addTimes_45 rfl ?_
    refine xx_isub dX0_addTimes_47 ?_
    refine xx_eqi (y := nI i) (by rw [pk_sub (by omega)]; congr 1; omega) ?_
    refine xx_iald dX0_addTimes_48 hg2 (vp_in_nI (by omega) (by decide)) ?_
    refine xx_eqi (y := nI (E i)) (by rw [nI_clamp (by omega)]; exact q2) ?_
    refine xx_i2l dX0_addTimes_49 ?_
    refine xx_eql (y := lN (E i)) (nI_l (by omega)) ?_
    refine xx_lmul dX0_addTimes_50 ?_
    refine xx_ladd dX0_addTimes_51 ?_
    refine xx_ladd dX0_addTimes_52 ?_
    refine xx_eql (y := lN (c + (D (p + i) + φ * E i))) (by rw [lN_mul, lN_add, lN_add]) ?_
    refine xx_lstore dX0_addTimes_53 (by decide) ?_
    refine xx_clv (lv2 := [(0, .ref b), (1, .ref x), (2, .long (lN φ)), (4, .int (nI p)), (5, .long (lN (c + (D (p + i) + φ * E i)))), (7, .int (nI (p + lex))), (8, .int (nI (p + i)))]) rfl ?_
    refine xx_aload_n dX0_addTimes_55 rfl ?_
    refine xx_get xx_c0 dX0_addTimes_56 wf_X0_16 (j := 2) (by decide) hb2 rfl ?_
    refine xx_iload dX0_addTimes_59 rfl ?_
    refine xx_lload dX0_addTimes_61 rfl ?_
    refine xx_ldc2 (v := 2147483647) dX0_addTimes_63 wk_X0_26 ?_
    refine xx_land dX0_addTimes_66 ?_
    refine xx_l2i dX0_addTimes_67 ?_
    refine xx_eqi (y := nI ((c + (D (p + i) + φ * E i)) % yB)) (lo31N _) ?_
    refine xx_iast dX0_addTimes_68 hf1 (vp_in_nI (by omega) (by decide)) (xx_gu fun C z1 h1 o1 => ?_)
    rw [nI_clamp (by omega)] at h1
    refine xx_lload dX0_addTimes_69 rfl ?_
    refine xx_bipush (v := 31) dX0_addTimes_71 (by decide) ?_
    refine xx_lshr dX0_addTimes_73 ?_
    refine xx_eql (y := lN ((c + (D (p + i) + φ * E i)) / yB)) (hi31N (by omega)) ?_
    refine xx_lstore dX0_addTimes_74 (by decide) ?_
    refine xx_clv (lv2 := [(0, .ref b), (1, .ref x), (2, .long (lN φ)), (4, .int (nI p)), (5, .long (lN ((c + (D (p + i) + φ * E i)) / yB))), (7, .int (nI (p + lex))), (8, .int (nI (p + i)))]) rfl ?_
    refine xx_iinc (v := nI (p + (i + 1))) dX0_addTimes_76 rfl (nI_1 (p + i)) (by decide) ?_
    refine xx_goto (tgt := 21) dX0_addTimes_79 (by decide) ?_
    refine xx_clv (lv2 := [(0, .ref b), (1, .ref x), (2, .long (lN φ)), (4, .int (nI p)), (5, .long (lN ((c + (D (p + i) + φ * E i)) / yB))), (7, .int (nI (p + lex))), (8, .int (nI (p + (i + 1))))]) rfl ?_
    refine ih (i + 1) (by omega) C (upd f1 (p + i) (nI ((c + (D (p + i) + φ * E i)) % yB))) (fun j => if j = p + i then (c + (D (p + i) + φ * E i)) % yB else D1 j) _ (by omega) h1 (fun j hj => ?_) (fun j hj => ?_) ?_ ?_ (fun q hq => (o1 q hq).trans (hfr q hq))
    · rw [pk_un (by omega)]; exact ho j (by omega)
    · by_cases e : j = p + i
      · subst e; rw [pk_us]; exact ⟨by rw [if_pos rfl]; exact Nat.mod_lt _ (by decide), by rw [if_pos rfl]⟩
      · rw [pk_un e, if_neg e]; exact hd j (by omega)
    · exact Nat.div_lt_of_lt_mul (by show _ < 2147483648 * 2147483648; omega)
    · show yy_val yB _ (p + i + 1) + _ * yB ^ (p + i + 1) = (yy_val yB D (p + i) + D (p + i) * yB ^ (p + i)) + φ * (yy_val yB E i + E i * yB ^ i) * yB ^ p
      rw [yy_upd_eq, Nat.pow_succ]
      have h9 := yy_stp _ c (yB ^ (p + i)) _ (D (p + i) + φ * E i) ((c + (D (p + i) + φ * E i)) % yB) ((c + (D (p + i) + φ * E i)) / yB) yB hv (Nat.mod_add_div _ _)
      rw [h9, Nat.pow_add]
      generalize yB ^ p = P1
      generalize yB ^ i = P2
      grind
set_option maxRecDepth 100000 in
theorem c_X0_addTimes {G : xx_G} {l : Launch} {A : xx_H} {b x lex p φ : Nat} {s0 s1 s2 : Value} {f g : Nat → Int32} {D E : Nat → Nat} (hb : A.2 b = xx_o 0 [s0, s2, .ref (b + 1)]) (hf : A.2 (b + 1) = xx_i 14 f) (hx : A.2 x = xx_o 0 [s1, .int (nI lex), .ref (x + 1)]) (hg : A.2 (x + 1) = xx_i 14 g) (n1 : x ≠ b) (n2 : x ≠ b + 1) (n3 : x + 1 ≠ b) (hle : lex ≤ 14) (hE : ∀ i, i < lex → E i < yB ∧ g i = nI (E i)) (hat : p + lex ≤ 14) (hD : ∀ i, i < p + lex → D i < yB ∧ f i = nI (D i)) (hphi : φ < yB) : xx_X G l mX0_addTimes 1 0 0 0 (lv_args 0 [.ref b, .ref x, .long (lN φ), .int (nI p)]) [] A (fun r B => r = .inl none ∧ B.1 = A.1 ∧ B.2 b = xx_o 0 [s0, s2, .ref (b + 1)] ∧ (∃ f1 D1 c, B.2 (b + 1) = xx_i 14 f1 ∧ c < yB ∧ (∀ j, p + lex < j → f1 j = f j) ∧ (p + lex < 14 → f1 (p + lex) = nI c) ∧ (∀ j, j < p + lex → D1 j < yB ∧ f1 j = nI (D1 j)) ∧ yy_val yB D1 (p + lex) + c * yB ^ (p + lex) = yy_val yB D (p + lex) + φ * yy_val yB E lex * yB ^ p) ∧ ∀ q, q ≠ b + 1 → B.2 q = A.2 q) := by
  refine xx_clv (lv2 := [(0, .ref b), (1, .ref x), (2, .long (lN φ)), (4, .int (nI p))]) rfl ?_
  refine xx_lconst (v := 0) dX0_addTimes_0 (by decide) ?_
  refine xx_lstore dX0_addTimes_1 (by decide) ?_
  refine xx_clv (lv2 := [(0, .ref b), (1, .ref x), (2, .long (lN φ)), (4, .int (nI p)), (5, .long 0)]) rfl ?_
  refine xx_bipush (v := 14) dX0_addTimes_3 (by decide) ?_
  refine xx_iload dX0_addTimes_5 rfl ?_
  refine xx_aload_n dX0_addTimes_7 rfl ?_
  refine xx_get xx_c0 dX0_addTimes_8 wf_X0_13 (j := 1) (by decide) hx rfl ?_
  refine xx_iadd dX0_addTimes_11 ?_
  refine xx_eqi (y := nI (p + lex)) (nI_add p lex) ?_
  refine xx_mmin dX0_addTimes_12 xx_mth0min (by decide) (Nat.le_of_ble_eq_true rfl) ?_
  refine xx_eqi (y := nI (p + lex)) (by rw [show (14 : Int32) = nI 14 from rfl, nI_min (a := 14) (by omega) (by omega)]; congr 1; unfold yy_min; split <;> omega) ?_
  refine xx_istore dX0_addTimes_15 (by decide) ?_
  refine xx_clv (lv2 := [(0, .ref b), (1, .ref x), (2, .long (lN φ)), (4, .int (nI p)), (5, .long 0), (7, .int (nI (p + lex)))]) rfl ?_
  refine xx_iload dX0_addTimes_17 rfl ?_
  refine xx_istore dX0_addTimes_19 (by decide) ?_
  refine xx_clv (lv2 := [(0, .ref b), (1, .ref x), (2, .long (lN φ)), (4, .int (nI p)), (5, .long 0), (7, .int (nI (p + lex))), (8, .int (nI p))]) rfl ?_
  refine xx_clv (lv2 := [(0, .ref b), (1, .ref x), (2, .long (lN φ)), (4, .int (nI p)), (5, .long (lN 0)), (7, .int (nI (p + lex))), (8, .int (nI (p + 0)))]) rfl ?_
  refine l_X0_at hb hf hx hg n1 n2 n3 hle hE hat hD hphi (fun B f1 D1 c y1 y0 y2 y3 y4 y5 y6 y7 => ?_) lex 0 (by omega) A f D 0 rfl hf (fun j _ => rfl) (fun j hj => hD j (by omega)) (by decide) (by show _ + 0 * _ = _ + φ * 0 * _; simp) (fun q _ => rfl)
  refine xx_iload dX0_addTimes_82 rfl ?_
  refine xx_bipush (v := 14) dX0_addTimes_84 (by decide) ?_
  by_cases h14 : p + lex < 14
  · refine xx_icmp_ge (tgt := 99) dX0_addTimes_86 (by decide) (fun h => absurd h (nI_ge (b := 14) h14 (by decide))) (fun _ => ?_)
    refine xx_aload_n dX0_addTimes_89 rfl ?_
    refine xx_get xx_c0 dX0_addTimes_90 wf_X0_16 (j := 2) (by decide) y2 rfl ?_
    refine xx_iload dX0_addTimes_93 rfl ?_
    refine xx_lload dX0_addTimes_95 rfl ?_
    refine xx_l2i dX0_addTimes_97 ?_
    refine xx_eqi (y := nI c) (lN_i c) ?_
    refine xx_iast dX0_addTimes_98 y3 (vp_in_nI (by omega) (by decide)) (xx_gu fun C z1 h1 o1 => ?_)
    rw [nI_clamp (by omega)] at h1
    refine xx_vret dX0_addTimes_99 rfl ⟨rfl, by omega, (o1 b (by omega)).trans y2, ⟨upd f1 (p + lex) (nI c), D1, c, h1, y0, fun j hj => ?_, fun _ => pk_us, fun j hj => ?_, y6⟩, fun q hq => (o1 q hq).trans (y7 q hq)⟩
    · rw [pk_un (by omega)]; exact y4 j (by omega)
    · rw [pk_un (by omega)]; exact y5 j hj
  · refine xx_icmp_ge (tgt := 99) dX0_addTimes_86 (by decide) (fun _ => ?_) (fun h => absurd (nI_le (a := 14) (by omega) (by omega)) h)
    exact xx_vret dX0_addTimes_99 rfl ⟨rfl, y1, y2, ⟨f1, D1, c, y3, y0, fun j hj => y4 j (by omega), fun q => absurd q h14, y5, y6⟩, y7⟩
