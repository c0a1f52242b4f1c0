/-! ===== Big: compareSize, compareWith, trim ===== -/
set_option maxRecDepth 100000 in
theorem l_X0_cs {G : xx_G} {l : Launch} {A : xx_H} {b x len : Nat} {s0 s1 : Value} {f g : Nat → Int32} {D E : Nat → Nat} {Q : Option Value ⊕ String → xx_H → Prop} (hb : A.2 b = xx_o 0 [s0, .int (nI len), .ref (b + 1)]) (hf : A.2 (b + 1) = xx_i 14 f) (hx : A.2 x = xx_o 0 [s1, .int (nI len), .ref (x + 1)]) (hg : A.2 (x + 1) = xx_i 14 g) (hl : len ≤ 14) (hD : ∀ i, i < len → D i < yB ∧ f i = nI (D i)) (hE : ∀ i, i < len → E i < yB ∧ g i = nI (E i))
    (hq : Q (.inl (some (.int (yy_cmp (yy_val yB D len) (yy_val yB E len))))) A) : ∀ t : Nat, t ≤ len → (∀ j, t ≤ j → j < len → D j = E j) → xx_X G l mX0_compareSize 0 0 0 35 [(0, .ref b), (1, .ref x), (2, .int (iz ((t : Int) - 1)))] [] A Q := by
  intro t
  induction t with
  | zero =>
    intro ht he
    have e : yy_val yB D len = yy_val yB E len := yy_val_ext (fun i hi => he i (Nat.zero_le i) hi)
    refine xx_iload_n dX0_compareSize_35 rfl ?_
    refine xx_if_lt (tgt := 81) dX0_compareSize_36 (by decide) (fun j36 => ?_) (fun h => absurd (by decide) h)
    refine xx_iconst (v := 0) dX0_compareSize_81 (by decide) ?_
    refine xx_iret dX0_compareSize_82 rfl ?_
    unfold yy_cmp at hq
    rw [e, if_neg (Nat.lt_irrefl _), if_pos rfl] at hq
    exact hq
  | succ k ih =>
    intro ht he
    have ek : iz (((k + 1 : Nat) : Int) - 1) = nI k := by rw [nI_iz]; congr 1; omega
    rw [ek]
    obtain ⟨d1, d2⟩ := hD k (by omega)
    obtain ⟨e1, e2⟩ := hE k (by omega)
    refine xx_iload_n dX0_compareSize_35 rfl ?_
    refine xx_if_lt (tgt := 81) dX0_compareSize_36 (by decide) (fun h => absurd h (nI_pos (by omega))) (fun j36 => ?_)
    refine xx_aload_n dX0_compareSize_39 rfl ?_
    refine xx_get xx_c0 dX0_compareSize_40 wf_X0_16 (j := 2) (by decide) hb rfl ?_
    refine xx_iload_n dX0_compareSize_43 rfl ?_
    refine xx_iald dX0_compareSize_44 hf (vp_in_nI (by omega) (by decide)) ?_
    refine xx_eqi (y := nI (D k)) (by rw [nI_clamp (by omega)]; exact d2) ?_
    refine xx_aload_n dX0_compareSize_45 rfl ?_
    refine xx_get xx_c0 dX0_compareSize_46 wf_X0_16 (j := 2) (by decide) hx rfl ?_
    refine xx_iload_n dX0_compareSize_49 rfl ?_
    refine xx_iald dX0_compareSize_50 hg (vp_in_nI (by omega) (by decide)) ?_
    refine xx_eqi (y := nI (E k)) (by rw [nI_clamp (by omega)]; exact e2) ?_
    refine xx_icmp_eq (tgt := 75) dX0_compareSize_51 (by decide) (fun j51 => ?_) (fun j51 => ?_)
    · have eDE : D k = E k := (nI_eq d1 e1).mp j51
      refine xx_iinc (v := iz ((k : Int) - 1)) dX0_compareSize_75 rfl (by rw [nI_iz]; exact iz_add _ _) (by decide) ?_
      refine xx_goto (tgt := 35) dX0_compareSize_78 (by decide) ?_
      refine xx_clv (lv2 := [(0, .ref b), (1, .ref x), (2, .int (iz ((k : Int) - 1)))]) rfl ?_
      refine ih (by omega) (fun j h1 h2 => ?_)
      by_cases q : j = k
      · subst q; exact eDE
      · exact he j (by omega) h2
    · refine xx_aload_n dX0_compareSize_54 rfl ?_
      refine xx_get xx_c0 dX0_compareSize_55 wf_X0_16 (j := 2) (by decide) hb rfl ?_
      refine xx_iload_n dX0_compareSize_58 rfl ?_
      refine xx_iald dX0_compareSize_59 hf (vp_in_nI (by omega) (by decide)) ?_
      refine xx_eqi (y := nI (D k)) (by rw [nI_clamp (by omega)]; exact d2) ?_
      refine xx_aload_n dX0_compareSize_60 rfl ?_
      refine xx_get xx_c0 dX0_compareSize_61 wf_X0_16 (j := 2) (by decide) hx rfl ?_
      refine xx_iload_n dX0_compareSize_64 rfl ?_
      refine xx_iald dX0_compareSize_65 hg (vp_in_nI (by omega) (by decide)) ?_
      refine xx_eqi (y := nI (E k)) (by rw [nI_clamp (by omega)]; exact e2) ?_
      refine xx_icmp_ge (tgt := 73) dX0_compareSize_66 (by decide) (fun j66 => ?_) (fun j66 => ?_)
      · refine xx_iconst (v := 1) dX0_compareSize_73 (by decide) ?_
        have nDE : D k ≠ E k := fun q => j51 (by rw [q])
        refine xx_iret dX0_compareSize_74 rfl ?_
        have lt : E k < D k := by have := (nI_leI e1 d1).mp j66; omega
        have hv := yy_val_cmp (n := len) (i := k) (by omega) (fun j hj => (hE j (by omega)).1) (fun j h1 h2 => (he j (by omega) h2).symm) lt
        unfold yy_cmp at hq
        rw [if_neg (by omega), if_neg (by omega)] at hq
        exact hq
      · refine xx_iconst (v := (-1)) dX0_compareSize_69 (by decide) ?_
        refine xx_goto (tgt := 74) dX0_compareSize_70 (by decide) ?_
        have nDE : D k ≠ E k := fun q => j51 (by rw [q])
        refine xx_iret dX0_compareSize_74 rfl ?_
        have nl : ¬ E k ≤ D k := fun q => j66 ((nI_leI e1 d1).mpr q)
        have hv := yy_val_cmp (n := len) (i := k) (by omega) (fun j hj => (hD j (by omega)).1) (fun j h1 h2 => he j (by omega) h2) (by omega)
        unfold yy_cmp at hq
        rw [if_pos hv] at hq
        exact hq
set_option maxRecDepth 100000 in
theorem c_X0_compareSize {G : xx_G} {l : Launch} {A : xx_H} {b x : Nat} {u v : Int} (hb : xx_bg A b u) (hx : xx_bg A x v) : xx_X G l mX0_compareSize 0 0 0 0 (lv_args 0 [.ref b, .ref x]) [] A (fun r B => r = .inl (some (.int (yy_cmp u.natAbs v.natAbs))) ∧ B = A) := by
  obtain ⟨f, len, hb, hf, g3⟩ := hb
  obtain ⟨g, lex, hx, hg, k3⟩ := hx
  have l1 := g3.1
  have l2 := k3.1
  refine xx_clv (lv2 := [(0, .ref b), (1, .ref x)]) rfl ?_
  refine xx_aload_n dX0_compareSize_0 rfl ?_
  refine xx_get xx_c0 dX0_compareSize_1 wf_X0_13 (j := 1) (by decide) hb rfl ?_
  refine xx_aload_n dX0_compareSize_4 rfl ?_
  refine xx_get xx_c0 dX0_compareSize_5 wf_X0_13 (j := 1) (by decide) hx rfl ?_
  refine xx_icmp_eq (tgt := 28) dX0_compareSize_8 (by decide) (fun j8 => ?_) (fun j8 => ?_)
  · refine xx_aload_n dX0_compareSize_28 rfl ?_
    refine xx_get xx_c0 dX0_compareSize_29 wf_X0_13 (j := 1) (by decide) hb rfl ?_
    refine xx_iconst (v := 1) dX0_compareSize_32 (by decide) ?_
    refine xx_isub dX0_compareSize_33 ?_
    refine xx_istore_n dX0_compareSize_34 (by decide) ?_
    refine xx_clv (lv2 := [(0, .ref b), (1, .ref x), (2, .int (((nI len)) - 1))]) rfl ?_
    have el : len = lex := (nI_eq (by omega) (by omega)).mp j8
    subst el
    obtain ⟨_, D, hD, _, e1⟩ := g3
    obtain ⟨_, E, hE, _, e2⟩ := k3
    refine xx_clv (lv2 := [(0, .ref b), (1, .ref x), (2, .int (iz ((len : Int) - 1)))]) (by rw [nI_iz, show (1 : Int32) = iz 1 from rfl, iz_sub]) ?_
    exact l_X0_cs hb hf hx hg l1 hD hE ⟨by rw [e1, e2], rfl⟩ len (Nat.le_refl _) (fun j h1 h2 => absurd h1 (by omega))
  · refine xx_aload_n dX0_compareSize_11 rfl ?_
    refine xx_get xx_c0 dX0_compareSize_12 wf_X0_13 (j := 1) (by decide) hb rfl ?_
    refine xx_aload_n dX0_compareSize_15 rfl ?_
    refine xx_get xx_c0 dX0_compareSize_16 wf_X0_13 (j := 1) (by decide) hx rfl ?_
    refine xx_icmp_ge (tgt := 26) dX0_compareSize_19 (by decide) (fun j19 => ?_) (fun j19 => ?_)
    · refine xx_iconst (v := 1) dX0_compareSize_26 (by decide) ?_
      have nl : len ≠ lex := fun q => j8 (by rw [q])
      refine xx_iret dX0_compareSize_27 rfl ⟨?_, rfl⟩
      have a1 := g3.lt
      have a2 := k3.lt
      have lt : lex < len := by have := (nI_leI (by omega) (by omega)).mp j19; omega
      have e : len = (len - 1) + 1 := by omega
      rw [e] at g3
      have a3 := g3.ge
      have a4 : yB ^ lex ≤ yB ^ (len - 1) := Nat.pow_le_pow_right (by decide) (by omega)
      unfold yy_cmp
      rw [if_neg (by omega), if_neg (by omega)]
    · refine xx_iconst (v := (-1)) dX0_compareSize_22 (by decide) ?_
      refine xx_goto (tgt := 27) dX0_compareSize_23 (by decide) ?_
      have nl : len ≠ lex := fun q => j8 (by rw [q])
      refine xx_iret dX0_compareSize_27 rfl ⟨?_, rfl⟩
      have a1 := g3.lt
      have a2 := k3.lt
      have nl2 : ¬ lex ≤ len := fun q => j19 ((nI_leI (by omega) (by omega)).mpr q)
      have e : lex = (lex - 1) + 1 := by omega
      rw [e] at k3
      have a3 := k3.ge
      have a4 : yB ^ len ≤ yB ^ (lex - 1) := Nat.pow_le_pow_right (by decide) (by omega)
      unfold yy_cmp
      rw [if_pos (by omega)]
theorem yy_sgn (v : Int) : (v < 0 ∧ v.sign = -1) ∨ (v = 0 ∧ v.sign = 0) ∨ (0 < v ∧ v.sign = 1) := by
  rcases Int.lt_trichotomy v 0 with h | h | h
  · exact Or.inl ⟨h, Int.sign_eq_neg_one_of_neg h⟩
  · subst h; exact Or.inr (Or.inl ⟨rfl, rfl⟩)
  · exact Or.inr (Or.inr ⟨h, Int.sign_eq_one_of_pos h⟩)
theorem yy_cw (u v : Int) (h : iz u.sign = iz v.sign) : iz u.sign * yy_cmp u.natAbs v.natAbs = yy_cmz u v := by
  unfold yy_cmp yy_cmz
  rcases yy_sgn u with ⟨hu, su⟩ | ⟨hu, su⟩ | ⟨hu, su⟩ <;> rcases yy_sgn v with ⟨hv, sv⟩ | ⟨hv, sv⟩ | ⟨hv, sv⟩ <;> rw [su, sv] at h <;> first
    | exact absurd h (by decide)
    | (rw [su]
       by_cases a1 : u < v
       · rw [if_pos a1]
         first
           | (rw [if_neg (by omega), if_neg (by omega)]; rfl)
           | (rw [if_pos (by omega)]; rfl)
           | exact absurd a1 (by omega)
       · rw [if_neg a1]
         by_cases a2 : u = v
         · rw [if_pos a2, if_neg (by omega), if_pos (by omega)]; rfl
         · rw [if_neg a2]
           first
             | (rw [if_pos (by omega)]; rfl)
             | (rw [if_neg (by omega), if_neg (by omega)]; rfl)
             | (exfalso; omega))
theorem yy_cwn (u v : Int) (h : ¬ iz u.sign = iz v.sign) : yy_cmz u v = if iz v.sign ≤ iz u.sign then 1 else -1 := by
  unfold yy_cmz
  rcases yy_sgn u with ⟨hu, su⟩ | ⟨hu, su⟩ | ⟨hu, su⟩ <;> rcases yy_sgn v with ⟨hv, sv⟩ | ⟨hv, sv⟩ | ⟨hv, sv⟩ <;> rw [su, sv] at h ⊢ <;> first
    | exact absurd rfl h
    | (rw [if_pos (by omega), if_neg (by decide)])
    | (rw [if_neg (by omega), if_neg (by omega), if_pos (by decide)])
set_option maxRecDepth 100000 in
theorem c_X0_compareWith {G : xx_G} {l : Launch} {A : xx_H} {b x : Nat} {u v : Int} (hb : xx_bg A b u) (hx : xx_bg A x v) : xx_X G l mX0_compareWith 1 0 0 0 (lv_args 0 [.ref b, .ref x]) [] A (fun r B => r = .inl (some (.int (yy_cmz u v))) ∧ B = A) := by
  have hb0 := hb
  have hx0 := hx
  obtain ⟨f, len, hb, hf, g3⟩ := hb
  obtain ⟨g, lex, hx, hg, k3⟩ := hx
  refine xx_clv (lv2 := [(0, .ref b), (1, .ref x)]) rfl ?_
  refine xx_aload_n dX0_compareWith_0 rfl ?_
  refine xx_get xx_c0 dX0_compareWith_1 wf_X0_7 (j := 0) (by decide) hb rfl ?_
  refine xx_aload_n dX0_compareWith_4 rfl ?_
  refine xx_get xx_c0 dX0_compareWith_5 wf_X0_7 (j := 0) (by decide) hx rfl ?_
  refine xx_icmp_eq (tgt := 28) dX0_compareWith_8 (by decide) (fun j8 => ?_) (fun j8 => ?_)
  · refine xx_aload_n dX0_compareWith_28 rfl ?_
    refine xx_get xx_c0 dX0_compareWith_29 wf_X0_7 (j := 0) (by decide) hb rfl ?_
    refine xx_aload_n dX0_compareWith_32 rfl ?_
    refine xx_aload_n dX0_compareWith_33 rfl ?_
    refine xx_callV (N := mX0_compareSize) (vs := [.ref x]) (b := b) (rest := [.int (iz u.sign)]) (d2 := 0) (c2 := 0) (s2 := 0) (c3 := 0) (s3 := 0) dX0_compareWith_34 wm_X0_56 wi_X0_compareSize wv_X0_compareSize (k := 0) rfl (by decide) hb nX0_compareSize ⟨pX0_compareSize, Nat.le_of_ble_eq_true rfl, by decide, Nat.le_of_ble_eq_true rfl, by decide, by decide⟩ (c_X0_compareSize hb0 hx0) (fun v2 B hC => ?_) (fun E B hC => absurd hC.1 (by simp))
    obtain ⟨hv, rfl⟩ := hC
    cases hv
    refine xx_cst (st2 := [.int (yy_cmp u.natAbs v.natAbs), .int (iz u.sign)]) rfl ?_
    refine xx_imul dX0_compareWith_37 ?_
    exact xx_iret dX0_compareWith_38 rfl ⟨by rw [yy_cw u v j8], rfl⟩
  · refine xx_aload_n dX0_compareWith_11 rfl ?_
    refine xx_get xx_c0 dX0_compareWith_12 wf_X0_7 (j := 0) (by decide) hb rfl ?_
    refine xx_aload_n dX0_compareWith_15 rfl ?_
    refine xx_get xx_c0 dX0_compareWith_16 wf_X0_7 (j := 0) (by decide) hx rfl ?_
    refine xx_icmp_ge (tgt := 26) dX0_compareWith_19 (by decide) (fun j19 => ?_) (fun j19 => ?_)
    · refine xx_iconst (v := 1) dX0_compareWith_26 (by decide) ?_
      exact xx_iret dX0_compareWith_27 rfl ⟨by rw [yy_cwn u v j8, if_pos j19], rfl⟩
    · refine xx_iconst (v := (-1)) dX0_compareWith_22 (by decide) ?_
      refine xx_goto (tgt := 27) dX0_compareWith_23 (by decide) ?_
      exact xx_iret dX0_compareWith_27 rfl ⟨by rw [yy_cwn u v j8, if_neg j19], rfl⟩
theorem xx_tl_dig {f : Nat → Int32} {D : Nat → Nat} : ∀ {t : Nat}, (∀ i, i < t → D i < yB ∧ f i = nI (D i)) → yy_val yB D (xx_tl f t) = yy_val yB D t ∧ (0 < xx_tl f t → D (xx_tl f t - 1) ≠ 0)
  | 0, _ => ⟨rfl, fun h => absurd h (Nat.lt_irrefl 0)⟩
  | t + 1, h => by
    obtain ⟨h1, h2⟩ := h t (by omega)
    have ih := xx_tl_dig (t := t) (fun i hi => h i (by omega))
    by_cases e : f t = 0
    · have e2 : xx_tl f (t + 1) = xx_tl f t := by rw [xx_tl, if_pos e]
      have e3 : D t = 0 := by
        rw [h2] at e
        exact (nI_eq h1 (by decide)).mp (show nI (D t) = nI 0 from e)
      rw [e2]
      refine ⟨?_, ih.2⟩
      show _ = yy_val yB D t + D t * yB ^ t
      rw [e3, ih.1]; omega
    · have e2 : xx_tl f (t + 1) = t + 1 := by rw [xx_tl, if_neg e]
      rw [e2]
      refine ⟨rfl, fun _ q => e ?_⟩
      rw [h2, show D t = 0 from q]; rfl
/-- trim lays the number that the first t digits and the sign tell -/
theorem c_trim {G : xx_G} {l : Launch} {A : xx_H} {b t : Nat} {f : Nat → Int32} {D : Nat → Nat} {s0 n0 way : Int32} {v : Int} (hb : A.2 b = xx_o 0 [.int s0, .int n0, .ref (b + 1)]) (hl : A.2 (b + 1) = xx_i 14 f) (ht : t ≤ 14) (hD : ∀ i, i < t → D i < yB ∧ f i = nI (D i)) (hv : v.natAbs = yy_val yB D t) (hw : v ≠ 0 → way = iz v.sign) :
    xx_X G l mX0_trim 0 0 0 0 (lv_args 0 [.ref b, .int (nI t), .int way]) [] A (fun r B => r = .inl none ∧ B.1 = A.1 ∧ xx_bg B b v ∧ ∀ q, q ≠ b → B.2 q = A.2 q) := by
  refine xx_mono (fun r B h => ?_) (c_X0_trim hb hl ht)
  obtain ⟨h1, h2, h3, h4⟩ := h
  obtain ⟨q1, q2⟩ := xx_tl_dig hD
  have hle := xx_tl_le f t
  refine ⟨h1, h2, ⟨f, xx_tl f t, ?_, (h4 _ (by omega)).trans hl, by omega, D, fun i hi => hD i (by omega), q2, by rw [q1]; exact hv⟩, h4⟩
  rw [h3]
  by_cases e : xx_tl f t = 0
  · have : v = 0 := by
      rw [← q1, e] at hv
      have : v.natAbs = 0 := hv
      omega
    subst this
    rw [if_pos e]; rfl
  · rw [if_neg e]
    have : v ≠ 0 := fun q => by
      subst q
      have h5 := q2 (by omega)
      have h6 : xx_tl f t = (xx_tl f t - 1) + 1 := by omega
      have h7 := yy_val_top (β := yB) (D := D) (n := xx_tl f t - 1) h5
      rw [← h6, q1, ← hv] at h7
      have h8 := Nat.pow_pos (n := xx_tl f t - 1) (show 0 < yB by decide)
      have h9 : Int.natAbs 0 = 0 := rfl
      omega
    rw [hw this]
