/-! ===== Big: trim, setTo ===== -/
/-- how many of the first t digits are left when the top zeros go -/
def xx_tl (f : Nat → Int32) : Nat → Nat
  | 0 => 0
  | t + 1 => if f t = 0 then xx_tl f t else t + 1
theorem xx_tl_le (f : Nat → Int32) : ∀ t, xx_tl f t ≤ t
  | 0 => Nat.le_refl 0
  | t + 1 => by
    unfold xx_tl
    split
    · exact Nat.le_succ_of_le (xx_tl_le f t)
    · exact Nat.le_refl _
set_option maxRecDepth 100000 in
theorem l_X0_trim {G : xx_G} {l : Launch} {A : xx_H} {b lim : Nat} {f : Nat → Int32} {s0 way tp : Int32} (hne : lim ≠ b) {Q : Option Value ⊕ String → xx_H → Prop} :
    ∀ (t : Nat), t ≤ 14 → ∀ (B : xx_H), B.1 = A.1 → B.2 b = xx_o 0 [.int s0, .int (nI t), .ref lim] → B.2 lim = xx_i 14 f → (∀ q, q ≠ b → B.2 q = A.2 q) →
      (∀ C : xx_H, C.1 = A.1 → C.2 b = xx_o 0 [.int (if xx_tl f t = 0 then 0 else way), .int (nI (xx_tl f t)), .ref lim] → (∀ q, q ≠ b → C.2 q = A.2 q) → Q (.inl none) C) →
      xx_X G l mX0_trim 0 0 0 5 [(0, .ref b), (1, .int tp), (2, .int way)] [] B Q := by
  intro t
  induction t with
  | zero =>
    intro ht B hz hb hl hfr hq
    refine xx_aload_n dX0_trim_5 rfl ?_
    refine xx_get xx_c0 dX0_trim_6 wf_X0_13 (j := 1) (by decide) hb rfl ?_
    refine xx_if_le (tgt := 39) dX0_trim_9 (by decide) (fun h => ?_) (fun h => absurd (Int32.le_refl _) h)
    refine xx_aload_n dX0_trim_39 rfl ?_
    refine xx_aload_n dX0_trim_40 rfl ?_
    refine xx_get xx_c0 dX0_trim_41 wf_X0_13 (j := 1) (by decide) hb rfl ?_
    refine xx_if_ne (tgt := 51) dX0_trim_44 (by decide) (fun h => absurd rfl h) (fun h => ?_)
    refine xx_iconst (v := 0) dX0_trim_47 (by decide) ?_
    refine xx_goto (tgt := 52) dX0_trim_48 (by decide) ?_
    refine xx_put xx_c0 dX0_trim_52 wf_X0_7 (j := 0) (by decide) rfl rfl rfl hb (Nat.le_of_ble_eq_true rfl) (xx_gu fun A1 z1 h1 o1 => ?_)
    have h1 : A1.2 b = xx_o 0 [.int 0, .int (nI 0), .ref lim] := h1
    have hl_1 := (o1 lim (by omega)).trans hl
    exact xx_vret dX0_trim_55 rfl (hq _ (by omega) h1 (fun q h => by rw [o1 q h]; exact hfr q h))
  | succ t ih =>
    intro ht B hz hb hl hfr hq
    refine xx_aload_n dX0_trim_5 rfl ?_
    refine xx_get xx_c0 dX0_trim_6 wf_X0_13 (j := 1) (by decide) hb rfl ?_
    refine xx_if_le (tgt := 39) dX0_trim_9 (by decide) (fun h => absurd h (nI_nle (by omega) (by omega))) (fun h => ?_)
    refine xx_aload_n dX0_trim_12 rfl ?_
    refine xx_get xx_c0 dX0_trim_13 wf_X0_16 (j := 2) (by decide) hb rfl ?_
    refine xx_aload_n dX0_trim_16 rfl ?_
    refine xx_get xx_c0 dX0_trim_17 wf_X0_13 (j := 1) (by decide) hb rfl ?_
    refine xx_iconst (v := 1) dX0_trim_20 (by decide) ?_
    refine xx_isub dX0_trim_21 ?_
    refine xx_eqi (y := nI t) (nI_pred t) ?_
    refine xx_iald dX0_trim_22 hl (vp_in_nI (by omega) (by decide)) ?_
    refine xx_eqi (y := f t) (by rw [nI_clamp (by omega)]) ?_
    refine xx_if_ne (tgt := 39) dX0_trim_23 (by decide) (fun h => ?_) (fun h => ?_)
    · refine xx_aload_n dX0_trim_39 rfl ?_
      refine xx_aload_n dX0_trim_40 rfl ?_
      refine xx_get xx_c0 dX0_trim_41 wf_X0_13 (j := 1) (by decide) hb rfl ?_
      refine xx_if_ne (tgt := 51) dX0_trim_44 (by decide) (fun h => ?_) (fun h => absurd h (nI_ne0 (by omega) (by omega)))
      refine xx_iload_n dX0_trim_51 rfl ?_
      refine xx_put xx_c0 dX0_trim_52 wf_X0_7 (j := 0) (by decide) rfl rfl rfl hb (Nat.le_of_ble_eq_true rfl) (xx_gu fun A1 z1 h1 o1 => ?_)
      have h1 : A1.2 b = xx_o 0 [.int way, .int (nI (t + 1)), .ref lim] := h1
      have hl_1 := (o1 lim (by omega)).trans hl
      refine xx_vret dX0_trim_55 rfl (hq _ (by omega) ?_ (fun q h => by rw [o1 q h]; exact hfr q h))
      have e1 : xx_tl f (t + 1) = t + 1 := by unfold xx_tl; rw [if_neg (by assumption)]
      rw [e1, if_neg (by omega)]
      exact h1
    · refine xx_aload_n dX0_trim_26 rfl ?_
      refine xx_dup dX0_trim_27 rfl ?_
      refine xx_get xx_c0 dX0_trim_28 wf_X0_13 (j := 1) (by decide) hb rfl ?_
      refine xx_iconst (v := 1) dX0_trim_31 (by decide) ?_
      refine xx_isub dX0_trim_32 ?_
      refine xx_eqi (y := nI t) (nI_pred t) ?_
      refine xx_put xx_c0 dX0_trim_33 wf_X0_13 (j := 1) (by decide) rfl rfl rfl hb (Nat.le_of_ble_eq_true rfl) (xx_gu fun A1 z1 h1 o1 => ?_)
      have h1 : A1.2 b = xx_o 0 [.int s0, .int (nI t), .ref lim] := h1
      have hl_1 := (o1 lim (by omega)).trans hl
      refine xx_goto (tgt := 5) dX0_trim_36 (by decide) ?_
      have e1 : xx_tl f (t + 1) = xx_tl f t := by rw [xx_tl]; rw [if_pos (by assumption)]
      rw [e1] at hq
      exact ih (by omega) _ (by omega) h1 hl_1 (fun q h => by rw [o1 q h]; exact hfr q h) hq
set_option maxRecDepth 100000 in
theorem c_X0_trim {G : xx_G} {l : Launch} {A : xx_H} {b lim t : Nat} {f : Nat → Int32} {s0 n0 way : Int32} (hb : A.2 b = xx_o 0 [.int s0, .int n0, .ref lim]) (hl : A.2 lim = xx_i 14 f) (ht : t ≤ 14) :
    xx_X G l mX0_trim 0 0 0 0 (lv_args 0 [.ref b, .int (nI t), .int way]) [] A (fun r B => r = .inl none ∧ B.1 = A.1 ∧ B.2 b = xx_o 0 [.int (if xx_tl f t = 0 then 0 else way), .int (nI (xx_tl f t)), .ref lim] ∧ ∀ q, q ≠ b → B.2 q = A.2 q) := by
  have hne : lim ≠ b := fun e => by rw [e, hb] at hl; exact absurd (congrArg (fun c => c.1) hl) (by show ¬ 100 + 0 = 1; decide)
  refine xx_clv (lv2 := [(0, .ref b), (1, .int (nI t)), (2, .int way)]) rfl ?_
  refine xx_aload_n dX0_trim_0 rfl ?_
  refine xx_iload_n dX0_trim_1 rfl ?_
  refine xx_put xx_c0 dX0_trim_2 wf_X0_13 (j := 1) (by decide) rfl rfl rfl hb (Nat.le_of_ble_eq_true rfl) (xx_gu fun A1 z1 h1 o1 => ?_)
  have h1 : A1.2 b = xx_o 0 [.int s0, .int (nI t), .ref lim] := h1
  have hl_1 := (o1 lim (by omega)).trans hl
  exact l_X0_trim (A := A) hne t ht A1 z1 h1 hl_1 (fun q h => o1 q h) (fun C c1 c2 c3 => ⟨rfl, c1, c2, c3⟩)
/-- the three digits that setTo lays -/
def xx_d3 (f : Nat → Int32) (z : Int64) : Nat → Int32 := upd (upd (upd f 0 (z &&& 2147483647).toInt32) 1 ((z.toUInt64 >>> ((31 : Int32).toInt64.toUInt64 &&& Int64.toUInt64 63)).toInt64 &&& 2147483647).toInt32) 2 (z.toUInt64 >>> ((62 : Int32).toInt64.toUInt64 &&& Int64.toUInt64 63)).toInt64.toInt32
set_option maxRecDepth 100000 in
theorem c_X0_setTo {G : xx_G} {l : Launch} {A : xx_H} {b lim : Nat} {f : Nat → Int32} {s0 n0 : Int32} {x : Int64} (hb : A.2 b = xx_o 0 [.int s0, .int n0, .ref lim]) (hl : A.2 lim = xx_i 14 f) :
    xx_X G l mX0_setTo 1 0 0 0 (lv_args 0 [.ref b, .long x]) [] A (fun r B => r = .inl none ∧ B.1 = A.1 ∧ B.2 lim = xx_i 14 (xx_d3 f (if 0 ≤ x then x else -x)) ∧ B.2 b = xx_o 0 [.int (if xx_tl (xx_d3 f (if 0 ≤ x then x else -x)) 3 = 0 then 0 else if 0 ≤ x then 1 else -1), .int (nI (xx_tl (xx_d3 f (if 0 ≤ x then x else -x)) 3)), .ref lim] ∧ ∀ q, q ≠ b → q ≠ lim → B.2 q = A.2 q) := by
  have hne : lim ≠ b := fun e => by rw [e, hb] at hl; exact absurd (congrArg (fun c => c.1) hl) (by show ¬ 100 + 0 = 1; decide)
  refine xx_clv (lv2 := [(0, .ref b), (1, .long x)]) rfl ?_
  refine xx_lload_n dX0_setTo_0 rfl ?_
  refine xx_lconst (v := 0) dX0_setTo_1 (by decide) ?_
  refine xx_lcmp dX0_setTo_2 ?_
  have K : ∀ z : Int64, z = (if 0 ≤ x then x else -x) → xx_X G l mX0_setTo 1 0 0 12 [(0, .ref b), (1, .long x)] [.long z] A (fun r B => r = .inl none ∧ B.1 = A.1 ∧ B.2 lim = xx_i 14 (xx_d3 f (if 0 ≤ x then x else -x)) ∧ B.2 b = xx_o 0 [.int (if xx_tl (xx_d3 f (if 0 ≤ x then x else -x)) 3 = 0 then 0 else if 0 ≤ x then 1 else -1), .int (nI (xx_tl (xx_d3 f (if 0 ≤ x then x else -x)) 3)), .ref lim] ∧ ∀ q, q ≠ b → q ≠ lim → B.2 q = A.2 q) := by
    intro z hz
    refine xx_lstore_n dX0_setTo_12 (by decide) ?_
    refine xx_clv (lv2 := [(0, .ref b), (1, .long x), (3, .long z)]) rfl ?_
    refine xx_aload_n dX0_setTo_13 rfl ?_
    refine xx_get xx_c0 dX0_setTo_14 wf_X0_16 (j := 2) (by decide) hb rfl ?_
    refine xx_iconst (v := 0) dX0_setTo_17 (by decide) ?_
    refine xx_lload_n dX0_setTo_18 rfl ?_
    refine xx_ldc2 (v := 2147483647) dX0_setTo_19 wk_X0_26 ?_
    refine xx_land dX0_setTo_22 ?_
    refine xx_l2i dX0_setTo_23 ?_
    refine xx_iast dX0_setTo_24 hl (by unfold vp_in; decide) (xx_gu fun A1 z1 h1 o1 => ?_)
    have h1 : A1.2 lim = xx_i 14 (upd f 0 (z &&& 2147483647).toInt32) := h1
    have hb_1 := (o1 b (by omega)).trans hb
    refine xx_aload_n dX0_setTo_25 rfl ?_
    refine xx_get xx_c0 dX0_setTo_26 wf_X0_16 (j := 2) (by decide) hb_1 rfl ?_
    refine xx_iconst (v := 1) dX0_setTo_29 (by decide) ?_
    refine xx_lload_n dX0_setTo_30 rfl ?_
    refine xx_bipush (v := 31) dX0_setTo_31 (by decide) ?_
    refine xx_lushr dX0_setTo_33 ?_
    refine xx_ldc2 (v := 2147483647) dX0_setTo_34 wk_X0_26 ?_
    refine xx_land dX0_setTo_37 ?_
    refine xx_l2i dX0_setTo_38 ?_
    refine xx_iast dX0_setTo_39 h1 (by unfold vp_in; decide) (xx_gu fun A2 z2 h2 o2 => ?_)
    have h2 : A2.2 lim = xx_i 14 (upd (upd f 0 (z &&& 2147483647).toInt32) 1 ((z.toUInt64 >>> ((31 : Int32).toInt64.toUInt64 &&& Int64.toUInt64 63)).toInt64 &&& 2147483647).toInt32) := h2
    have hb_2 := (o2 b (by omega)).trans hb_1
    refine xx_aload_n dX0_setTo_40 rfl ?_
    refine xx_get xx_c0 dX0_setTo_41 wf_X0_16 (j := 2) (by decide) hb_2 rfl ?_
    refine xx_iconst (v := 2) dX0_setTo_44 (by decide) ?_
    refine xx_lload_n dX0_setTo_45 rfl ?_
    refine xx_bipush (v := 62) dX0_setTo_46 (by decide) ?_
    refine xx_lushr dX0_setTo_48 ?_
    refine xx_l2i dX0_setTo_49 ?_
    refine xx_iast dX0_setTo_50 h2 (by unfold vp_in; decide) (xx_gu fun A3 z3 h3 o3 => ?_)
    have h3 : A3.2 lim = xx_i 14 (xx_d3 f z) := h3
    have hb_3 := (o3 b (by omega)).trans hb_2
    refine xx_aload_n dX0_setTo_51 rfl ?_
    refine xx_iconst (v := 3) dX0_setTo_52 (by decide) ?_
    refine xx_lload_n dX0_setTo_53 rfl ?_
    refine xx_lconst (v := 0) dX0_setTo_54 (by decide) ?_
    refine xx_lcmp dX0_setTo_55 ?_
    have J : ∀ wy : Int32, wy = (if 0 ≤ x then 1 else -1) → xx_X G l mX0_setTo 1 0 0 64 [(0, .ref b), (1, .long x), (3, .long z)] [.int wy, .int 3, .ref b] A3 (fun r B => r = .inl none ∧ B.1 = A.1 ∧ B.2 lim = xx_i 14 (xx_d3 f (if 0 ≤ x then x else -x)) ∧ B.2 b = xx_o 0 [.int (if xx_tl (xx_d3 f (if 0 ≤ x then x else -x)) 3 = 0 then 0 else if 0 ≤ x then 1 else -1), .int (nI (xx_tl (xx_d3 f (if 0 ≤ x then x else -x)) 3)), .ref lim] ∧ ∀ q, q ≠ b → q ≠ lim → B.2 q = A.2 q) := by
      intro wy hwy
      refine xx_callV (N := mX0_trim) (vs := [.int (nI 3), .int wy]) (b := b) (rest := []) (k := 0) (d2 := 0) (c2 := 0) (s2 := 0) (c3 := 0) (s3 := 0) dX0_setTo_64 wm_X0_28 wi_X0_trim wv_X0_trim rfl (by decide) hb_3 nX0_trim ⟨pX0_trim, Nat.le_of_ble_eq_true rfl, by decide, Nat.le_of_ble_eq_true rfl, by decide, by decide⟩ (c_X0_trim hb_3 h3 (t := 3) (by decide)) (fun v C hC => ?_) (fun E C hC => ?_)
      rotate_left
      · exact absurd hC.1 (by simp)
      obtain ⟨hv, y1, y2, y3⟩ := hC
      cases hv
      refine xx_cst (st2 := []) rfl ?_
      rw [hz, hwy] at y2
      refine xx_vret dX0_setTo_67 rfl ⟨rfl, by omega, ?_, y2, fun q q1 q2 => by rw [y3 q q1, o3 q q2, o2 q q2, o1 q q2]⟩
      rw [y3 lim hne, ← hz]
      exact h3
    refine xx_if_ge (tgt := 63) dX0_setTo_56 (by decide) (fun h => ?_) (fun h => ?_)
    · refine xx_iconst (v := 1) dX0_setTo_63 (by decide) ?_
      exact J 1 (by rw [if_pos ((lg_cmp_ge x 0).mp h)])
    · refine xx_iconst (v := (-1)) dX0_setTo_59 (by decide) ?_
      refine xx_goto (tgt := 64) dX0_setTo_60 (by decide) ?_
      exact J (-1) (by rw [if_neg (fun q => h ((lg_cmp_ge x 0).mpr q))])
  refine xx_if_ge (tgt := 11) dX0_setTo_3 (by decide) (fun h => ?_) (fun h => ?_)
  · refine xx_lload_n dX0_setTo_11 rfl ?_
    exact K x (by rw [if_pos ((lg_cmp_ge x 0).mp h)])
  · refine xx_lload_n dX0_setTo_6 rfl ?_
    refine xx_lneg dX0_setTo_7 ?_
    refine xx_goto (tgt := 12) dX0_setTo_8 (by decide) ?_
    exact K (-x) (by rw [if_neg (fun q => h ((lg_cmp_ge x 0).mpr q))])
