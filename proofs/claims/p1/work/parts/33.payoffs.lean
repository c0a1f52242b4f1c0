/-! ===== Payoffs: commonDivisor, makeWhole, reset ===== -/
theorem xx_oi {A : xx_H} {p q k n : Nat} {fs : List Value} {f : Nat → Int32} (h : A.2 p = xx_o k fs) (h2 : A.2 q = xx_i n f) : p ≠ q := fun e => by
  rw [e, h2] at h
  exact absurd (congrArg (fun c => c.1) h) (by show ¬ 1 = 100 + k; omega)
def xx_cd : Nat → Int32 → Int32 → Int32
  | 0, x, _ => x
  | n + 1, x, y => if y = 0 then x else xx_cd n y (x - x / y * y)
def xx_m1 (g : Int32) : Int32 := if 1 < g then g else 1
theorem xx_m1_ne (g : Int32) : ¬ xx_m1 g = 0 := by
  unfold xx_m1
  split
  · rename_i h
    intro e
    rw [e] at h
    exact absurd h (by decide)
  · decide
def yy_lcm (b : Nat → Int32) : Nat → Int32
  | 0 => 1
  | k + 1 => yy_lcm b k * (b k / xx_m1 (xx_cd 100 (yy_lcm b k) (b k)))
def xx_ws (a b : Nat → Int32) (m : Int32) (c : Nat) (s : (Nat → Int32) × Int32) : (Nat → Int32) × Int32 :=
  (upd s.1 c (a c * (m / xx_m1 (b c))), if a c * (m / xx_m1 (b c)) < s.2 then a c * (m / xx_m1 (b c)) else s.2)
def xx_wi (a b : Nat → Int32) (m : Int32) (r : Nat) : Nat → (Nat → Int32) × Int32 → (Nat → Int32) × Int32
  | 0, s => s
  | k + 1, s => xx_ws a b m (r * 6 + k) (xx_wi a b m r k s)
def xx_wo (a b : Nat → Int32) (m : Int32) (t : Nat) : Nat → (Nat → Int32) × Int32 → (Nat → Int32) × Int32
  | 0, s => s
  | r + 1, s => xx_wi a b m r t (xx_wo a b m t r s)
theorem xx_i6 (r k : Nat) : nI r * 6 + nI k = nI (r * 6 + k) := by rw [show (6 : Int32) = nI 6 from rfl, pk_mul, nI_add]
theorem xx_mth4max : xx_mth RX4 53 Lib.Math.max.name Lib.Math.max.code 2 := ⟨wm_X4_53, wq_s_max, wq_z, wq_c_max⟩
theorem xx_mth4min : xx_mth RX4 79 Lib.Math.min.name Lib.Math.min.code 2 := ⟨wm_X4_79, wq_s_min, wq_z, wq_c_min⟩
set_option maxRecDepth 100000 in
theorem l_X4_cd {G : xx_G} {l : Launch} {A : xx_H} {p0 p1 : Int32} {Q : Option Value ⊕ String → xx_H → Prop} :
    ∀ (r i : Nat), i + r = 100 → ∀ (x y : Int32), Q (.inl (some (.int (xx_cd r x y)))) A → xx_X G l mX4_commonDivisor 0 0 0 7 [(0, .int p0), (1, .int p1), (2, .int x), (3, .int y), (4, .int (nI i))] [] A Q := by
  intro r
  induction r with
  | zero =>
    intro i hi x y hq
    have : i = 100 := by omega
    subst this
    refine xx_iload dX4_commonDivisor_7 rfl ?_
    refine xx_bipush (v := 100) dX4_commonDivisor_9 (by decide) ?_
    refine xx_icmp_ge (tgt := 34) dX4_commonDivisor_11 (by decide) (fun j11 => ?_) (fun h => absurd (Int32.le_refl _) h)
    refine xx_iload_n dX4_commonDivisor_34 rfl ?_
    exact xx_iret dX4_commonDivisor_35 rfl hq
  | succ r ih =>
    intro i hi x y hq
    unfold xx_cd at hq
    refine xx_iload dX4_commonDivisor_7 rfl ?_
    refine xx_bipush (v := 100) dX4_commonDivisor_9 (by decide) ?_
    refine xx_icmp_ge (tgt := 34) dX4_commonDivisor_11 (by decide) (fun h => absurd h (nI_ge (b := 100) (by omega) (by omega))) (fun j11 => ?_)
    refine xx_iload_n dX4_commonDivisor_14 rfl ?_
    refine xx_if_eq (tgt := 34) dX4_commonDivisor_15 (by decide) (fun j15 => ?_) (fun j15 => ?_)
    · refine xx_iload_n dX4_commonDivisor_34 rfl ?_
      exact xx_iret dX4_commonDivisor_35 rfl (by rw [if_pos j15] at hq; exact hq)
    · refine xx_iload_n dX4_commonDivisor_18 rfl ?_
      refine xx_iload_n dX4_commonDivisor_19 rfl ?_
      refine xx_irem dX4_commonDivisor_20 j15 ?_
      refine xx_istore dX4_commonDivisor_21 (by decide) ?_
      refine xx_clv (lv2 := [(0, .int p0), (1, .int p1), (2, .int x), (3, .int y), (4, .int (nI i)), (5, .int (x - x / y * y))]) rfl ?_
      refine xx_iload_n dX4_commonDivisor_23 rfl ?_
      refine xx_istore_n dX4_commonDivisor_24 (by decide) ?_
      refine xx_clv (lv2 := [(0, .int p0), (1, .int p1), (2, .int y), (3, .int y), (4, .int (nI i)), (5, .int (x - x / y * y))]) rfl ?_
      refine xx_iload dX4_commonDivisor_25 rfl ?_
      refine xx_istore_n dX4_commonDivisor_27 (by decide) ?_
      refine xx_clv (lv2 := [(0, .int p0), (1, .int p1), (2, .int y), (3, .int (x - x / y * y)), (4, .int (nI i)), (5, .int (x - x / y * y))]) rfl ?_
      refine xx_iinc (v := nI (i + 1)) dX4_commonDivisor_28 rfl (nI_1 i) (by decide) ?_
      refine xx_goto (tgt := 7) dX4_commonDivisor_31 (by decide) ?_
      refine xx_clv (lv2 := [(0, .int p0), (1, .int p1), (2, .int y), (3, .int (x - x / y * y)), (4, .int (nI (i + 1))), (5, .int (x - x / y * y))]) rfl ?_
      refine xx_less [0, 1, 2, 3, 4] ?_
      refine xx_clv (lv2 := [(0, .int p0), (1, .int p1), (2, .int y), (3, .int (x - x / y * y)), (4, .int (nI (i + 1)))]) rfl ?_
      exact ih (i + 1) (by omega) y _ (by rw [if_neg j15] at hq; exact hq)
set_option maxRecDepth 100000 in
theorem c_X4_commonDivisor {G : xx_G} {l : Launch} {A : xx_H} {x y : Int32} : xx_X G l mX4_commonDivisor 0 0 0 0 (lv_args 0 [.int x, .int y]) [] A (fun r B => r = .inl (some (.int (xx_cd 100 x y))) ∧ B = A) := by
  refine xx_clv (lv2 := [(0, .int x), (1, .int y)]) rfl ?_
  refine xx_iload_n dX4_commonDivisor_0 rfl ?_
  refine xx_istore_n dX4_commonDivisor_1 (by decide) ?_
  refine xx_clv (lv2 := [(0, .int x), (1, .int y), (2, .int x)]) rfl ?_
  refine xx_iload_n dX4_commonDivisor_2 rfl ?_
  refine xx_istore_n dX4_commonDivisor_3 (by decide) ?_
  refine xx_clv (lv2 := [(0, .int x), (1, .int y), (2, .int x), (3, .int y)]) rfl ?_
  refine xx_iconst (v := 0) dX4_commonDivisor_4 (by decide) ?_
  refine xx_istore dX4_commonDivisor_5 (by decide) ?_
  refine xx_clv (lv2 := [(0, .int x), (1, .int y), (2, .int x), (3, .int y), (4, .int 0)]) rfl ?_
  exact l_X4_cd 100 0 (by omega) x y ⟨rfl, rfl⟩
set_option maxRecDepth 100000 in
theorem l_X4_mw1 {G : xx_G} {l : Launch} {A : xx_H} {p ra rb rw o t : Nat} {a b : Nat → Int32} {Q : Option Value ⊕ String → xx_H → Prop} {le0 : Int32} (npb : p ≠ rb) (k : ∀ B : xx_H, B.1 = A.1 → B.2 p = xx_o 4 [.int (nI o), .int (nI t), .int (yy_lcm b 36), .int le0, .ref ra, .ref rb, .ref rw] → (∀ q, q ≠ p → B.2 q = A.2 q) → xx_X G l mX4_makeWhole 1 0 0 55 [(0, .ref p), (1, .int (nI 36))] [] B Q) :
    ∀ (r i : Nat), i + r = 36 → ∀ B : xx_H, B.1 = A.1 → B.2 p = xx_o 4 [.int (nI o), .int (nI t), .int (yy_lcm b i), .int le0, .ref ra, .ref rb, .ref rw] → B.2 rb = xx_i 36 b → (∀ q, q ≠ p → B.2 q = A.2 q) → xx_X G l mX4_makeWhole 1 0 0 7 [(0, .ref p), (1, .int (nI i))] [] B Q := by
  intro r
  induction r with
  | zero =>
    intro i hi B hz hp hb hfr
    have : i = 36 := by omega
    subst this
    refine xx_iload_n dX4_makeWhole_7 rfl ?_
    refine xx_aload_n dX4_makeWhole_8 rfl ?_
    refine xx_get xx_c4 dX4_makeWhole_9 wf_X4_28 (j := 5) (by decide) hp rfl ?_
    refine xx_alen (kd := 1) (v := nI 36) dX4_makeWhole_12 (by decide) hb rfl ?_
    refine xx_icmp_ge (tgt := 55) dX4_makeWhole_13 (by decide) (fun j13 => ?_) (fun h => absurd (Int32.le_refl _) h)
    exact k B hz hp hfr
  | succ r ih =>
    intro i hi B hz hp hb hfr
    refine xx_iload_n dX4_makeWhole_7 rfl ?_
    refine xx_aload_n dX4_makeWhole_8 rfl ?_
    refine xx_get xx_c4 dX4_makeWhole_9 wf_X4_28 (j := 5) (by decide) hp rfl ?_
    refine xx_alen (kd := 1) (v := nI 36) dX4_makeWhole_12 (by decide) hb rfl ?_
    refine xx_icmp_ge (tgt := 55) dX4_makeWhole_13 (by decide) (fun h => absurd h (nI_ge (by omega) (by omega))) (fun j13 => ?_)
    refine xx_aload_n dX4_makeWhole_16 rfl ?_
    refine xx_dup dX4_makeWhole_17 rfl ?_
    refine xx_get xx_c4 dX4_makeWhole_18 wf_X4_18 (j := 2) (by decide) hp rfl ?_
    refine xx_aload_n dX4_makeWhole_21 rfl ?_
    refine xx_get xx_c4 dX4_makeWhole_22 wf_X4_28 (j := 5) (by decide) hp rfl ?_
    refine xx_iload_n dX4_makeWhole_25 rfl ?_
    refine xx_iald dX4_makeWhole_26 hb (vp_in_nI (by omega) (by decide)) ?_
    refine xx_eqi (y := b i) (by rw [nI_clamp (by omega)]) ?_
    refine xx_iconst (v := 1) dX4_makeWhole_27 (by decide) ?_
    refine xx_aload_n dX4_makeWhole_28 rfl ?_
    refine xx_get xx_c4 dX4_makeWhole_29 wf_X4_18 (j := 2) (by decide) hp rfl ?_
    refine xx_aload_n dX4_makeWhole_32 rfl ?_
    refine xx_get xx_c4 dX4_makeWhole_33 wf_X4_28 (j := 5) (by decide) hp rfl ?_
    refine xx_iload_n dX4_makeWhole_36 rfl ?_
    refine xx_iald dX4_makeWhole_37 hb (vp_in_nI (by omega) (by decide)) ?_
    refine xx_eqi (y := b i) (by rw [nI_clamp (by omega)]) ?_
    refine xx_callS (N := mX4_commonDivisor) (vs := [.int (yy_lcm b i), .int (b i)]) (rest := [.int 1, .int (b i), .int (yy_lcm b i), .ref p]) (d2 := 0) (c2 := 0) (s2 := 0) (c3 := 0) (s3 := 0) dX4_makeWhole_38 wm_X4_49 ws_X4_commonDivisor wz_X4 (by decide) nX4_commonDivisor ⟨pX4_commonDivisor, Nat.le_of_ble_eq_true rfl, by decide, Nat.le_of_ble_eq_true rfl, by decide, by decide⟩ c_X4_commonDivisor (fun v C hC => ?_) (fun E C hC => absurd hC.1 (by simp))
    obtain ⟨hv, rfl⟩ := hC
    cases hv
    refine xx_cst (st2 := [.int (xx_cd 100 (yy_lcm b i) (b i)), .int 1, .int (b i), .int (yy_lcm b i), .ref p]) rfl ?_
    refine xx_mmax dX4_makeWhole_41 xx_mth4max (by decide) (Nat.le_of_ble_eq_true rfl) ?_
    refine xx_eqi (y := xx_m1 (xx_cd 100 (yy_lcm b i) (b i))) rfl ?_
    refine xx_idiv dX4_makeWhole_44 (xx_m1_ne _) ?_
    refine xx_imul dX4_makeWhole_45 ?_
    refine xx_put xx_c4 dX4_makeWhole_46 wf_X4_18 (j := 2) (by decide) rfl rfl rfl hp (Nat.le_of_ble_eq_true rfl) (xx_gu fun A1 z1 h1 o1 => ?_)
    have h1 : A1.2 p = xx_o 4 [.int (nI o), .int (nI t), .int (((yy_lcm b i)) * (((b i) / (xx_m1 (xx_cd 100 (yy_lcm b i) (b i)))))), .int le0, .ref ra, .ref rb, .ref rw] := h1
    have hb_1 := (o1 rb (by omega)).trans hb
    refine xx_iinc (v := nI (i + 1)) dX4_makeWhole_49 rfl (nI_1 i) (by decide) ?_
    refine xx_goto (tgt := 7) dX4_makeWhole_52 (by decide) ?_
    refine xx_clv (lv2 := [(0, .ref p), (1, .int (nI (i + 1)))]) rfl ?_
    exact ih (i + 1) (by omega) _ (by omega) h1 hb_1 (fun q hq => by rw [o1 q hq]; exact hfr q hq)
set_option maxRecDepth 100000 in
theorem l_X4_mw3 {G : xx_G} {l : Launch} {A : xx_H} {p ra rb rw o t : Nat} {a b : Nat → Int32} {Q : Option Value ⊕ String → xx_H → Prop} {m : Int32} {R : Nat} (hR : R < 6) (ht : t ≤ 6) (npa : p ≠ ra) (npb : p ≠ rb) (npw : p ≠ rw) (nwa : rw ≠ ra) (nwb : rw ≠ rb) {s0 : (Nat → Int32) × Int32} (k : ∀ B : xx_H, B.1 = A.1 → B.2 p = xx_o 4 [.int (nI o), .int (nI t), .int m, .int (xx_wi a b m R t s0).2, .ref ra, .ref rb, .ref rw] → B.2 rw = xx_i 36 (xx_wi a b m R t s0).1 → (∀ q, q ≠ p → q ≠ rw → B.2 q = A.2 q) → xx_X G l mX4_makeWhole 1 0 0 139 [(0, .ref p), (1, .int (nI R))] [] B Q) (ha : A.2 ra = xx_i 36 a) (hb : A.2 rb = xx_i 36 b) :
    ∀ (r i : Nat), i + r = t → ∀ B : xx_H, B.1 = A.1 → B.2 p = xx_o 4 [.int (nI o), .int (nI t), .int m, .int (xx_wi a b m R i s0).2, .ref ra, .ref rb, .ref rw] → B.2 rw = xx_i 36 (xx_wi a b m R i s0).1 → (∀ q, q ≠ p → q ≠ rw → B.2 q = A.2 q) → xx_X G l mX4_makeWhole 1 0 0 73 [(0, .ref p), (1, .int (nI R)), (2, .int (nI i))] [] B Q := by
  intro r
  induction r with
  | zero =>
    intro i hi B hz hp hw hfr
    have : i = t := by omega
    subst this
    refine xx_iload_n dX4_makeWhole_73 rfl ?_
    refine xx_aload_n dX4_makeWhole_74 rfl ?_
    refine xx_get xx_c4 dX4_makeWhole_75 wf_X4_15 (j := 1) (by decide) hp rfl ?_
    refine xx_icmp_ge (tgt := 139) dX4_makeWhole_78 (by decide) (fun j78 => ?_) (fun h => absurd (Int32.le_refl _) h)
    refine xx_less [0, 1] ?_
    refine xx_clv (lv2 := [(0, .ref p), (1, .int (nI R))]) rfl ?_
    exact k B hz hp hw hfr
  | succ r ih =>
    intro i hi B hz hp hw hfr
    have ha' := (hfr ra (Ne.symm npa) (Ne.symm nwa)).trans ha
    have hb' := (hfr rb (Ne.symm npb) (Ne.symm nwb)).trans hb
    refine xx_iload_n dX4_makeWhole_73 rfl ?_
    refine xx_aload_n dX4_makeWhole_74 rfl ?_
    refine xx_get xx_c4 dX4_makeWhole_75 wf_X4_15 (j := 1) (by decide) hp rfl ?_
    refine xx_icmp_ge (tgt := 139) dX4_makeWhole_78 (by decide) (fun h => absurd h (nI_ge (by omega) (by omega))) (fun j78 => ?_)
    refine xx_iload_n dX4_makeWhole_81 rfl ?_
    refine xx_bipush (v := 6) dX4_makeWhole_82 (by decide) ?_
    refine xx_imul dX4_makeWhole_84 ?_
    refine xx_iload_n dX4_makeWhole_85 rfl ?_
    refine xx_iadd dX4_makeWhole_86 ?_
    refine xx_eqi (y := nI (R * 6 + i)) (xx_i6 _ _) ?_
    refine xx_istore_n dX4_makeWhole_87 (by decide) ?_
    refine xx_clv (lv2 := [(0, .ref p), (1, .int (nI R)), (2, .int (nI i)), (3, .int (nI (R * 6 + i)))]) rfl ?_
    refine xx_aload_n dX4_makeWhole_88 rfl ?_
    refine xx_get xx_c4 dX4_makeWhole_89 wf_X4_31 (j := 6) (by decide) hp rfl ?_
    refine xx_iload_n dX4_makeWhole_92 rfl ?_
    refine xx_aload_n dX4_makeWhole_93 rfl ?_
    refine xx_get xx_c4 dX4_makeWhole_94 wf_X4_24 (j := 4) (by decide) hp rfl ?_
    refine xx_iload_n dX4_makeWhole_97 rfl ?_
    refine xx_iald dX4_makeWhole_98 ha' (vp_in_nI (by omega) (by decide)) ?_
    refine xx_eqi (y := a (R * 6 + i)) (by rw [nI_clamp (by omega)]) ?_
    refine xx_aload_n dX4_makeWhole_99 rfl ?_
    refine xx_get xx_c4 dX4_makeWhole_100 wf_X4_18 (j := 2) (by decide) hp rfl ?_
    refine xx_iconst (v := 1) dX4_makeWhole_103 (by decide) ?_
    refine xx_aload_n dX4_makeWhole_104 rfl ?_
    refine xx_get xx_c4 dX4_makeWhole_105 wf_X4_28 (j := 5) (by decide) hp rfl ?_
    refine xx_iload_n dX4_makeWhole_108 rfl ?_
    refine xx_iald dX4_makeWhole_109 hb' (vp_in_nI (by omega) (by decide)) ?_
    refine xx_eqi (y := b (R * 6 + i)) (by rw [nI_clamp (by omega)]) ?_
    refine xx_mmax dX4_makeWhole_110 xx_mth4max (by decide) (Nat.le_of_ble_eq_true rfl) ?_
    refine xx_eqi (y := xx_m1 (b (R * 6 + i))) rfl ?_
    refine xx_idiv dX4_makeWhole_113 (xx_m1_ne _) ?_
    refine xx_imul dX4_makeWhole_114 ?_
    refine xx_iast dX4_makeWhole_115 hw (vp_in_nI (by omega) (by decide)) (xx_gu fun A1 z1 h1 o1 => ?_)
    rw [nI_clamp (by omega)] at h1
    have h1 : A1.2 rw = xx_i 36 (upd (xx_wi a b m R i s0).1 (R * 6 + i) ((((a (R * 6 + i))) * ((m / (xx_m1 (b (R * 6 + i)))))))) := h1
    have hp_1 := (o1 p (by omega)).trans hp
    have ha'_1 := (o1 ra (by omega)).trans ha'
    have hb'_1 := (o1 rb (by omega)).trans hb'
    refine xx_aload_n dX4_makeWhole_116 rfl ?_
    refine xx_aload_n dX4_makeWhole_117 rfl ?_
    refine xx_get xx_c4 dX4_makeWhole_118 wf_X4_21 (j := 3) (by decide) hp_1 rfl ?_
    refine xx_aload_n dX4_makeWhole_121 rfl ?_
    refine xx_get xx_c4 dX4_makeWhole_122 wf_X4_31 (j := 6) (by decide) hp_1 rfl ?_
    refine xx_iload_n dX4_makeWhole_125 rfl ?_
    refine xx_iald dX4_makeWhole_126 h1 (vp_in_nI (by omega) (by decide)) ?_
    refine xx_eqi (y := a (R * 6 + i) * (m / xx_m1 (b (R * 6 + i)))) (by rw [nI_clamp (by omega)]; exact pk_us) ?_
    refine xx_mmin dX4_makeWhole_127 xx_mth4min (by decide) (Nat.le_of_ble_eq_true rfl) ?_
    refine xx_put xx_c4 dX4_makeWhole_130 wf_X4_21 (j := 3) (by decide) rfl rfl rfl hp_1 (Nat.le_of_ble_eq_true rfl) (xx_gu fun A2 z2 h2 o2 => ?_)
    have h2 : A2.2 p = xx_o 4 [.int (nI o), .int (nI t), .int m, .int (if a (R * 6 + i) * (m / xx_m1 (b (R * 6 + i))) < (xx_wi a b m R i s0).2 then a (R * 6 + i) * (m / xx_m1 (b (R * 6 + i))) else (xx_wi a b m R i s0).2), .ref ra, .ref rb, .ref rw] := h2
    have ha'_2 := (o2 ra (by omega)).trans ha'_1
    have hb'_2 := (o2 rb (by omega)).trans hb'_1
    have h1_2 := (o2 rw (by omega)).trans h1
    refine xx_iinc (v := nI (i + 1)) dX4_makeWhole_133 rfl (nI_1 i) (by decide) ?_
    refine xx_goto (tgt := 73) dX4_makeWhole_136 (by decide) ?_
    refine xx_clv (lv2 := [(0, .ref p), (1, .int (nI R)), (2, .int (nI (i + 1))), (3, .int (nI (R * 6 + i)))]) rfl ?_
    refine xx_less [0, 1, 2] ?_
    refine xx_clv (lv2 := [(0, .ref p), (1, .int (nI R)), (2, .int (nI (i + 1)))]) rfl ?_
    exact ih (i + 1) (by omega) _ (by omega) h2 h1_2 (fun q hq1 hq2 => by rw [o2 q (by assumption), o1 q (by assumption)]; exact hfr q hq1 hq2)
set_option maxRecDepth 100000 in
theorem l_X4_mw2 {G : xx_G} {l : Launch} {A : xx_H} {p ra rb rw o t : Nat} {a b : Nat → Int32} {Q : Option Value ⊕ String → xx_H → Prop} {m : Int32} (ho : o ≤ 6) (ht : t ≤ 6) (npa : p ≠ ra) (npb : p ≠ rb) (npw : p ≠ rw) (nwa : rw ≠ ra) (nwb : rw ≠ rb) {s0 : (Nat → Int32) × Int32} (k : ∀ B : xx_H, B.1 = A.1 → B.2 p = xx_o 4 [.int (nI o), .int (nI t), .int m, .int (xx_wo a b m t o s0).2, .ref ra, .ref rb, .ref rw] → B.2 rw = xx_i 36 (xx_wo a b m t o s0).1 → (∀ q, q ≠ p → q ≠ rw → B.2 q = A.2 q) → Q (.inl none) B) (ha : A.2 ra = xx_i 36 a) (hb : A.2 rb = xx_i 36 b) :
    ∀ (r i : Nat), i + r = o → ∀ B : xx_H, B.1 = A.1 → B.2 p = xx_o 4 [.int (nI o), .int (nI t), .int m, .int (xx_wo a b m t i s0).2, .ref ra, .ref rb, .ref rw] → B.2 rw = xx_i 36 (xx_wo a b m t i s0).1 → (∀ q, q ≠ p → q ≠ rw → B.2 q = A.2 q) → xx_X G l mX4_makeWhole 1 0 0 63 [(0, .ref p), (1, .int (nI i))] [] B Q := by
  intro r
  induction r with
  | zero =>
    intro i hi B hz hp hw hfr
    have : i = o := by omega
    subst this
    refine xx_iload_n dX4_makeWhole_63 rfl ?_
    refine xx_aload_n dX4_makeWhole_64 rfl ?_
    refine xx_get xx_c4 dX4_makeWhole_65 wf_X4_9 (j := 0) (by decide) hp rfl ?_
    refine xx_icmp_ge (tgt := 145) dX4_makeWhole_68 (by decide) (fun j68 => ?_) (fun h => absurd (Int32.le_refl _) h)
    exact xx_vret dX4_makeWhole_145 rfl (k B hz hp hw hfr)
  | succ r ih =>
    intro i hi B hz hp hw hfr
    have ha' := (hfr ra (Ne.symm npa) (Ne.symm nwa)).trans ha
    have hb' := (hfr rb (Ne.symm npb) (Ne.symm nwb)).trans hb
    refine xx_iload_n dX4_makeWhole_63 rfl ?_
    refine xx_aload_n dX4_makeWhole_64 rfl ?_
    refine xx_get xx_c4 dX4_makeWhole_65 wf_X4_9 (j := 0) (by decide) hp rfl ?_
    refine xx_icmp_ge (tgt := 145) dX4_makeWhole_68 (by decide) (fun h => absurd h (nI_ge (by omega) (by omega))) (fun j68 => ?_)
    refine xx_iconst (v := 0) dX4_makeWhole_71 (by decide) ?_
    refine xx_istore_n dX4_makeWhole_72 (by decide) ?_
    refine xx_clv (lv2 := [(0, .ref p), (1, .int (nI i)), (2, .int 0)]) rfl ?_
    refine xx_clv (lv2 := [(0, .ref p), (1, .int (nI i)), (2, .int (nI 0))]) rfl ?_
    refine l_X4_mw3 (A := B) (o := o) (t := t) (m := m) (R := i) (s0 := xx_wo a b m t i s0) (by omega) ht npa npb npw nwa nwb (fun C y1 y2 y3 y4 => ?_) ha' hb' t 0 (by omega) B rfl hp hw (fun q _ _ => rfl)
    refine xx_iinc (v := nI (i + 1)) dX4_makeWhole_139 rfl (nI_1 i) (by decide) ?_
    refine xx_goto (tgt := 63) dX4_makeWhole_142 (by decide) ?_
    refine xx_clv (lv2 := [(0, .ref p), (1, .int (nI (i + 1)))]) rfl ?_
    exact ih (i + 1) (by omega) C (by omega) y2 y3 (fun q h1 h2 => (y4 q h1 h2).trans (hfr q h1 h2))
set_option maxRecDepth 100000 in
theorem c_X4_makeWhole {G : xx_G} {l : Launch} {A : xx_H} {p ra rb rw o t : Nat} {a b : Nat → Int32} {w : Nat → Int32} {m0 le0 : Int32} (ho : o ≤ 6) (ht : t ≤ 6) (nwa : rw ≠ ra) (nwb : rw ≠ rb) (hp : A.2 p = xx_o 4 [.int (nI o), .int (nI t), .int m0, .int le0, .ref ra, .ref rb, .ref rw]) (ha : A.2 ra = xx_i 36 a) (hb : A.2 rb = xx_i 36 b) (hw : A.2 rw = xx_i 36 w) :
    xx_X G l mX4_makeWhole 1 0 0 0 (lv_args 0 [.ref p]) [] A (fun r B => r = .inl none ∧ B.1 = A.1 ∧ B.2 p = xx_o 4 [.int (nI o), .int (nI t), .int (yy_lcm b 36), .int (xx_wo a b (yy_lcm b 36) t o (w, 2147483647)).2, .ref ra, .ref rb, .ref rw] ∧ B.2 rw = xx_i 36 (xx_wo a b (yy_lcm b 36) t o (w, 2147483647)).1 ∧ ∀ q, q ≠ p → q ≠ rw → B.2 q = A.2 q) := by
  have npa := xx_oi hp ha
  have npb := xx_oi hp hb
  have npw := xx_oi hp hw
  refine xx_clv (lv2 := [(0, .ref p)]) rfl ?_
  refine xx_aload_n dX4_makeWhole_0 rfl ?_
  refine xx_iconst (v := 1) dX4_makeWhole_1 (by decide) ?_
  refine xx_put xx_c4 dX4_makeWhole_2 wf_X4_18 (j := 2) (by decide) rfl rfl rfl hp (Nat.le_of_ble_eq_true rfl) (xx_gu fun A1 z1 h1 o1 => ?_)
  have h1 : A1.2 p = xx_o 4 [.int (nI o), .int (nI t), .int 1, .int le0, .ref ra, .ref rb, .ref rw] := h1
  have hb_1 := (o1 rb (by omega)).trans hb
  have ha_1 := (o1 ra (by omega)).trans ha
  have hw_1 := (o1 rw (by omega)).trans hw
  refine xx_iconst (v := 0) dX4_makeWhole_5 (by decide) ?_
  refine xx_istore_n dX4_makeWhole_6 (by decide) ?_
  refine xx_clv (lv2 := [(0, .ref p), (1, .int 0)]) rfl ?_
  refine xx_clv (lv2 := [(0, .ref p), (1, .int (nI 0))]) rfl ?_
  refine l_X4_mw1 (A := A1) (a := a) (b := b) npb (fun B y1 y2 y3 => ?_) 36 0 (by omega) A1 rfl h1 hb_1 (fun q _ => rfl)
  have ga := (y3 ra (Ne.symm npa)).trans ha_1
  have gb := (y3 rb (Ne.symm npb)).trans hb_1
  have gw := (y3 rw (Ne.symm npw)).trans hw_1
  refine xx_aload_n dX4_makeWhole_55 rfl ?_
  refine xx_ldc (v := 2147483647) dX4_makeWhole_56 wk_X4_78 ?_
  refine xx_put xx_c4 dX4_makeWhole_58 wf_X4_21 (j := 3) (by decide) rfl rfl rfl y2 (Nat.le_of_ble_eq_true rfl) (xx_gu fun A3 z3 h3 o3 => ?_)
  have h3 : A3.2 p = xx_o 4 [.int (nI o), .int (nI t), .int (yy_lcm b 36), .int 2147483647, .ref ra, .ref rb, .ref rw] := h3
  have ga_3 := (o3 ra (by omega)).trans ga
  have gb_3 := (o3 rb (by omega)).trans gb
  have gw_3 := (o3 rw (by omega)).trans gw
  refine xx_iconst (v := 0) dX4_makeWhole_61 (by decide) ?_
  refine xx_istore_n dX4_makeWhole_62 (by decide) ?_
  refine xx_clv (lv2 := [(0, .ref p), (1, .int 0)]) rfl ?_
  refine xx_clv (lv2 := [(0, .ref p), (1, .int (nI 0))]) rfl ?_
  refine l_X4_mw2 (A := A3) (o := o) (t := t) (m := yy_lcm b 36) (s0 := (w, 2147483647)) ho ht npa npb npw nwa nwb (fun C x1 x2 x3 x4 => ⟨rfl, by omega, x2, x3, fun q h1 h2 => ?_⟩) ga_3 gb_3 o 0 (by omega) A3 rfl h3 gw_3 (fun q _ _ => rfl)
  rw [x4 q h1 h2, o3 q h1, y3 q h1, o1 q h1]
