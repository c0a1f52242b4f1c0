/-! ===== the reference: common, changed ===== -/
def yy_abs (x : Int64) : Int64 := if x < 0 then -x else x
def yy_cm : Nat → Int64 → Int64 → Int64
  | 0, x, _ => yy_abs x
  | n + 1, x, y => if y = 0 then yy_abs x else yy_cm n y (x - x / y * y)
def yy_ce : Nat → Int64 → Int64 → Prop
  | 0, _, y => y = 0
  | n + 1, x, y => y = 0 ∨ yy_ce n y (x - x / y * y)
theorem yy_rem (x y : Int64) (h : ¬ y = 0) : (x - x / y * y).toInt = x.toInt.tmod y.toInt := by
  have hy1 := Int64.le_toInt y
  have hy2 := Int64.toInt_lt y
  have h0 : y.toInt ≠ 0 := fun e => h (Int64.toInt_inj.mp e)
  rw [Int64.toInt_sub, Int64.toInt_mul, Int64.toInt_div, Int.sub_bmod_bmod]
  have e : (x.toInt - (x.toInt.tdiv y.toInt).bmod (2 ^ 64) * y.toInt).bmod (2 ^ 64) = (x.toInt - x.toInt.tdiv y.toInt * y.toInt).bmod (2 ^ 64) := by
    rw [← Int.sub_bmod_bmod, Int.bmod_mul_bmod, Int.sub_bmod_bmod]
  rw [e, Int.mul_comm, ← Int.tmod_def]
  have hn := Int.natAbs_tmod x.toInt y.toInt
  have hl : x.toInt.natAbs % y.toInt.natAbs < y.toInt.natAbs := Nat.mod_lt _ (by omega)
  exact Int.bmod_eq_of_le (by omega) (by omega)
theorem yy_remlt (x y : Int64) (h : ¬ y = 0) : (x - x / y * y).toInt.natAbs < y.toInt.natAbs := by
  have h0 : y.toInt ≠ 0 := fun e => h (Int64.toInt_inj.mp e)
  rw [yy_rem x y h, Int.natAbs_tmod]
  exact Nat.mod_lt _ (by omega)
theorem yy_ends : ∀ (n : Nat) (x y : Int64), y.toInt.natAbs ≤ n → yy_ce n x y
  | 0, x, y, h => by
    show y = 0
    exact Int64.toInt_inj.mp (by have : y.toInt.natAbs = 0 := by omega
                                 show y.toInt = 0
                                 omega)
  | n + 1, x, y, h => by
    by_cases e : y = 0
    · exact Or.inl e
    · exact Or.inr (yy_ends n y _ (by have := yy_remlt x y e; omega))
def yy_g (x y : Int64) : Int64 := yy_cm y.toInt.natAbs x y
/-- what the loop makes is the greatest common divisor -/
theorem yy_cm_gcd : ∀ (n : Nat) (x y : Int64), yy_ce n x y → -2 ^ 63 < x.toInt → -2 ^ 63 < y.toInt → (yy_cm n x y).toInt = Nat.gcd x.toInt.natAbs y.toInt.natAbs
  | 0, x, y, h, hx, hy => by
    have e : y = 0 := h
    subst e
    show (yy_abs x).toInt = _
    have hx2 := Int64.toInt_lt x
    unfold yy_abs
    split
    · rename_i h
      rw [Int64.lt_iff_toInt_lt] at h
      have h : x.toInt < 0 := h
      rw [Int64.toInt_neg, Int.bmod_eq_of_le (by omega) (by omega)]
      show _ = ((Nat.gcd x.toInt.natAbs 0 : Nat) : Int)
      rw [Nat.gcd_zero_right]
      omega
    · rename_i h
      rw [Int64.lt_iff_toInt_lt] at h
      have h : ¬ x.toInt < 0 := h
      show _ = ((Nat.gcd x.toInt.natAbs 0 : Nat) : Int)
      rw [Nat.gcd_zero_right]
      omega
  | n + 1, x, y, h, hx, hy => by
    unfold yy_cm
    split
    · rename_i e
      subst e
      exact yy_cm_gcd 0 x 0 rfl hx hy
    · rename_i e
      have h2 : yy_ce n y (x - x / y * y) := h.resolve_left e
      have h3 := yy_rem x y e
      have h4 := yy_remlt x y e
      have h5 := Int64.toInt_lt y
      rw [yy_cm_gcd n y _ h2 hy (by omega), h3, Int.natAbs_tmod, Nat.gcd_comm, ← Nat.gcd_rec, Nat.gcd_comm]
theorem yy_g_toInt (x y : Int64) (hx : -2 ^ 63 < x.toInt) (hy : -2 ^ 63 < y.toInt) : (yy_g x y).toInt = Nat.gcd x.toInt.natAbs y.toInt.natAbs := yy_cm_gcd _ x y (yy_ends _ x y (Nat.le_refl _)) hx hy
set_option maxRecDepth 100000 in
theorem l_X9_common {G : xx_G} {l : Launch} {A : xx_H} {a0 b0 : Int64} {Q : Option Value ⊕ String → xx_H → Prop} :
    ∀ (n : Nat) (x y : Int64), yy_ce n x y → Q (.inl (some (.long (yy_cm n x y)))) A → xx_X G l mX9_common 0 0 0 6 [(0, .long a0), (2, .long b0), (4, .long x), (6, .long y)] [] A Q := by
  intro n
  induction n with
  | zero =>
    intro x y he hq
    have e : y = 0 := he
    subst e
    refine xx_lload dX9_common_6 rfl ?_
    refine xx_lconst (v := 0) dX9_common_8 (by decide) ?_
    refine xx_lcmp dX9_common_9 ?_
    refine xx_eqi (y := 0) (by decide) ?_
    refine xx_if_eq (tgt := 31) dX9_common_10 (by decide) (fun j10 => ?_) (fun h => absurd (by decide) h)
    refine xx_lload dX9_common_31 rfl ?_
    refine xx_lconst (v := 0) dX9_common_33 (by decide) ?_
    refine xx_lcmp dX9_common_34 ?_
    refine xx_if_ge (tgt := 44) dX9_common_35 (by decide) (fun j35 => ?_) (fun j35 => ?_)
    · refine xx_lload dX9_common_44 rfl ?_
      refine xx_lret dX9_common_46 rfl ?_
      have e9 : yy_cm 0 x 0 = yy_abs x := rfl
      rw [e9] at hq
      unfold yy_abs at hq
      rw [if_neg (Int64.not_lt.mpr ((lg_cmp_ge _ _).mp j35))] at hq
      exact hq
    · refine xx_lload dX9_common_38 rfl ?_
      refine xx_lneg dX9_common_40 ?_
      refine xx_goto (tgt := 46) dX9_common_41 (by decide) ?_
      refine xx_lret dX9_common_46 rfl ?_
      have e9 : yy_cm 0 x 0 = yy_abs x := rfl
      rw [e9] at hq
      unfold yy_abs at hq
      rw [if_pos (Int64.not_le.mp (fun q => j35 ((lg_cmp_ge _ _).mpr q)))] at hq
      exact hq
  | succ n ih =>
    intro x y he hq
    refine xx_lload dX9_common_6 rfl ?_
    refine xx_lconst (v := 0) dX9_common_8 (by decide) ?_
    refine xx_lcmp dX9_common_9 ?_
    refine xx_if_eq (tgt := 31) dX9_common_10 (by decide) (fun j10 => ?_) (fun j10 => ?_)
    · refine xx_lload dX9_common_31 rfl ?_
      refine xx_lconst (v := 0) dX9_common_33 (by decide) ?_
      refine xx_lcmp dX9_common_34 ?_
      refine xx_if_ge (tgt := 44) dX9_common_35 (by decide) (fun j35 => ?_) (fun j35 => ?_)
      · refine xx_lload dX9_common_44 rfl ?_
        refine xx_lret dX9_common_46 rfl ?_
        have e9 : yy_cm (n + 1) x y = yy_abs x := by unfold yy_cm; rw [if_pos ((lg_cmp_eq _ _).mp j10)]
        rw [e9] at hq
        unfold yy_abs at hq
        rw [if_neg (Int64.not_lt.mpr ((lg_cmp_ge _ _).mp j35))] at hq
        exact hq
      · refine xx_lload dX9_common_38 rfl ?_
        refine xx_lneg dX9_common_40 ?_
        refine xx_goto (tgt := 46) dX9_common_41 (by decide) ?_
        refine xx_lret dX9_common_46 rfl ?_
        have e9 : yy_cm (n + 1) x y = yy_abs x := by unfold yy_cm; rw [if_pos ((lg_cmp_eq _ _).mp j10)]
        rw [e9] at hq
        unfold yy_abs at hq
        rw [if_pos (Int64.not_le.mp (fun q => j35 ((lg_cmp_ge _ _).mpr q)))] at hq
        exact hq
    · refine xx_lload dX9_common_13 rfl ?_
      refine xx_lload dX9_common_15 rfl ?_
      refine xx_lrem dX9_common_17 (fun q => j10 ((lg_cmp_eq _ _).mpr q)) ?_
      refine xx_lstore dX9_common_18 (by decide) ?_
      refine xx_clv (lv2 := [(0, .long a0), (2, .long b0), (4, .long x), (6, .long y), (8, .long (x - x / y * y))]) rfl ?_
      refine xx_lload dX9_common_20 rfl ?_
      refine xx_lstore dX9_common_22 (by decide) ?_
      refine xx_clv (lv2 := [(0, .long a0), (2, .long b0), (4, .long y), (6, .long y), (8, .long (x - x / y * y))]) rfl ?_
      refine xx_lload dX9_common_24 rfl ?_
      refine xx_lstore dX9_common_26 (by decide) ?_
      refine xx_clv (lv2 := [(0, .long a0), (2, .long b0), (4, .long y), (6, .long (x - x / y * y)), (8, .long (x - x / y * y))]) rfl ?_
      refine xx_goto (tgt := 6) dX9_common_28 (by decide) ?_
      refine xx_less [0, 2, 4, 6] ?_
      refine xx_clv (lv2 := [(0, .long a0), (2, .long b0), (4, .long y), (6, .long (x - x / y * y))]) rfl ?_
      have ne : ¬ y = 0 := fun q => j10 ((lg_cmp_eq _ _).mpr q)
      have e9 : yy_cm (n + 1) x y = yy_cm n y (x - x / y * y) := by rw [yy_cm, if_neg ne]
      rw [e9] at hq
      exact ih y _ (he.resolve_left ne) hq
set_option maxRecDepth 100000 in
theorem c_X9_common {G : xx_G} {l : Launch} {A : xx_H} {x y : Int64} : xx_X G l mX9_common 0 0 0 0 (lv_args 0 [.long x, .long y]) [] A (fun r B => r = .inl (some (.long (yy_g x y))) ∧ B = A) := by
  refine xx_clv (lv2 := [(0, .long x), (2, .long y)]) rfl ?_
  refine xx_lload_n dX9_common_0 rfl ?_
  refine xx_lstore dX9_common_1 (by decide) ?_
  refine xx_clv (lv2 := [(0, .long x), (2, .long y), (4, .long x)]) rfl ?_
  refine xx_lload_n dX9_common_3 rfl ?_
  refine xx_lstore dX9_common_4 (by decide) ?_
  refine xx_clv (lv2 := [(0, .long x), (2, .long y), (4, .long x), (6, .long y)]) rfl ?_
  exact l_X9_common _ x y (yy_ends _ x y (Nat.le_refl _)) ⟨rfl, rfl⟩
/-- any array is pictured by what it holds -/
theorem xx_rep {G : xx_G} {l : Launch} {M : xx_M} {d c1 s1 pc : Nat} {lv : List (Nat × Value)} {st : List Value} {A : xx_H} {Q : Option Value ⊕ String → xx_H → Prop} {a n kd : Nat} {f : Nat → Value} (g : Nat → Value) (hk : kd ∈ xx_ks) (hA : A.2 a = (kd, n, f)) (h : ∀ j, j < n → f j = g j)
    (k : ∀ B : xx_H, B.1 = A.1 → B.2 a = (kd, n, g) → (∀ q, q ≠ a → B.2 q = A.2 q) → xx_X G l M d c1 s1 pc lv st B Q) : xx_X G l M d c1 s1 pc lv st A Q := by
  intro p e R s m args below meth c H locs cells slots ls ho
  obtain ⟨h1, h2, h3, h4, h5, h6⟩ := ho
  refine k (xx_up A a (kd, n, g)) rfl (xx_up_s A a _) (fun q hq => xx_up_n hq) p e R s m args below meth c H locs cells slots ls ⟨h1, h2, h3, ?_, h5, h6⟩
  obtain ⟨hb, hc⟩ := xx_arr h4 hA hk
  refine xx_R.set h4 hb rfl (fun q _ => rfl) ?_
  refine Or.inr (Or.inr (Or.inl ⟨hk, hb, ?_⟩))
  rw [hc]
  have e : arrV (G.2.2 kd) n f = arrV (G.2.2 kd) n g := by
    unfold arrV
    congr 1
    apply Array.ext
    · simp
    · intro i q1 q2
      simp only [Array.getElem_ofFn]
      rw [h i (by simpa using q1)]
  exact congrArg some e
def yy_d (a b : Nat → Int32) (k : Nat) : Int64 := (b k).toInt64 / yy_g (a k).toInt64 (b k).toInt64
def yy_rl (a b : Nat → Int32) (p : Nat) : Nat → Int64
  | 0 => 1
  | k + 1 => yy_rl a b p k / yy_g (yy_rl a b p k) (yy_d a b (36 * p + k)) * yy_d a b (36 * p + k)
def yy_rx (a b : Nat → Int32) (l : Int64) (k : Nat) : Int64 := (a k).toInt64 * (l / (b k).toInt64) + (a k).toInt64 * (l - l / (b k).toInt64 * (b k).toInt64) / (b k).toInt64
def yy_rs (a b : Nat → Int32) (l : Int64) (k : Nat) (s : (Nat → Int64) × Int64) : (Nat → Int64) × Int64 := (vp_updL s.1 k (yy_rx a b l k), if yy_rx a b l k < s.2 then yy_rx a b l k else s.2)
def yy_ri (a b : Nat → Int32) (l : Int64) (p i : Nat) : Nat → (Nat → Int64) × Int64 → (Nat → Int64) × Int64
  | 0, s => s
  | j + 1, s => yy_rs a b l (36 * p + 6 * i + j) (yy_ri a b l p i j s)
def yy_ro (a b : Nat → Int32) (l : Int64) (p t : Nat) : Nat → (Nat → Int64) × Int64 → (Nat → Int64) × Int64
  | 0, s => s
  | i + 1, s => yy_ri a b l p i t (yy_ro a b l p t i s)
theorem yy_uu {f : Nat → Int64} {k : Nat} {x y : Int64} : vp_updL (vp_updL f k x) k y = vp_updL f k y := by
  funext j
  unfold vp_updL
  split <;> rfl
theorem yy_36 (p k : Nat) : 36 * nI p + nI k = nI (36 * p + k) := by rw [show (36 : Int32) = nI 36 from rfl, pk_mul, nI_add]
theorem yy_366 (p i j : Nat) : 36 * nI p + 6 * nI i + nI j = nI (36 * p + 6 * i + j) := by rw [show (36 : Int32) = nI 36 from rfl, show (6 : Int32) = nI 6 from rfl, pk_mul, pk_mul, nI_add, nI_add]
/-- what the divisors of changed must be -/
def yy_ok (a b : Nat → Int32) (p : Nat) : Prop := ∀ k, k < 36 → ¬ yy_g (a (36 * p + k)).toInt64 (b (36 * p + k)).toInt64 = 0 ∧ ¬ yy_g (yy_rl a b p k) (yy_d a b (36 * p + k)) = 0 ∧ ¬ (b (36 * p + k)).toInt64 = 0
set_option maxRecDepth 100000 in
theorem l_X9_ch1 {G : xx_G} {l : Launch} {A : xx_H} {c a o t : Nat} {af bf : Nat → Int32} {u0 u10 u11 u15 u16 u27 : Value} {Q : Option Value ⊕ String → xx_H → Prop} (hc : c < a) (k : ∀ (B : xx_H) (f : Nat → Int32), B.1 = A.1 → B.2 (a + 12) = xx_z 12 f → (∀ j, j < 12 → f j = 1) → (∀ q, q ≠ a + 12 → B.2 q = A.2 q) → xx_X G l mX9_changed 1 0 0 41 [(0, .ref c), (1, .int (nI 12))] [] B Q) (hb : A.2 c = xx_o 9 [u0, .ref a, .ref (a + 1), .ref (a + 2), .int (nI o), .int (nI t), .ref (a + 3), .ref (a + 4), .ref (a + 5), .ref (a + 6), u10, u11, .ref (a + 7), .ref (a + 8), .ref (a + 9), u15, u16, .ref (a + 10), .ref (a + 11), .ref (a + 12), .ref (a + 13), .ref (a + 14), .ref (a + 15), .ref (a + 16), .ref (a + 17), .ref (a + 18), .ref (a + 19), u27, .ref (a + 20)]) :
    ∀ (r i : Nat), i + r = 12 → ∀ (B : xx_H) (f : Nat → Int32), B.1 = A.1 → B.2 (a + 12) = xx_z 12 f → (∀ j, j < i → f j = 1) → (∀ q, q ≠ a + 12 → B.2 q = A.2 q) → xx_X G l mX9_changed 1 0 0 22 [(0, .ref c), (1, .int (nI i))] [] B Q := by
  intro r
  induction r with
  | zero =>
    intro i hi B f hz hw hf hfr
    have : i = 12 := by omega
    subst this
    refine xx_iload_n dX9_changed_22 rfl ?_
    refine xx_bipush (v := 12) dX9_changed_23 (by decide) ?_
    refine xx_icmp_ge (tgt := 41) dX9_changed_25 (by decide) (fun j25 => ?_) (fun h => absurd (Int32.le_refl _) h)
    exact k B f hz hw hf hfr
  | succ r ih =>
    intro i hi B f hz hw hf hfr
    have hb2 := (hfr c (by omega)).trans hb
    refine xx_iload_n dX9_changed_22 rfl ?_
    refine xx_bipush (v := 12) dX9_changed_23 (by decide) ?_
    refine xx_icmp_ge (tgt := 41) dX9_changed_25 (by decide) (fun h => absurd h (nI_ge (b := 12) (by omega) (by omega))) (fun j25 => ?_)
    refine xx_aload_n dX9_changed_28 rfl ?_
    refine xx_get xx_c9 dX9_changed_29 wf_X9_51 (j := 19) (by decide) hb2 rfl ?_
    refine xx_iload_n dX9_changed_32 rfl ?_
    refine xx_iconst (v := 1) dX9_changed_33 (by decide) ?_
    refine xx_zast dX9_changed_34 hw (vp_in_nI (by omega) (by decide)) (xx_gu fun C z1 h1 o1 => ?_)
    rw [nI_clamp (by omega)] at h1
    refine xx_iinc (v := nI (i + 1)) dX9_changed_35 rfl (nI_1 i) (by decide) ?_
    refine xx_goto (tgt := 22) dX9_changed_38 (by decide) ?_
    refine xx_clv (lv2 := [(0, .ref c), (1, .int (nI (i + 1)))]) rfl ?_
    refine ih (i + 1) (by omega) C (upd f i (vp_nar .boolean 1)) (by omega) h1 (fun j hj => ?_) (fun q hq => (o1 q hq).trans (hfr q hq))
    by_cases e : j = i
    · subst e; rw [pk_us]; rfl
    · rw [pk_un e]; exact hf j (by omega)
set_option maxRecDepth 100000 in
theorem l_X9_ch2 {G : xx_G} {l : Launch} {A : xx_H} {c a o t : Nat} {af bf : Nat → Int32} {u0 u10 u11 u15 u16 u27 : Value} {Q : Option Value ⊕ String → xx_H → Prop} {P : Nat} (hP : P < 2) (ok : yy_ok af bf P) (hb : A.2 c = xx_o 9 [u0, .ref a, .ref (a + 1), .ref (a + 2), .int (nI o), .int (nI t), .ref (a + 3), .ref (a + 4), .ref (a + 5), .ref (a + 6), u10, u11, .ref (a + 7), .ref (a + 8), .ref (a + 9), u15, u16, .ref (a + 10), .ref (a + 11), .ref (a + 12), .ref (a + 13), .ref (a + 14), .ref (a + 15), .ref (a + 16), .ref (a + 17), .ref (a + 18), .ref (a + 19), u27, .ref (a + 20)]) (ha : A.2 (a + 3) = xx_i 72 af) (hd : A.2 (a + 4) = xx_i 72 bf) (k : xx_X G l mX9_changed 1 0 0 127 [(0, .ref c), (1, .int (nI P)), (2, .long (yy_rl af bf P 36)), (4, .int (nI 36))] [] A Q) :
    ∀ (r i : Nat), i + r = 36 → xx_X G l mX9_changed 1 0 0 53 [(0, .ref c), (1, .int (nI P)), (2, .long (yy_rl af bf P i)), (4, .int (nI i))] [] A Q := by
  intro r
  induction r with
  | zero =>
    intro i hi
    have : i = 36 := by omega
    subst this
    refine xx_iload dX9_changed_53 rfl ?_
    refine xx_bipush (v := 36) dX9_changed_55 (by decide) ?_
    refine xx_icmp_ge (tgt := 127) dX9_changed_57 (by decide) (fun j57 => ?_) (fun h => absurd (Int32.le_refl _) h)
    exact k
  | succ r ih =>
    intro i hi
    obtain ⟨k1, k2, k3⟩ := ok i (by omega)
    refine xx_iload dX9_changed_53 rfl ?_
    refine xx_bipush (v := 36) dX9_changed_55 (by decide) ?_
    refine xx_icmp_ge (tgt := 127) dX9_changed_57 (by decide) (fun h => absurd h (nI_ge (b := 36) (by omega) (by omega))) (fun j57 => ?_)
    refine xx_aload_n dX9_changed_60 rfl ?_
    refine xx_get xx_c9 dX9_changed_61 wf_X9_20 (j := 6) (by decide) hb rfl ?_
    refine xx_bipush (v := 36) dX9_changed_64 (by decide) ?_
    refine xx_iload_n dX9_changed_66 rfl ?_
    refine xx_imul dX9_changed_67 ?_
    refine xx_iload dX9_changed_68 rfl ?_
    refine xx_iadd dX9_changed_70 ?_
    refine xx_eqi (y := nI (36 * P + i)) (yy_36 _ _) ?_
    refine xx_iald dX9_changed_71 ha (vp_in_nI (by omega) (by decide)) ?_
    refine xx_eqi (y := af (36 * P + i)) (by rw [nI_clamp (by omega)]) ?_
    refine xx_i2l dX9_changed_72 ?_
    refine xx_aload_n dX9_changed_73 rfl ?_
    refine xx_get xx_c9 dX9_changed_74 wf_X9_23 (j := 7) (by decide) hb rfl ?_
    refine xx_bipush (v := 36) dX9_changed_77 (by decide) ?_
    refine xx_iload_n dX9_changed_79 rfl ?_
    refine xx_imul dX9_changed_80 ?_
    refine xx_iload dX9_changed_81 rfl ?_
    refine xx_iadd dX9_changed_83 ?_
    refine xx_eqi (y := nI (36 * P + i)) (yy_36 _ _) ?_
    refine xx_iald dX9_changed_84 hd (vp_in_nI (by omega) (by decide)) ?_
    refine xx_eqi (y := bf (36 * P + i)) (by rw [nI_clamp (by omega)]) ?_
    refine xx_i2l dX9_changed_85 ?_
    refine xx_callS (N := mX9_common) (vs := [.long (((af (36 * P + i))).toInt64), .long (((bf (36 * P + i))).toInt64)]) (rest := []) (d2 := 0) (c2 := 0) (s2 := 0) (c3 := 0) (s3 := 0) dX9_changed_86 wm_X9_139 ws_X9_common wz_X9 (by decide) nX9_common ⟨pX9_common, Nat.le_of_ble_eq_true rfl, by decide, Nat.le_of_ble_eq_true rfl, by decide, by decide⟩ c_X9_common (fun v C hC => ?_) (fun E C hC => absurd hC.1 (by simp))
    obtain ⟨hv, rfl⟩ := hC
    cases hv
    refine xx_cst (st2 := [.long (yy_g (((af (36 * P + i))).toInt64) (((bf (36 * P + i))).toInt64))]) rfl ?_
    refine xx_lstore dX9_changed_89 (by decide) ?_
    refine xx_clv (lv2 := [(0, .ref c), (1, .int (nI P)), (2, .long (yy_rl af bf P i)), (4, .int (nI i)), (5, .long (yy_g (((af (36 * P + i))).toInt64) (((bf (36 * P + i))).toInt64)))]) rfl ?_
    refine xx_aload_n dX9_changed_91 rfl ?_
    refine xx_get xx_c9 dX9_changed_92 wf_X9_23 (j := 7) (by decide) hb rfl ?_
    refine xx_bipush (v := 36) dX9_changed_95 (by decide) ?_
    refine xx_iload_n dX9_changed_97 rfl ?_
    refine xx_imul dX9_changed_98 ?_
    refine xx_iload dX9_changed_99 rfl ?_
    refine xx_iadd dX9_changed_101 ?_
    refine xx_eqi (y := nI (36 * P + i)) (yy_36 _ _) ?_
    refine xx_iald dX9_changed_102 hd (vp_in_nI (by omega) (by decide)) ?_
    refine xx_eqi (y := bf (36 * P + i)) (by rw [nI_clamp (by omega)]) ?_
    refine xx_i2l dX9_changed_103 ?_
    refine xx_lload dX9_changed_104 rfl ?_
    refine xx_ldiv dX9_changed_106 k1 ?_
    refine xx_eql (y := yy_d af bf (36 * P + i)) rfl ?_
    refine xx_lstore dX9_changed_107 (by decide) ?_
    refine xx_clv (lv2 := [(0, .ref c), (1, .int (nI P)), (2, .long (yy_rl af bf P i)), (4, .int (nI i)), (5, .long (yy_g (((af (36 * P + i))).toInt64) (((bf (36 * P + i))).toInt64))), (7, .long (yy_d af bf (36 * P + i)))]) rfl ?_
    refine xx_lload_n dX9_changed_109 rfl ?_
    refine xx_lload_n dX9_changed_110 rfl ?_
    refine xx_lload dX9_changed_111 rfl ?_
    refine xx_callS (N := mX9_common) (vs := [.long (yy_rl af bf P i), .long (yy_d af bf (36 * P + i))]) (rest := [.long (yy_rl af bf P i)]) (d2 := 0) (c2 := 0) (s2 := 0) (c3 := 0) (s3 := 0) dX9_changed_113 wm_X9_139 ws_X9_common wz_X9 (by decide) nX9_common ⟨pX9_common, Nat.le_of_ble_eq_true rfl, by decide, Nat.le_of_ble_eq_true rfl, by decide, by decide⟩ c_X9_common (fun v C hC => ?_) (fun E C hC => absurd hC.1 (by simp))
    obtain ⟨hv, rfl⟩ := hC
    cases hv
    refine xx_cst (st2 := [.long (yy_g (yy_rl af bf P i) (yy_d af bf (36 * P + i))), .long (yy_rl af bf P i)]) rfl ?_
    refine xx_ldiv dX9_changed_116 k2 ?_
    refine xx_lload dX9_changed_117 rfl ?_
    refine xx_lmul dX9_changed_119 ?_
    refine xx_lstore_n dX9_changed_120 (by decide) ?_
    refine xx_clv (lv2 := [(0, .ref c), (1, .int (nI P)), (2, .long ((((yy_rl af bf P i) / (yy_g (yy_rl af bf P i) (yy_d af bf (36 * P + i))))) * ((yy_d af bf (36 * P + i))))), (4, .int (nI i)), (5, .long (yy_g (((af (36 * P + i))).toInt64) (((bf (36 * P + i))).toInt64))), (7, .long (yy_d af bf (36 * P + i)))]) rfl ?_
    refine xx_iinc (v := nI (i + 1)) dX9_changed_121 rfl (nI_1 i) (by decide) ?_
    refine xx_goto (tgt := 53) dX9_changed_124 (by decide) ?_
    refine xx_less [0, 1, 2, 4] ?_
    refine xx_clv (lv2 := [(0, .ref c), (1, .int (nI P)), (2, .long (yy_rl af bf P (i + 1))), (4, .int (nI (i + 1)))]) rfl ?_
    exact ih (i + 1) (by omega)
set_option maxRecDepth 100000 in
theorem l_X9_ch3 {G : xx_G} {l : Launch} {A : xx_H} {c a o t : Nat} {af bf : Nat → Int32} {u0 u10 u11 u15 u16 u27 : Value} {Q : Option Value ⊕ String → xx_H → Prop} {P R : Nat} {L : Int64} {lf : Nat → Int64} {s0 : (Nat → Int64) × Int64} (hc : c < a) (hP : P < 2) (hR : R < 6) (ht : t ≤ 6) (ok : yy_ok af bf P) (hb : A.2 c = xx_o 9 [u0, .ref a, .ref (a + 1), .ref (a + 2), .int (nI o), .int (nI t), .ref (a + 3), .ref (a + 4), .ref (a + 5), .ref (a + 6), u10, u11, .ref (a + 7), .ref (a + 8), .ref (a + 9), u15, u16, .ref (a + 10), .ref (a + 11), .ref (a + 12), .ref (a + 13), .ref (a + 14), .ref (a + 15), .ref (a + 16), .ref (a + 17), .ref (a + 18), .ref (a + 19), u27, .ref (a + 20)]) (ha : A.2 (a + 3) = xx_i 72 af) (hd : A.2 (a + 4) = xx_i 72 bf) (k : ∀ B : xx_H, B.1 = A.1 → B.2 (a + 14) = xx_l 72 (yy_ri af bf L P R t s0).1 → B.2 (a + 15) = xx_l 2 (vp_updL lf P (yy_ri af bf L P R t s0).2) → (∀ q, q ≠ a + 14 → q ≠ a + 15 → B.2 q = A.2 q) → xx_X G l mX9_changed 1 0 0 282 [(0, .ref c), (1, .int (nI P)), (2, .long L), (4, .int (nI R))] [] B Q) :
    ∀ (r i : Nat), i + r = t → ∀ B : xx_H, B.1 = A.1 → B.2 (a + 14) = xx_l 72 (yy_ri af bf L P R i s0).1 → B.2 (a + 15) = xx_l 2 (vp_updL lf P (yy_ri af bf L P R i s0).2) → (∀ q, q ≠ a + 14 → q ≠ a + 15 → B.2 q = A.2 q) → xx_X G l mX9_changed 1 0 0 158 [(0, .ref c), (1, .int (nI P)), (2, .long L), (4, .int (nI R)), (5, .int (nI i))] [] B Q := by
  intro r
  induction r with
  | zero =>
    intro i hi B hz hw hl hfr
    have : i = t := by omega
    subst this
    have hb2 := (hfr c (by omega) (by omega)).trans hb
    refine xx_iload dX9_changed_158 rfl ?_
    refine xx_aload_n dX9_changed_160 rfl ?_
    refine xx_get xx_c9 dX9_changed_161 wf_X9_123 (j := 5) (by decide) hb2 rfl ?_
    refine xx_icmp_ge (tgt := 282) dX9_changed_164 (by decide) (fun j164 => ?_) (fun h => absurd (Int32.le_refl _) h)
    refine xx_less [0, 1, 2, 4] ?_
    refine xx_clv (lv2 := [(0, .ref c), (1, .int (nI P)), (2, .long L), (4, .int (nI R))]) rfl ?_
    exact k B hz hw hl hfr
  | succ r ih =>
    intro i hi B hz hw hl hfr
    have hb2 := (hfr c (by omega) (by omega)).trans hb
    have ha2 := (hfr (a + 3) (by omega) (by omega)).trans ha
    have hd2 := (hfr (a + 4) (by omega) (by omega)).trans hd
    have e0 : 36 * P + (6 * R + i) = 36 * P + 6 * R + i := by omega
    obtain ⟨k1, k2, k3⟩ := ok (6 * R + i) (by omega)
    rw [e0] at k3
    refine xx_iload dX9_changed_158 rfl ?_
    refine xx_aload_n dX9_changed_160 rfl ?_
    refine xx_get xx_c9 dX9_changed_161 wf_X9_123 (j := 5) (by decide) hb2 rfl ?_
    refine xx_icmp_ge (tgt := 282) dX9_changed_164 (by decide) (fun h => absurd h (nI_ge (by omega) (by omega))) (fun j164 => ?_)
    refine xx_bipush (v := 36) dX9_changed_167 (by decide) ?_
    refine xx_iload_n dX9_changed_169 rfl ?_
    refine xx_imul dX9_changed_170 ?_
    refine xx_bipush (v := 6) dX9_changed_171 (by decide) ?_
    refine xx_iload dX9_changed_173 rfl ?_
    refine xx_imul dX9_changed_175 ?_
    refine xx_iadd dX9_changed_176 ?_
    refine xx_iload dX9_changed_177 rfl ?_
    refine xx_iadd dX9_changed_179 ?_
    refine xx_eqi (y := nI (36 * P + 6 * R + i)) (yy_366 _ _ _) ?_
    refine xx_istore dX9_changed_180 (by decide) ?_
    refine xx_clv (lv2 := [(0, .ref c), (1, .int (nI P)), (2, .long L), (4, .int (nI R)), (5, .int (nI i)), (6, .int (nI (36 * P + 6 * R + i)))]) rfl ?_
    refine xx_aload_n dX9_changed_182 rfl ?_
    refine xx_get xx_c9 dX9_changed_183 wf_X9_59 (j := 21) (by decide) hb2 rfl ?_
    refine xx_iload dX9_changed_186 rfl ?_
    refine xx_aload_n dX9_changed_188 rfl ?_
    refine xx_get xx_c9 dX9_changed_189 wf_X9_20 (j := 6) (by decide) hb2 rfl ?_
    refine xx_iload dX9_changed_192 rfl ?_
    refine xx_iald dX9_changed_194 ha2 (vp_in_nI (by omega) (by decide)) ?_
    refine xx_eqi (y := af (36 * P + 6 * R + i)) (by rw [nI_clamp (by omega)]) ?_
    refine xx_i2l dX9_changed_195 ?_
    refine xx_lload_n dX9_changed_196 rfl ?_
    refine xx_aload_n dX9_changed_197 rfl ?_
    refine xx_get xx_c9 dX9_changed_198 wf_X9_23 (j := 7) (by decide) hb2 rfl ?_
    refine xx_iload dX9_changed_201 rfl ?_
    refine xx_iald dX9_changed_203 hd2 (vp_in_nI (by omega) (by decide)) ?_
    refine xx_eqi (y := bf (36 * P + 6 * R + i)) (by rw [nI_clamp (by omega)]) ?_
    refine xx_i2l dX9_changed_204 ?_
    refine xx_ldiv dX9_changed_205 k3 ?_
    refine xx_lmul dX9_changed_206 ?_
    refine xx_aload_n dX9_changed_207 rfl ?_
    refine xx_get xx_c9 dX9_changed_208 wf_X9_20 (j := 6) (by decide) hb2 rfl ?_
    refine xx_iload dX9_changed_211 rfl ?_
    refine xx_iald dX9_changed_213 ha2 (vp_in_nI (by omega) (by decide)) ?_
    refine xx_eqi (y := af (36 * P + 6 * R + i)) (by rw [nI_clamp (by omega)]) ?_
    refine xx_i2l dX9_changed_214 ?_
    refine xx_lload_n dX9_changed_215 rfl ?_
    refine xx_aload_n dX9_changed_216 rfl ?_
    refine xx_get xx_c9 dX9_changed_217 wf_X9_23 (j := 7) (by decide) hb2 rfl ?_
    refine xx_iload dX9_changed_220 rfl ?_
    refine xx_iald dX9_changed_222 hd2 (vp_in_nI (by omega) (by decide)) ?_
    refine xx_eqi (y := bf (36 * P + 6 * R + i)) (by rw [nI_clamp (by omega)]) ?_
    refine xx_i2l dX9_changed_223 ?_
    refine xx_lrem dX9_changed_224 k3 ?_
    refine xx_lmul dX9_changed_225 ?_
    refine xx_aload_n dX9_changed_226 rfl ?_
    refine xx_get xx_c9 dX9_changed_227 wf_X9_23 (j := 7) (by decide) hb2 rfl ?_
    refine xx_iload dX9_changed_230 rfl ?_
    refine xx_iald dX9_changed_232 hd2 (vp_in_nI (by omega) (by decide)) ?_
    refine xx_eqi (y := bf (36 * P + 6 * R + i)) (by rw [nI_clamp (by omega)]) ?_
    refine xx_i2l dX9_changed_233 ?_
    refine xx_ldiv dX9_changed_234 k3 ?_
    refine xx_ladd dX9_changed_235 ?_
    refine xx_eql (y := yy_rx af bf L (36 * P + 6 * R + i)) rfl ?_
    refine xx_last dX9_changed_236 hw (vp_in_nI (by omega) (by decide)) (xx_gu fun A1 z1 h1 o1 => ?_)
    rw [nI_clamp (by omega)] at h1
    have h1 : A1.2 (a + 14) = xx_l 72 (vp_updL (yy_ri af bf L P R i s0).1 (36 * P + 6 * R + i) (yy_rx af bf L (36 * P + 6 * R + i))) := h1
    have hb2_1 := (o1 c (by omega)).trans hb2
    have ha2_1 := (o1 (a + 3) (by omega)).trans ha2
    have hd2_1 := (o1 (a + 4) (by omega)).trans hd2
    have hl_1 := (o1 (a + 15) (by omega)).trans hl
    refine xx_aload_n dX9_changed_237 rfl ?_
    refine xx_get xx_c9 dX9_changed_238 wf_X9_62 (j := 22) (by decide) hb2_1 rfl ?_
    refine xx_iload_n dX9_changed_241 rfl ?_
    refine xx_aload_n dX9_changed_242 rfl ?_
    refine xx_get xx_c9 dX9_changed_243 wf_X9_59 (j := 21) (by decide) hb2_1 rfl ?_
    refine xx_iload dX9_changed_246 rfl ?_
    refine xx_lald dX9_changed_248 h1 (vp_in_nI (by omega) (by decide)) ?_
    refine xx_eql (y := yy_rx af bf L (36 * P + 6 * R + i)) (by rw [nI_clamp (by omega)]; exact pk_uLs) ?_
    refine xx_aload_n dX9_changed_249 rfl ?_
    refine xx_get xx_c9 dX9_changed_250 wf_X9_62 (j := 22) (by decide) hb2_1 rfl ?_
    refine xx_iload_n dX9_changed_253 rfl ?_
    refine xx_lald dX9_changed_254 hl_1 (vp_in_nI (by omega) (by decide)) ?_
    refine xx_eql (y := (yy_ri af bf L P R i s0).2) (by rw [nI_clamp (by omega)]; exact pk_uLs) ?_
    refine xx_lcmp dX9_changed_255 ?_
    refine xx_if_ge (tgt := 269) dX9_changed_256 (by decide) (fun j256 => ?_) (fun j256 => ?_)
    · refine xx_aload_n dX9_changed_269 rfl ?_
      refine xx_get xx_c9 dX9_changed_270 wf_X9_62 (j := 22) (by decide) hb2_1 rfl ?_
      refine xx_iload_n dX9_changed_273 rfl ?_
      refine xx_lald dX9_changed_274 hl_1 (vp_in_nI (by omega) (by decide)) ?_
      refine xx_eql (y := (yy_ri af bf L P R i s0).2) (by rw [nI_clamp (by omega)]; exact pk_uLs) ?_
      refine xx_last dX9_changed_275 hl_1 (vp_in_nI (by omega) (by decide)) (xx_gu fun A2 z2 h2 o2 => ?_)
      rw [nI_clamp (by omega), yy_uu] at h2
      have h2 : A2.2 (a + 15) = xx_l 2 (vp_updL lf P (((yy_ri af bf L P R i s0).2))) := h2
      have hb2_2 := (o2 c (by omega)).trans hb2_1
      have ha2_2 := (o2 (a + 3) (by omega)).trans ha2_1
      have hd2_2 := (o2 (a + 4) (by omega)).trans hd2_1
      have h1_2 := (o2 (a + 14) (by omega)).trans h1
      refine xx_iinc (v := nI (i + 1)) dX9_changed_276 rfl (nI_1 i) (by decide) ?_
      refine xx_goto (tgt := 158) dX9_changed_279 (by decide) ?_
      refine xx_less [0, 1, 2, 4, 5] ?_
      refine xx_clv (lv2 := [(0, .ref c), (1, .int (nI P)), (2, .long L), (4, .int (nI R)), (5, .int (nI (i + 1)))]) rfl ?_
      refine ih (i + 1) (by omega) _ (by omega) h1_2 ?_ (fun q h1 h2 => by rw [o2 q (by omega), o1 q (by omega)]; exact hfr q h1 h2)
      have e1 : (yy_ri af bf L P R (i + 1) s0).2 = (yy_ri af bf L P R i s0).2 := if_neg (Int64.not_lt.mpr ((lg_cmp_ge _ _).mp j256))
      rw [e1]
      exact h2
    · refine xx_aload_n dX9_changed_259 rfl ?_
      refine xx_get xx_c9 dX9_changed_260 wf_X9_59 (j := 21) (by decide) hb2_1 rfl ?_
      refine xx_iload dX9_changed_263 rfl ?_
      refine xx_lald dX9_changed_265 h1 (vp_in_nI (by omega) (by decide)) ?_
      refine xx_eql (y := yy_rx af bf L (36 * P + 6 * R + i)) (by rw [nI_clamp (by omega)]; exact pk_uLs) ?_
      refine xx_goto (tgt := 275) dX9_changed_266 (by decide) ?_
      refine xx_last dX9_changed_275 hl_1 (vp_in_nI (by omega) (by decide)) (xx_gu fun A2 z2 h2 o2 => ?_)
      rw [nI_clamp (by omega), yy_uu] at h2
      have h2 : A2.2 (a + 15) = xx_l 2 (vp_updL lf P ((yy_rx af bf L (36 * P + 6 * R + i)))) := h2
      have hb2_2 := (o2 c (by omega)).trans hb2_1
      have ha2_2 := (o2 (a + 3) (by omega)).trans ha2_1
      have hd2_2 := (o2 (a + 4) (by omega)).trans hd2_1
      have h1_2 := (o2 (a + 14) (by omega)).trans h1
      refine xx_iinc (v := nI (i + 1)) dX9_changed_276 rfl (nI_1 i) (by decide) ?_
      refine xx_goto (tgt := 158) dX9_changed_279 (by decide) ?_
      refine xx_less [0, 1, 2, 4, 5] ?_
      refine xx_clv (lv2 := [(0, .ref c), (1, .int (nI P)), (2, .long L), (4, .int (nI R)), (5, .int (nI (i + 1)))]) rfl ?_
      refine ih (i + 1) (by omega) _ (by omega) h1_2 ?_ (fun q h1 h2 => by rw [o2 q (by omega), o1 q (by omega)]; exact hfr q h1 h2)
      have e1 : (yy_ri af bf L P R (i + 1) s0).2 = yy_rx af bf L (36 * P + 6 * R + i) := if_pos (Int64.not_le.mp (fun q => j256 ((lg_cmp_ge _ _).mpr q)))
      rw [e1]
      exact h2
set_option maxRecDepth 100000 in
theorem l_X9_ch4 {G : xx_G} {l : Launch} {A : xx_H} {c a o t : Nat} {af bf : Nat → Int32} {u0 u10 u11 u15 u16 u27 : Value} {Q : Option Value ⊕ String → xx_H → Prop} {P : Nat} {L : Int64} {lf : Nat → Int64} {s0 : (Nat → Int64) × Int64} (hc : c < a) (hP : P < 2) (ho : o ≤ 6) (ht : t ≤ 6) (ok : yy_ok af bf P) (hb : A.2 c = xx_o 9 [u0, .ref a, .ref (a + 1), .ref (a + 2), .int (nI o), .int (nI t), .ref (a + 3), .ref (a + 4), .ref (a + 5), .ref (a + 6), u10, u11, .ref (a + 7), .ref (a + 8), .ref (a + 9), u15, u16, .ref (a + 10), .ref (a + 11), .ref (a + 12), .ref (a + 13), .ref (a + 14), .ref (a + 15), .ref (a + 16), .ref (a + 17), .ref (a + 18), .ref (a + 19), u27, .ref (a + 20)]) (ha : A.2 (a + 3) = xx_i 72 af) (hd : A.2 (a + 4) = xx_i 72 bf) (k : ∀ B : xx_H, B.1 = A.1 → B.2 (a + 14) = xx_l 72 (yy_ro af bf L P t o s0).1 → B.2 (a + 15) = xx_l 2 (vp_updL lf P (yy_ro af bf L P t o s0).2) → (∀ q, q ≠ a + 14 → q ≠ a + 15 → B.2 q = A.2 q) → xx_X G l mX9_changed 1 0 0 288 [(0, .ref c), (1, .int (nI P))] [] B Q) :
    ∀ (r i : Nat), i + r = o → ∀ B : xx_H, B.1 = A.1 → B.2 (a + 14) = xx_l 72 (yy_ro af bf L P t i s0).1 → B.2 (a + 15) = xx_l 2 (vp_updL lf P (yy_ro af bf L P t i s0).2) → (∀ q, q ≠ a + 14 → q ≠ a + 15 → B.2 q = A.2 q) → xx_X G l mX9_changed 1 0 0 146 [(0, .ref c), (1, .int (nI P)), (2, .long L), (4, .int (nI i))] [] B Q := by
  intro r
  induction r with
  | zero =>
    intro i hi B hz hw hl hfr
    have : i = o := by omega
    subst this
    have hb2 := (hfr c (by omega) (by omega)).trans hb
    refine xx_iload dX9_changed_146 rfl ?_
    refine xx_aload_n dX9_changed_148 rfl ?_
    refine xx_get xx_c9 dX9_changed_149 wf_X9_120 (j := 4) (by decide) hb2 rfl ?_
    refine xx_icmp_ge (tgt := 288) dX9_changed_152 (by decide) (fun j152 => ?_) (fun h => absurd (Int32.le_refl _) h)
    refine xx_less [0, 1] ?_
    refine xx_clv (lv2 := [(0, .ref c), (1, .int (nI P))]) rfl ?_
    exact k B hz hw hl hfr
  | succ r ih =>
    intro i hi B hz hw hl hfr
    have hb2 := (hfr c (by omega) (by omega)).trans hb
    have ha2 := (hfr (a + 3) (by omega) (by omega)).trans ha
    have hd2 := (hfr (a + 4) (by omega) (by omega)).trans hd
    refine xx_iload dX9_changed_146 rfl ?_
    refine xx_aload_n dX9_changed_148 rfl ?_
    refine xx_get xx_c9 dX9_changed_149 wf_X9_120 (j := 4) (by decide) hb2 rfl ?_
    refine xx_icmp_ge (tgt := 288) dX9_changed_152 (by decide) (fun h => absurd h (nI_ge (by omega) (by omega))) (fun j152 => ?_)
    refine xx_iconst (v := 0) dX9_changed_155 (by decide) ?_
    refine xx_istore dX9_changed_156 (by decide) ?_
    refine xx_clv (lv2 := [(0, .ref c), (1, .int (nI P)), (2, .long L), (4, .int (nI i)), (5, .int 0)]) rfl ?_
    refine xx_clv (lv2 := [(0, .ref c), (1, .int (nI P)), (2, .long L), (4, .int (nI i)), (5, .int (nI 0))]) rfl ?_
    refine l_X9_ch3 (A := B) (R := i) (s0 := yy_ro af bf L P t i s0) hc hP (by omega) ht ok hb2 ha2 hd2 (fun C y1 y2 y3 y4 => ?_) t 0 (by omega) B rfl hw hl (fun q _ _ => rfl)
    refine xx_iinc (v := nI (i + 1)) dX9_changed_282 rfl (nI_1 i) (by decide) ?_
    refine xx_goto (tgt := 146) dX9_changed_285 (by decide) ?_
    refine xx_clv (lv2 := [(0, .ref c), (1, .int (nI P)), (2, .long L), (4, .int (nI (i + 1)))]) rfl ?_
    exact ih (i + 1) (by omega) C (by omega) y2 y3 (fun q h1 h2 => (y4 q h1 h2).trans (hfr q h1 h2))
