/-! ===== the reference's divide ===== -/
/-- the reference's fields: its arrays stand behind it -/
abbrev xx_mf (b : Nat) (th m n hr st hl en tu : Value) : List Value := [th, .ref (b + 1), .ref (b + 2), .ref (b + 3), m, n, .ref (b + 4), .ref (b + 5), .ref (b + 6), .ref (b + 7), hr, st, .ref (b + 8), .ref (b + 9), .ref (b + 10), hl, en, .ref (b + 11), .ref (b + 12), .ref (b + 13), .ref (b + 14), .ref (b + 15), .ref (b + 16), .ref (b + 17), .ref (b + 18), .ref (b + 19), .ref (b + 20), tu, .ref (b + 21)]
theorem yy_sh32 : ∀ k, k < 32 → ((nI k &&& 31).toBitVec.smod 32).toNat = k := by decide +kernel
theorem yy_ishl {n k : Nat} (hk : k < 32) (h : n * 2 ^ k < 2 ^ 32) : nI n <<< (nI k &&& 31) = nI (n * 2 ^ k) := pk_shlN _ k (yy_sh32 k hk) h
theorem yy_ishr {n k : Nat} (h : n < 2 ^ 31) (hk : k < 32) : nI n >>> (nI k &&& 31) = nI (n / 2 ^ k) := pk_shrN h _ k (yy_sh32 k hk)
theorem yy_or16 {a w k : Nat} (ha : a < 2 ^ k) (hk : k ≤ 16) (hw : w < 65536) : (nI a ||| (nI w <<< (nI k &&& 31))) &&& 65535 = nI ((w * 2 ^ k + a) % 65536) := by
  have h16 : 2 ^ k ≤ 2 ^ 16 := Nat.pow_le_pow_right (by decide) hk
  rw [pk_and _ (m := 65535) 16 (by decide), Int32.toBitVec_or, BitVec.toNat_or, pk_tn (n := a) (by omega), pk_shl _ _ k (yy_sh32 k (by omega)), pk_tn (n := w) (by omega)]
  congr 1
  show (a ||| w * 2 ^ k % 2 ^ 32) % 2 ^ 16 = (w * 2 ^ k + a) % 2 ^ 16
  rw [Nat.mul_comm w, Nat.two_pow_add_eq_or_of_lt ha, Nat.or_mod_two_pow, Nat.or_mod_two_pow, Nat.mod_mod_of_dvd _ (Nat.pow_dvd_pow 2 (by decide : 16 ≤ 32)), Nat.or_comm]
theorem yy_or16' {a w k : Nat} (ha : a < 2 ^ k) (hk : k ≤ 16) (hw : w < 65536) : ((nI w <<< (nI k &&& 31)) ||| nI a) &&& 65535 = nI ((w * 2 ^ k + a) % 65536) := by
  have e : (nI w <<< (nI k &&& 31)) ||| nI a = nI a ||| (nI w <<< (nI k &&& 31)) := Int32.or_comm _ _
  rw [e]; exact yy_or16 ha hk hw
theorem lz_lo16 (z : Int) : (lz z &&& 65535).toInt32 = nI (z % 65536).toNat := by
  rw [lz_mask z (k := 16) (by decide) 65535 (by decide), lz_i]
  show iz (z % 65536) = iz ((z % 65536).toNat : Int)
  rw [Int.toNat_of_nonneg (Int.emod_nonneg _ (by decide))]
theorem lz_hi16 {z : Int} (h1 : -2 ^ 63 ≤ z) (h2 : z < 2 ^ 63) : lz z >>> ((16 : Int32).toInt64 &&& 63) = lz (z / 65536) := lz_shr h1 h2 _ 16 (by decide)
theorem yy_tl16 (z : Int) : (z % 65536).toNat < 65536 := by omega
theorem yy_gr_st1 {β lead s2 x2 q r : Nat} (h : ¬ (β ≤ q ∨ r * β + x2 < q * s2)) : ∀ n, yy_gr β lead s2 x2 n (q, r) = (q, r)
  | 0 => rfl
  | n + 1 => by
    rw [yy_gr]
    by_cases e : r < β
    · rw [if_pos e, if_neg h]; exact yy_gr_st1 h n
    · rw [if_neg e]
theorem yy_gr_st2 {β lead s2 x2 q r : Nat} (h : β ≤ r) : ∀ n, yy_gr β lead s2 x2 n (q, r) = (q, r)
  | 0 => rfl
  | n + 1 => by rw [yy_gr, if_neg (by show ¬ r < β; omega)]
/-- what stands below, shifted -/
def yy_lo (X : Nat → Nat) (F j : Nat) : Nat := if j = 0 then 0 else X (j - 1) / F
theorem yy_lo_lt {X : Nat → Nat} {S F j : Nat} (hS : 0 < S) (h : ∀ i, i < j → X i < S * F) : yy_lo X F j < S := by
  unfold yy_lo
  by_cases e : j = 0
  · rw [if_pos e]; exact hS
  · rw [if_neg e]; exact Nat.div_lt_of_lt_mul (by rw [Nat.mul_comm]; exact h (j - 1) (by omega))
theorem yy_shd {S F x lo : Nat} (hF : 0 < F) (hlo : lo < S) : (x * S + lo) % (S * F) = (x % F) * S + lo ∧ x * S = (x % F) * S + S * F * (x / F) := by
  have e := Nat.mod_add_div x F
  have hb := Nat.mod_lt x hF
  generalize x % F = b at *
  generalize x / F = a at *
  have e2 : x * S = b * S + S * F * a := by rw [← e]; grind
  refine ⟨?_, e2⟩
  have h2 : b * S + lo < S * F := by
    have : (b + 1) * S ≤ F * S := Nat.mul_le_mul_right S hb
    rw [Nat.add_mul, Nat.one_mul, Nat.mul_comm F S] at this
    omega
  rw [e2, show b * S + S * F * a + lo = b * S + lo + S * F * a by omega, Nat.add_mul_mod_self_left, Nat.mod_eq_of_lt h2]
theorem yy_shv {S F : Nat} {X R : Nat → Nat} (hS : 0 < S) (hF : 0 < F) : ∀ n, (∀ j, j < n → R j = (X j * S + yy_lo X F j) % (S * F)) → (∀ j, j < n → X j < S * F) → yy_val (S * F) R n + yy_lo X F n * (S * F) ^ n = S * yy_val (S * F) X n
  | 0, _, _ => by show 0 + 0 * _ = S * 0; simp
  | n + 1, hR, hX => by
    have ih := yy_shv hS hF n (fun j hj => hR j (by omega)) (fun j hj => hX j (by omega))
    obtain ⟨d1, d2⟩ := yy_shd (x := X n) (lo := yy_lo X F n) hF (yy_lo_lt hS (fun i hi => hX i (by omega)))
    have e1 : yy_val (S * F) R (n + 1) = yy_val (S * F) R n + R n * (S * F) ^ n := rfl
    have e2 : yy_val (S * F) X (n + 1) = yy_val (S * F) X n + X n * (S * F) ^ n := rfl
    have e3 : yy_lo X F (n + 1) = X n / F := by unfold yy_lo; rw [if_neg (by omega), Nat.add_sub_cancel]
    rw [e1, e2, e3, hR n (by omega), d1, Nat.pow_succ]
    generalize yy_lo X F n = lo at *
    generalize X n % F = bb at *
    generalize X n / F = aa at *
    generalize hQ : S * F = Q at *
    generalize Q ^ n = P at *
    generalize X n = xn at *
    have e5 : S * (xn * P) = (xn * S) * P := by grind
    rw [Nat.mul_add, e5, d2]
    grind
/-- the guess, one digit or more -/
theorem yy_gw2 {sz s2 x2 : Nat} {X Y : Nat → Nat} (hs : 1 ≤ sz) (hX : ∀ i, i ≤ sz → X i < 65536) (hY : ∀ i, i < sz → Y i < 65536) (hn : 65536 ≤ 2 * Y (sz - 1)) (hW : yy_val 65536 X (sz + 1) < 65536 * yy_val 65536 Y sz)
    (h1 : 1 < sz → s2 = Y (sz - 2) ∧ x2 = X (sz - 2)) (h2 : ¬ 1 < sz → s2 = 0 ∧ x2 = 0) :
    yy_val 65536 X (sz + 1) / yy_val 65536 Y sz ≤ (yy_gr 65536 (Y (sz - 1)) s2 x2 3 ((X sz * 65536 + X (sz - 1)) / Y (sz - 1), (X sz * 65536 + X (sz - 1)) % Y (sz - 1))).1 ∧ (yy_gr 65536 (Y (sz - 1)) s2 x2 3 ((X sz * 65536 + X (sz - 1)) / Y (sz - 1), (X sz * 65536 + X (sz - 1)) % Y (sz - 1))).1 ≤ yy_val 65536 X (sz + 1) / yy_val 65536 Y sz + 1 ∧ (yy_gr 65536 (Y (sz - 1)) s2 x2 3 ((X sz * 65536 + X (sz - 1)) / Y (sz - 1), (X sz * 65536 + X (sz - 1)) % Y (sz - 1))).1 < 65536 := by
  by_cases e : 1 < sz
  · obtain ⟨rfl, rfl⟩ := h1 e
    exact yy_gw (by decide) (by omega) hX hY hn hW
  · obtain ⟨rfl, rfl⟩ := h2 e
    have e1 : sz = 1 := by omega
    subst e1
    have eX : yy_val 65536 X (1 + 1) = X 1 * 65536 + X (1 - 1) := by
      show 0 + X 0 * 65536 ^ 0 + X 1 * 65536 ^ 1 = X 1 * 65536 + X 0
      omega
    have eY : yy_val 65536 Y 1 = Y (1 - 1) := by
      show 0 + Y 0 * 65536 ^ 0 = Y 0
      omega
    rw [eX, eY] at hW ⊢
    have hq : (X 1 * 65536 + X (1 - 1)) / Y (1 - 1) < 65536 := Nat.div_lt_of_lt_mul (by rw [Nat.mul_comm (Y (1 - 1))]; exact hW)
    rw [yy_gr_st1 (by omega)]
    exact ⟨Nat.le_refl _, Nat.le_succ _, hq⟩
set_option maxRecDepth 100000 in
theorem l_X9_h1 {G : xx_G} {l : Launch} {A : xx_H} {b : Nat} {th m n hr st hl en tu : Value} {x y c d na nb top : Nat} {sg : Int32} {f : Nat → Int32} {Q : Option Value ⊕ String → xx_H → Prop} (hb : A.2 b = xx_o 9 (xx_mf b th m n hr st hl en tu)) (hf : A.2 (b + 1) = xx_i 69600 f) (hy : y < 1740) (hnb : 1 ≤ nb) (hnb2 : nb ≤ 40) (ht0 : 0 < top) (ht : f (40 * y + (nb - 1)) = nI top) (k : ∀ sh, sh ≤ 15 → 32768 ≤ top * 2 ^ sh → top * 2 ^ sh < 65536 → xx_X G l mX9_divide 1 0 0 113 [(0, .ref b), (1, .int (nI x)), (2, .int (nI y)), (3, .int (nI c)), (4, .int (nI d)), (5, .int (nI na)), (6, .int (nI nb)), (7, .int sg), (8, .int (nI sh))] [] A Q) :
    ∀ (t sh : Nat), sh + t = 16 → top * 2 ^ sh < 65536 → xx_X G l mX9_divide 1 0 0 85 [(0, .ref b), (1, .int (nI x)), (2, .int (nI y)), (3, .int (nI c)), (4, .int (nI d)), (5, .int (nI na)), (6, .int (nI nb)), (7, .int sg), (8, .int (nI sh))] [] A Q := by
  intro t
  induction t with
  | zero =>
    intro sh hs h
    have : sh = 16 := by omega
    subst this
    exact absurd h (by omega)
  | succ t ih =>
    intro sh hs h
    have e1 : 40 * y + nb - 1 = 40 * y + (nb - 1) := by omega
    have ht6 : top < 65536 := by
      have : top * 1 ≤ top * 2 ^ sh := Nat.mul_le_mul_left _ (Nat.two_pow_pos sh)
      omega
    obtain ⟨P, hP⟩ : ∃ P, P = top * 2 ^ sh := ⟨_, rfl⟩
    rw [← hP] at h
    refine xx_aload_n dX9_divide_85 rfl ?_
    refine xx_get xx_c9 dX9_divide_86 wf_X9_8 (j := 1) (by decide) hb rfl ?_
    refine xx_bipush (v := 40) dX9_divide_89 (by decide) ?_
    refine xx_iload_n dX9_divide_91 rfl ?_
    refine xx_imul dX9_divide_92 ?_
    refine xx_eqi (y := nI (40 * y)) (pk_mul 40 y) ?_
    refine xx_iload dX9_divide_93 rfl ?_
    refine xx_iadd dX9_divide_95 ?_
    refine xx_eqi (y := nI (40 * y + nb)) (nI_add (40 * y) nb) ?_
    refine xx_iconst (v := 1) dX9_divide_96 (by decide) ?_
    refine xx_isub dX9_divide_97 ?_
    refine xx_eqi (y := nI ((40 * y + nb) - 1)) (pk_sub (a := 40 * y + nb) (b := 1) (by omega)) ?_
    refine xx_eqi (y := nI (40 * y + (nb - 1))) (by rw [e1]) ?_
    refine xx_iald dX9_divide_98 hf (vp_in_nI (by omega) (by decide)) ?_
    refine xx_eqi (y := nI top) (by rw [nI_clamp (by omega)]; exact ht) ?_
    refine xx_iload dX9_divide_99 rfl ?_
    refine xx_ishl dX9_divide_101 ?_
    refine xx_eqi (y := nI P) (by rw [hP]; exact yy_ishl (by omega) (by omega)) ?_
    refine xx_ldc (v := 32768) dX9_divide_102 wk_X9_101 ?_
    refine xx_icmp_ge (tgt := 113) dX9_divide_104 (by decide) (fun j104 => ?_) (fun j104 => ?_)
    · have j104 : 32768 ≤ P := (nI_leI (a := 32768) (b := P) (by omega) (by omega)).mp j104
      exact k sh (by omega) (by omega) (by omega)
    · have j104 : ¬ 32768 ≤ P := fun hq9 => j104 ((nI_leI (a := 32768) (b := P) (by omega) (by omega)).mpr hq9)
      refine xx_iinc (v := nI (sh + 1)) dX9_divide_107 rfl (nI_1 sh) (by decide) ?_
      refine xx_goto (tgt := 85) dX9_divide_110 (by decide) ?_
      refine xx_clv (lv2 := [(0, .ref b), (1, .int (nI x)), (2, .int (nI y)), (3, .int (nI c)), (4, .int (nI d)), (5, .int (nI na)), (6, .int (nI nb)), (7, .int sg), (8, .int (nI (sh + 1)))]) rfl ?_
      exact ih (sh + 1) (by omega) (by rw [Nat.pow_succ, ← Nat.mul_assoc, ← hP]; omega)
set_option maxRecDepth 100000 in
theorem l_X9_h2 {G : xx_G} {l : Launch} {A : xx_H} {b : Nat} {th m n hr st hl en tu : Value} {x y c d na nb sh : Nat} {sg : Int32} {f : Nat → Int32} {X : Nat → Nat} {Q : Option Value ⊕ String → xx_H → Prop} (hb : A.2 b = xx_o 9 (xx_mf b th m n hr st hl en tu)) (hf : A.2 (b + 1) = xx_i 69600 f) (hx : x < 1740) (hna : na ≤ 40) (hsh : sh ≤ 15) (hX : ∀ i, i < na → X i < 65536 ∧ f (40 * x + i) = nI (X i)) (k : ∀ (B : xx_H) (f1 : Nat → Int32), B.1 = A.1 → B.2 (b + 17) = xx_i 42 f1 → (∀ j, j < (na + 1) → f1 j = nI ((yy_pad X na j * 2 ^ sh + yy_lo X (2 ^ (16 - sh)) j) % 65536)) → (∀ q, q ≠ b + 17 → B.2 q = A.2 q) → xx_X G l mX9_divide 1 0 0 203 [(0, .ref b), (1, .int (nI x)), (2, .int (nI y)), (3, .int (nI c)), (4, .int (nI d)), (5, .int (nI na)), (6, .int (nI nb)), (7, .int sg), (8, .int (nI sh))] [] B Q) :
    ∀ (t i : Nat), i + t = na + 1 → ∀ (B : xx_H) (f1 : Nat → Int32), B.1 = A.1 → B.2 (b + 17) = xx_i 42 f1 → (∀ j, j < i → f1 j = nI ((yy_pad X na j * 2 ^ sh + yy_lo X (2 ^ (16 - sh)) j) % 65536)) → (∀ q, q ≠ b + 17 → B.2 q = A.2 q) → xx_X G l mX9_divide 1 0 0 116 [(0, .ref b), (1, .int (nI x)), (2, .int (nI y)), (3, .int (nI c)), (4, .int (nI d)), (5, .int (nI na)), (6, .int (nI nb)), (7, .int sg), (8, .int (nI sh)), (9, .int (nI i))] [] B Q := by
  intro t
  induction t with
  | zero =>
    intro i hi B f1 y1 y2 y3 y4
    have : i = na + 1 := by omega
    subst this
    refine xx_iload dX9_divide_116 rfl ?_
    refine xx_iload dX9_divide_118 rfl ?_
    refine xx_icmp_gt (tgt := 203) dX9_divide_120 (by decide) (fun j120 => ?_) (fun h => absurd (nI_lt (by omega) (by omega)) h)
    refine xx_less [0, 1, 2, 3, 4, 5, 6, 7, 8] ?_
    refine xx_clv (lv2 := [(0, .ref b), (1, .int (nI x)), (2, .int (nI y)), (3, .int (nI c)), (4, .int (nI d)), (5, .int (nI na)), (6, .int (nI nb)), (7, .int sg), (8, .int (nI sh))]) rfl ?_
    exact k B f1 y1 y2 y3 y4
  | succ t ih =>
    intro i hi B f1 y1 y2 y3 y4
    have hb2 := (y4 b (by omega)).trans hb
    have hf2 := (y4 (b + 1) (by omega)).trans hf
    have ph : yy_pad X na i < 65536 := yy_padb (by decide) (fun j hj => (hX j hj).1) i
    have e16 : 2 ^ sh * 2 ^ (16 - sh) = 65536 := by rw [← Nat.pow_add, show sh + (16 - sh) = 16 by omega]
    have e1 : 40 * x + i - 1 = 40 * x + (i - 1) ∨ i = 0 := by omega
    have hlo : yy_lo X (2 ^ (16 - sh)) i < 2 ^ sh := yy_lo_lt (Nat.two_pow_pos sh) (fun j hj => by rw [e16]; exact (hX j (by omega)).1)
    refine xx_iload dX9_divide_116 rfl ?_
    refine xx_iload dX9_divide_118 rfl ?_
    refine xx_icmp_gt (tgt := 203) dX9_divide_120 (by decide) (fun h => absurd h (nI_nlt (by omega) (by omega))) (fun j120 => ?_)
    refine xx_iload dX9_divide_123 rfl ?_
    refine xx_iload dX9_divide_125 rfl ?_
    refine xx_icmp_ge (tgt := 145) dX9_divide_127 (by decide) (fun j127 => ?_) (fun j127 => ?_)
    · have j127 : na ≤ i := (nI_leI (a := na) (b := i) (by omega) (by omega)).mp j127
      refine xx_iconst (v := 0) dX9_divide_145 (by decide) ?_
      refine xx_eqi (y := nI (yy_pad X na i)) (by rw [yy_pad_z (by omega)]; exact nI_0.symm) ?_
      refine xx_istore dX9_divide_146 (by decide) ?_
      refine xx_clv (lv2 := [(0, .ref b), (1, .int (nI x)), (2, .int (nI y)), (3, .int (nI c)), (4, .int (nI d)), (5, .int (nI na)), (6, .int (nI nb)), (7, .int sg), (8, .int (nI sh)), (9, .int (nI i)), (10, .int (nI (yy_pad X na i)))]) rfl ?_
      refine xx_iload dX9_divide_148 rfl ?_
      refine xx_if_le (tgt := 170) dX9_divide_150 (by decide) (fun j150 => ?_) (fun j150 => ?_)
      · have j150 : i ≤ 0 := (nI_leI (a := i) (b := 0) (by omega) (by omega)).mp j150
        refine xx_iconst (v := 0) dX9_divide_170 (by decide) ?_
        refine xx_istore dX9_divide_171 (by decide) ?_
        refine xx_clv (lv2 := [(0, .ref b), (1, .int (nI x)), (2, .int (nI y)), (3, .int (nI c)), (4, .int (nI d)), (5, .int (nI na)), (6, .int (nI nb)), (7, .int sg), (8, .int (nI sh)), (9, .int (nI i)), (10, .int (nI (yy_pad X na i))), (11, .int 0)]) rfl ?_
        refine xx_aload_n dX9_divide_173 rfl ?_
        refine xx_get xx_c9 dX9_divide_174 wf_X9_65 (j := 23) (by decide) hb2 rfl ?_
        refine xx_iload dX9_divide_177 rfl ?_
        refine xx_iload dX9_divide_179 rfl ?_
        refine xx_iload dX9_divide_181 rfl ?_
        refine xx_ishl dX9_divide_183 ?_
        refine xx_iload dX9_divide_184 rfl ?_
        refine xx_bipush (v := 16) dX9_divide_186 (by decide) ?_
        refine xx_iload dX9_divide_188 rfl ?_
        refine xx_isub dX9_divide_190 ?_
        refine xx_eqi (y := nI (16 - sh)) (pk_sub (a := 16) (b := sh) (by omega)) ?_
        refine xx_ishr dX9_divide_191 ?_
        refine xx_eqi (y := nI (yy_lo X (2 ^ (16 - sh)) i)) (by unfold yy_lo; rw [if_pos (by omega)]; exact (yy_ishr (n := 0) (k := 16 - sh) (by decide) (by omega)).trans (congrArg nI (Nat.zero_div _))) ?_
        refine xx_ior dX9_divide_192 ?_
        refine xx_ldc (v := 65535) dX9_divide_193 wk_X9_93 ?_
        refine xx_iand dX9_divide_195 ?_
        refine xx_eqi (y := nI ((yy_pad X na i * 2 ^ sh + yy_lo X (2 ^ (16 - sh)) i) % 65536)) (yy_or16' hlo (by omega) ph) ?_
        refine xx_iast dX9_divide_196 y2 (vp_in_nI (by omega) (by decide)) (xx_gu fun C z1 h1 o1 => ?_)
        rw [nI_clamp (by omega)] at h1
        refine xx_iinc (v := nI (i + 1)) dX9_divide_197 rfl (nI_1 i) (by decide) ?_
        refine xx_goto (tgt := 116) dX9_divide_200 (by decide) ?_
        refine xx_less [0, 1, 2, 3, 4, 5, 6, 7, 8, 9] ?_
        refine xx_clv (lv2 := [(0, .ref b), (1, .int (nI x)), (2, .int (nI y)), (3, .int (nI c)), (4, .int (nI d)), (5, .int (nI na)), (6, .int (nI nb)), (7, .int sg), (8, .int (nI sh)), (9, .int (nI (i + 1)))]) rfl ?_
        refine ih (i + 1) (by omega) C _ (by omega) h1 (fun j hj => ?_) (fun q hq => (o1 q hq).trans (y4 q hq))
        by_cases e : j = i
        · subst e; rw [pk_us]
        · rw [pk_un e]; exact y3 j (by omega)
      · have j150 : ¬ i ≤ 0 := fun hq9 => j150 ((nI_leI (a := i) (b := 0) (by omega) (by omega)).mpr hq9)
        refine xx_aload_n dX9_divide_153 rfl ?_
        refine xx_get xx_c9 dX9_divide_154 wf_X9_8 (j := 1) (by decide) hb2 rfl ?_
        refine xx_bipush (v := 40) dX9_divide_157 (by decide) ?_
        refine xx_iload_n dX9_divide_159 rfl ?_
        refine xx_imul dX9_divide_160 ?_
        refine xx_eqi (y := nI (40 * x)) (pk_mul 40 x) ?_
        refine xx_iload dX9_divide_161 rfl ?_
        refine xx_iadd dX9_divide_163 ?_
        refine xx_eqi (y := nI (40 * x + i)) (nI_add (40 * x) i) ?_
        refine xx_iconst (v := 1) dX9_divide_164 (by decide) ?_
        refine xx_isub dX9_divide_165 ?_
        refine xx_eqi (y := nI ((40 * x + i) - 1)) (pk_sub (a := 40 * x + i) (b := 1) (by omega)) ?_
        refine xx_eqi (y := nI (40 * x + (i - 1))) (by rw [e1.resolve_right (by omega)]) ?_
        refine xx_iald dX9_divide_166 hf2 (vp_in_nI (by omega) (by decide)) ?_
        refine xx_eqi (y := nI (X (i - 1))) (by rw [nI_clamp (by omega)]; exact (hX (i - 1) (by omega)).2) ?_
        refine xx_goto (tgt := 171) dX9_divide_167 (by decide) ?_
        have pl := (hX (i - 1) (by omega)).1
        refine xx_istore dX9_divide_171 (by decide) ?_
        refine xx_clv (lv2 := [(0, .ref b), (1, .int (nI x)), (2, .int (nI y)), (3, .int (nI c)), (4, .int (nI d)), (5, .int (nI na)), (6, .int (nI nb)), (7, .int sg), (8, .int (nI sh)), (9, .int (nI i)), (10, .int (nI (yy_pad X na i))), (11, .int (nI (X (i - 1))))]) rfl ?_
        refine xx_aload_n dX9_divide_173 rfl ?_
        refine xx_get xx_c9 dX9_divide_174 wf_X9_65 (j := 23) (by decide) hb2 rfl ?_
        refine xx_iload dX9_divide_177 rfl ?_
        refine xx_iload dX9_divide_179 rfl ?_
        refine xx_iload dX9_divide_181 rfl ?_
        refine xx_ishl dX9_divide_183 ?_
        refine xx_iload dX9_divide_184 rfl ?_
        refine xx_bipush (v := 16) dX9_divide_186 (by decide) ?_
        refine xx_iload dX9_divide_188 rfl ?_
        refine xx_isub dX9_divide_190 ?_
        refine xx_eqi (y := nI (16 - sh)) (pk_sub (a := 16) (b := sh) (by omega)) ?_
        refine xx_ishr dX9_divide_191 ?_
        refine xx_eqi (y := nI (yy_lo X (2 ^ (16 - sh)) i)) (by unfold yy_lo; rw [if_neg (by omega)]; exact yy_ishr (by omega) (by omega)) ?_
        refine xx_ior dX9_divide_192 ?_
        refine xx_ldc (v := 65535) dX9_divide_193 wk_X9_93 ?_
        refine xx_iand dX9_divide_195 ?_
        refine xx_eqi (y := nI ((yy_pad X na i * 2 ^ sh + yy_lo X (2 ^ (16 - sh)) i) % 65536)) (yy_or16' hlo (by omega) ph) ?_
        refine xx_iast dX9_divide_196 y2 (vp_in_nI (by omega) (by decide)) (xx_gu fun C z1 h1 o1 => ?_)
        rw [nI_clamp (by omega)] at h1
        refine xx_iinc (v := nI (i + 1)) dX9_divide_197 rfl (nI_1 i) (by decide) ?_
        refine xx_goto (tgt := 116) dX9_divide_200 (by decide) ?_
        refine xx_less [0, 1, 2, 3, 4, 5, 6, 7, 8, 9] ?_
        refine xx_clv (lv2 := [(0, .ref b), (1, .int (nI x)), (2, .int (nI y)), (3, .int (nI c)), (4, .int (nI d)), (5, .int (nI na)), (6, .int (nI nb)), (7, .int sg), (8, .int (nI sh)), (9, .int (nI (i + 1)))]) rfl ?_
        refine ih (i + 1) (by omega) C _ (by omega) h1 (fun j hj => ?_) (fun q hq => (o1 q hq).trans (y4 q hq))
        by_cases e : j = i
        · subst e; rw [pk_us]
        · rw [pk_un e]; exact y3 j (by omega)
    · have j127 : ¬ na ≤ i := fun hq9 => j127 ((nI_leI (a := na) (b := i) (by omega) (by omega)).mpr hq9)
      refine xx_aload_n dX9_divide_130 rfl ?_
      refine xx_get xx_c9 dX9_divide_131 wf_X9_8 (j := 1) (by decide) hb2 rfl ?_
      refine xx_bipush (v := 40) dX9_divide_134 (by decide) ?_
      refine xx_iload_n dX9_divide_136 rfl ?_
      refine xx_imul dX9_divide_137 ?_
      refine xx_eqi (y := nI (40 * x)) (pk_mul 40 x) ?_
      refine xx_iload dX9_divide_138 rfl ?_
      refine xx_iadd dX9_divide_140 ?_
      refine xx_eqi (y := nI (40 * x + i)) (nI_add (40 * x) i) ?_
      refine xx_iald dX9_divide_141 hf2 (vp_in_nI (by omega) (by decide)) ?_
      refine xx_eqi (y := nI (X i)) (by rw [nI_clamp (by omega)]; exact (hX i (by omega)).2) ?_
      refine xx_goto (tgt := 146) dX9_divide_142 (by decide) ?_
      refine xx_eqi (y := nI (yy_pad X na i)) (by rw [yy_pad_s (by omega)]) ?_
      refine xx_istore dX9_divide_146 (by decide) ?_
      refine xx_clv (lv2 := [(0, .ref b), (1, .int (nI x)), (2, .int (nI y)), (3, .int (nI c)), (4, .int (nI d)), (5, .int (nI na)), (6, .int (nI nb)), (7, .int sg), (8, .int (nI sh)), (9, .int (nI i)), (10, .int (nI (yy_pad X na i)))]) rfl ?_
      refine xx_iload dX9_divide_148 rfl ?_
      refine xx_if_le (tgt := 170) dX9_divide_150 (by decide) (fun j150 => ?_) (fun j150 => ?_)
      · have j150 : i ≤ 0 := (nI_leI (a := i) (b := 0) (by omega) (by omega)).mp j150
        refine xx_iconst (v := 0) dX9_divide_170 (by decide) ?_
        refine xx_istore dX9_divide_171 (by decide) ?_
        refine xx_clv (lv2 := [(0, .ref b), (1, .int (nI x)), (2, .int (nI y)), (3, .int (nI c)), (4, .int (nI d)), (5, .int (nI na)), (6, .int (nI nb)), (7, .int sg), (8, .int (nI sh)), (9, .int (nI i)), (10, .int (nI (yy_pad X na i))), (11, .int 0)]) rfl ?_
        refine xx_aload_n dX9_divide_173 rfl ?_
        refine xx_get xx_c9 dX9_divide_174 wf_X9_65 (j := 23) (by decide) hb2 rfl ?_
        refine xx_iload dX9_divide_177 rfl ?_
        refine xx_iload dX9_divide_179 rfl ?_
        refine xx_iload dX9_divide_181 rfl ?_
        refine xx_ishl dX9_divide_183 ?_
        refine xx_iload dX9_divide_184 rfl ?_
        refine xx_bipush (v := 16) dX9_divide_186 (by decide) ?_
        refine xx_iload dX9_divide_188 rfl ?_
        refine xx_isub dX9_divide_190 ?_
        refine xx_eqi (y := nI (16 - sh)) (pk_sub (a := 16) (b := sh) (by omega)) ?_
        refine xx_ishr dX9_divide_191 ?_
        refine xx_eqi (y := nI (yy_lo X (2 ^ (16 - sh)) i)) (by unfold yy_lo; rw [if_pos (by omega)]; exact (yy_ishr (n := 0) (k := 16 - sh) (by decide) (by omega)).trans (congrArg nI (Nat.zero_div _))) ?_
        refine xx_ior dX9_divide_192 ?_
        refine xx_ldc (v := 65535) dX9_divide_193 wk_X9_93 ?_
        refine xx_iand dX9_divide_195 ?_
        refine xx_eqi (y := nI ((yy_pad X na i * 2 ^ sh + yy_lo X (2 ^ (16 - sh)) i) % 65536)) (yy_or16' hlo (by omega) ph) ?_
        refine xx_iast dX9_divide_196 y2 (vp_in_nI (by omega) (by decide)) (xx_gu fun C z1 h1 o1 => ?_)
        rw [nI_clamp (by omega)] at h1
        refine xx_iinc (v := nI (i + 1)) dX9_divide_197 rfl (nI_1 i) (by decide) ?_
        refine xx_goto (tgt := 116) dX9_divide_200 (by decide) ?_
        refine xx_less [0, 1, 2, 3, 4, 5, 6, 7, 8, 9] ?_
        refine xx_clv (lv2 := [(0, .ref b), (1, .int (nI x)), (2, .int (nI y)), (3, .int (nI c)), (4, .int (nI d)), (5, .int (nI na)), (6, .int (nI nb)), (7, .int sg), (8, .int (nI sh)), (9, .int (nI (i + 1)))]) rfl ?_
        refine ih (i + 1) (by omega) C _ (by omega) h1 (fun j hj => ?_) (fun q hq => (o1 q hq).trans (y4 q hq))
        by_cases e : j = i
        · subst e; rw [pk_us]
        · rw [pk_un e]; exact y3 j (by omega)
      · have j150 : ¬ i ≤ 0 := fun hq9 => j150 ((nI_leI (a := i) (b := 0) (by omega) (by omega)).mpr hq9)
        refine xx_aload_n dX9_divide_153 rfl ?_
        refine xx_get xx_c9 dX9_divide_154 wf_X9_8 (j := 1) (by decide) hb2 rfl ?_
        refine xx_bipush (v := 40) dX9_divide_157 (by decide) ?_
        refine xx_iload_n dX9_divide_159 rfl ?_
        refine xx_imul dX9_divide_160 ?_
        refine xx_eqi (y := nI (40 * x)) (pk_mul 40 x) ?_
        refine xx_iload dX9_divide_161 rfl ?_
        refine xx_iadd dX9_divide_163 ?_
        refine xx_eqi (y := nI (40 * x + i)) (nI_add (40 * x) i) ?_
        refine xx_iconst (v := 1) dX9_divide_164 (by decide) ?_
        refine xx_isub dX9_divide_165 ?_
        refine xx_eqi (y := nI ((40 * x + i) - 1)) (pk_sub (a := 40 * x + i) (b := 1) (by omega)) ?_
        refine xx_eqi (y := nI (40 * x + (i - 1))) (by rw [e1.resolve_right (by omega)]) ?_
        refine xx_iald dX9_divide_166 hf2 (vp_in_nI (by omega) (by decide)) ?_
        refine xx_eqi (y := nI (X (i - 1))) (by rw [nI_clamp (by omega)]; exact (hX (i - 1) (by omega)).2) ?_
        refine xx_goto (tgt := 171) dX9_divide_167 (by decide) ?_
        have pl := (hX (i - 1) (by omega)).1
        refine xx_istore dX9_divide_171 (by decide) ?_
        refine xx_clv (lv2 := [(0, .ref b), (1, .int (nI x)), (2, .int (nI y)), (3, .int (nI c)), (4, .int (nI d)), (5, .int (nI na)), (6, .int (nI nb)), (7, .int sg), (8, .int (nI sh)), (9, .int (nI i)), (10, .int (nI (yy_pad X na i))), (11, .int (nI (X (i - 1))))]) rfl ?_
        refine xx_aload_n dX9_divide_173 rfl ?_
        refine xx_get xx_c9 dX9_divide_174 wf_X9_65 (j := 23) (by decide) hb2 rfl ?_
        refine xx_iload dX9_divide_177 rfl ?_
        refine xx_iload dX9_divide_179 rfl ?_
        refine xx_iload dX9_divide_181 rfl ?_
        refine xx_ishl dX9_divide_183 ?_
        refine xx_iload dX9_divide_184 rfl ?_
        refine xx_bipush (v := 16) dX9_divide_186 (by decide) ?_
        refine xx_iload dX9_divide_188 rfl ?_
        refine xx_isub dX9_divide_190 ?_
        refine xx_eqi (y := nI (16 - sh)) (pk_sub (a := 16) (b := sh) (by omega)) ?_
        refine xx_ishr dX9_divide_191 ?_
        refine xx_eqi (y := nI (yy_lo X (2 ^ (16 - sh)) i)) (by unfold yy_lo; rw [if_neg (by omega)]; exact yy_ishr (by omega) (by omega)) ?_
        refine xx_ior dX9_divide_192 ?_
        refine xx_ldc (v := 65535) dX9_divide_193 wk_X9_93 ?_
        refine xx_iand dX9_divide_195 ?_
        refine xx_eqi (y := nI ((yy_pad X na i * 2 ^ sh + yy_lo X (2 ^ (16 - sh)) i) % 65536)) (yy_or16' hlo (by omega) ph) ?_
        refine xx_iast dX9_divide_196 y2 (vp_in_nI (by omega) (by decide)) (xx_gu fun C z1 h1 o1 => ?_)
        rw [nI_clamp (by omega)] at h1
        refine xx_iinc (v := nI (i + 1)) dX9_divide_197 rfl (nI_1 i) (by decide) ?_
        refine xx_goto (tgt := 116) dX9_divide_200 (by decide) ?_
        refine xx_less [0, 1, 2, 3, 4, 5, 6, 7, 8, 9] ?_
        refine xx_clv (lv2 := [(0, .ref b), (1, .int (nI x)), (2, .int (nI y)), (3, .int (nI c)), (4, .int (nI d)), (5, .int (nI na)), (6, .int (nI nb)), (7, .int sg), (8, .int (nI sh)), (9, .int (nI (i + 1)))]) rfl ?_
        refine ih (i + 1) (by omega) C _ (by omega) h1 (fun j hj => ?_) (fun q hq => (o1 q hq).trans (y4 q hq))
        by_cases e : j = i
        · subst e; rw [pk_us]
        · rw [pk_un e]; exact y3 j (by omega)
set_option maxRecDepth 100000 in
theorem l_X9_h3 {G : xx_G} {l : Launch} {A : xx_H} {b : Nat} {th m n hr st hl en tu : Value} {x y c d na nb sh : Nat} {sg : Int32} {f : Nat → Int32} {X : Nat → Nat} {Q : Option Value ⊕ String → xx_H → Prop} (hb : A.2 b = xx_o 9 (xx_mf b th m n hr st hl en tu)) (hf : A.2 (b + 1) = xx_i 69600 f) (hy : y < 1740) (hnb : nb ≤ 40) (hsh : sh ≤ 15) (hX : ∀ i, i < nb → X i < 65536 ∧ f (40 * y + i) = nI (X i)) (k : ∀ (B : xx_H) (f1 : Nat → Int32), B.1 = A.1 → B.2 (b + 18) = xx_i 42 f1 → (∀ j, j < nb → f1 j = nI ((X j * 2 ^ sh + yy_lo X (2 ^ (16 - sh)) j) % 65536)) → (∀ q, q ≠ b + 18 → B.2 q = A.2 q) → xx_X G l mX9_divide 1 0 0 278 [(0, .ref b), (1, .int (nI x)), (2, .int (nI y)), (3, .int (nI c)), (4, .int (nI d)), (5, .int (nI na)), (6, .int (nI nb)), (7, .int sg), (8, .int (nI sh))] [] B Q) :
    ∀ (t i : Nat), i + t = nb → ∀ (B : xx_H) (f1 : Nat → Int32), B.1 = A.1 → B.2 (b + 18) = xx_i 42 f1 → (∀ j, j < i → f1 j = nI ((X j * 2 ^ sh + yy_lo X (2 ^ (16 - sh)) j) % 65536)) → (∀ q, q ≠ b + 18 → B.2 q = A.2 q) → xx_X G l mX9_divide 1 0 0 206 [(0, .ref b), (1, .int (nI x)), (2, .int (nI y)), (3, .int (nI c)), (4, .int (nI d)), (5, .int (nI na)), (6, .int (nI nb)), (7, .int sg), (8, .int (nI sh)), (9, .int (nI i))] [] B Q := by
  intro t
  induction t with
  | zero =>
    intro i hi B f1 y1 y2 y3 y4
    have : i = nb := by omega
    subst this
    refine xx_iload dX9_divide_206 rfl ?_
    refine xx_iload dX9_divide_208 rfl ?_
    refine xx_icmp_ge (tgt := 278) dX9_divide_210 (by decide) (fun j210 => ?_) (fun h => absurd (Int32.le_refl _) h)
    refine xx_less [0, 1, 2, 3, 4, 5, 6, 7, 8] ?_
    refine xx_clv (lv2 := [(0, .ref b), (1, .int (nI x)), (2, .int (nI y)), (3, .int (nI c)), (4, .int (nI d)), (5, .int (nI na)), (6, .int (nI i)), (7, .int sg), (8, .int (nI sh))]) rfl ?_
    exact k B f1 y1 y2 y3 y4
  | succ t ih =>
    intro i hi B f1 y1 y2 y3 y4
    have hb2 := (y4 b (by omega)).trans hb
    have hf2 := (y4 (b + 1) (by omega)).trans hf
    obtain ⟨ph, qh⟩ := hX i (by omega)
    have e16 : 2 ^ sh * 2 ^ (16 - sh) = 65536 := by rw [← Nat.pow_add, show sh + (16 - sh) = 16 by omega]
    have e1 : 40 * y + i - 1 = 40 * y + (i - 1) ∨ i = 0 := by omega
    have hlo : yy_lo X (2 ^ (16 - sh)) i < 2 ^ sh := yy_lo_lt (Nat.two_pow_pos sh) (fun j hj => by rw [e16]; exact (hX j (by omega)).1)
    refine xx_iload dX9_divide_206 rfl ?_
    refine xx_iload dX9_divide_208 rfl ?_
    refine xx_icmp_ge (tgt := 278) dX9_divide_210 (by decide) (fun h => absurd h (nI_ge (by omega) (by omega))) (fun j210 => ?_)
    refine xx_iload dX9_divide_213 rfl ?_
    refine xx_if_le (tgt := 235) dX9_divide_215 (by decide) (fun j215 => ?_) (fun j215 => ?_)
    · have j215 : i ≤ 0 := (nI_leI (a := i) (b := 0) (by omega) (by omega)).mp j215
      refine xx_iconst (v := 0) dX9_divide_235 (by decide) ?_
      refine xx_istore dX9_divide_236 (by decide) ?_
      refine xx_clv (lv2 := [(0, .ref b), (1, .int (nI x)), (2, .int (nI y)), (3, .int (nI c)), (4, .int (nI d)), (5, .int (nI na)), (6, .int (nI nb)), (7, .int sg), (8, .int (nI sh)), (9, .int (nI i)), (10, .int 0)]) rfl ?_
      refine xx_aload_n dX9_divide_238 rfl ?_
      refine xx_get xx_c9 dX9_divide_239 wf_X9_68 (j := 24) (by decide) hb2 rfl ?_
      refine xx_iload dX9_divide_242 rfl ?_
      refine xx_aload_n dX9_divide_244 rfl ?_
      refine xx_get xx_c9 dX9_divide_245 wf_X9_8 (j := 1) (by decide) hb2 rfl ?_
      refine xx_bipush (v := 40) dX9_divide_248 (by decide) ?_
      refine xx_iload_n dX9_divide_250 rfl ?_
      refine xx_imul dX9_divide_251 ?_
      refine xx_eqi (y := nI (40 * y)) (pk_mul 40 y) ?_
      refine xx_iload dX9_divide_252 rfl ?_
      refine xx_iadd dX9_divide_254 ?_
      refine xx_eqi (y := nI (40 * y + i)) (nI_add (40 * y) i) ?_
      refine xx_iald dX9_divide_255 hf2 (vp_in_nI (by omega) (by decide)) ?_
      refine xx_eqi (y := nI (X i)) (by rw [nI_clamp (by omega)]; exact qh) ?_
      refine xx_iload dX9_divide_256 rfl ?_
      refine xx_ishl dX9_divide_258 ?_
      refine xx_iload dX9_divide_259 rfl ?_
      refine xx_bipush (v := 16) dX9_divide_261 (by decide) ?_
      refine xx_iload dX9_divide_263 rfl ?_
      refine xx_isub dX9_divide_265 ?_
      refine xx_eqi (y := nI (16 - sh)) (pk_sub (a := 16) (b := sh) (by omega)) ?_
      refine xx_ishr dX9_divide_266 ?_
      refine xx_eqi (y := nI (yy_lo X (2 ^ (16 - sh)) i)) (by unfold yy_lo; rw [if_pos (by omega)]; exact (yy_ishr (n := 0) (k := 16 - sh) (by decide) (by omega)).trans (congrArg nI (Nat.zero_div _))) ?_
      refine xx_ior dX9_divide_267 ?_
      refine xx_ldc (v := 65535) dX9_divide_268 wk_X9_93 ?_
      refine xx_iand dX9_divide_270 ?_
      refine xx_eqi (y := nI ((X i * 2 ^ sh + yy_lo X (2 ^ (16 - sh)) i) % 65536)) (yy_or16' hlo (by omega) ph) ?_
      refine xx_iast dX9_divide_271 y2 (vp_in_nI (by omega) (by decide)) (xx_gu fun C z1 h1 o1 => ?_)
      rw [nI_clamp (by omega)] at h1
      refine xx_iinc (v := nI (i + 1)) dX9_divide_272 rfl (nI_1 i) (by decide) ?_
      refine xx_goto (tgt := 206) dX9_divide_275 (by decide) ?_
      refine xx_less [0, 1, 2, 3, 4, 5, 6, 7, 8, 9] ?_
      refine xx_clv (lv2 := [(0, .ref b), (1, .int (nI x)), (2, .int (nI y)), (3, .int (nI c)), (4, .int (nI d)), (5, .int (nI na)), (6, .int (nI nb)), (7, .int sg), (8, .int (nI sh)), (9, .int (nI (i + 1)))]) rfl ?_
      refine ih (i + 1) (by omega) C _ (by omega) h1 (fun j hj => ?_) (fun q hq => (o1 q hq).trans (y4 q hq))
      by_cases e : j = i
      · subst e; rw [pk_us]
      · rw [pk_un e]; exact y3 j (by omega)
    · have j215 : ¬ i ≤ 0 := fun hq9 => j215 ((nI_leI (a := i) (b := 0) (by omega) (by omega)).mpr hq9)
      refine xx_aload_n dX9_divide_218 rfl ?_
      refine xx_get xx_c9 dX9_divide_219 wf_X9_8 (j := 1) (by decide) hb2 rfl ?_
      refine xx_bipush (v := 40) dX9_divide_222 (by decide) ?_
      refine xx_iload_n dX9_divide_224 rfl ?_
      refine xx_imul dX9_divide_225 ?_
      refine xx_eqi (y := nI (40 * y)) (pk_mul 40 y) ?_
      refine xx_iload dX9_divide_226 rfl ?_
      refine xx_iadd dX9_divide_228 ?_
      refine xx_eqi (y := nI (40 * y + i)) (nI_add (40 * y) i) ?_
      refine xx_iconst (v := 1) dX9_divide_229 (by decide) ?_
      refine xx_isub dX9_divide_230 ?_
      refine xx_eqi (y := nI ((40 * y + i) - 1)) (pk_sub (a := 40 * y + i) (b := 1) (by omega)) ?_
      refine xx_eqi (y := nI (40 * y + (i - 1))) (by rw [e1.resolve_right (by omega)]) ?_
      refine xx_iald dX9_divide_231 hf2 (vp_in_nI (by omega) (by decide)) ?_
      refine xx_eqi (y := nI (X (i - 1))) (by rw [nI_clamp (by omega)]; exact (hX (i - 1) (by omega)).2) ?_
      refine xx_goto (tgt := 236) dX9_divide_232 (by decide) ?_
      have pl := (hX (i - 1) (by omega)).1
      refine xx_istore dX9_divide_236 (by decide) ?_
      refine xx_clv (lv2 := [(0, .ref b), (1, .int (nI x)), (2, .int (nI y)), (3, .int (nI c)), (4, .int (nI d)), (5, .int (nI na)), (6, .int (nI nb)), (7, .int sg), (8, .int (nI sh)), (9, .int (nI i)), (10, .int (nI (X (i - 1))))]) rfl ?_
      refine xx_aload_n dX9_divide_238 rfl ?_
      refine xx_get xx_c9 dX9_divide_239 wf_X9_68 (j := 24) (by decide) hb2 rfl ?_
      refine xx_iload dX9_divide_242 rfl ?_
      refine xx_aload_n dX9_divide_244 rfl ?_
      refine xx_get xx_c9 dX9_divide_245 wf_X9_8 (j := 1) (by decide) hb2 rfl ?_
      refine xx_bipush (v := 40) dX9_divide_248 (by decide) ?_
      refine xx_iload_n dX9_divide_250 rfl ?_
      refine xx_imul dX9_divide_251 ?_
      refine xx_eqi (y := nI (40 * y)) (pk_mul 40 y) ?_
      refine xx_iload dX9_divide_252 rfl ?_
      refine xx_iadd dX9_divide_254 ?_
      refine xx_eqi (y := nI (40 * y + i)) (nI_add (40 * y) i) ?_
      refine xx_iald dX9_divide_255 hf2 (vp_in_nI (by omega) (by decide)) ?_
      refine xx_eqi (y := nI (X i)) (by rw [nI_clamp (by omega)]; exact qh) ?_
      refine xx_iload dX9_divide_256 rfl ?_
      refine xx_ishl dX9_divide_258 ?_
      refine xx_iload dX9_divide_259 rfl ?_
      refine xx_bipush (v := 16) dX9_divide_261 (by decide) ?_
      refine xx_iload dX9_divide_263 rfl ?_
      refine xx_isub dX9_divide_265 ?_
      refine xx_eqi (y := nI (16 - sh)) (pk_sub (a := 16) (b := sh) (by omega)) ?_
      refine xx_ishr dX9_divide_266 ?_
      refine xx_eqi (y := nI (yy_lo X (2 ^ (16 - sh)) i)) (by unfold yy_lo; rw [if_neg (by omega)]; exact yy_ishr (by omega) (by omega)) ?_
      refine xx_ior dX9_divide_267 ?_
      refine xx_ldc (v := 65535) dX9_divide_268 wk_X9_93 ?_
      refine xx_iand dX9_divide_270 ?_
      refine xx_eqi (y := nI ((X i * 2 ^ sh + yy_lo X (2 ^ (16 - sh)) i) % 65536)) (yy_or16' hlo (by omega) ph) ?_
      refine xx_iast dX9_divide_271 y2 (vp_in_nI (by omega) (by decide)) (xx_gu fun C z1 h1 o1 => ?_)
      rw [nI_clamp (by omega)] at h1
      refine xx_iinc (v := nI (i + 1)) dX9_divide_272 rfl (nI_1 i) (by decide) ?_
      refine xx_goto (tgt := 206) dX9_divide_275 (by decide) ?_
      refine xx_less [0, 1, 2, 3, 4, 5, 6, 7, 8, 9] ?_
      refine xx_clv (lv2 := [(0, .ref b), (1, .int (nI x)), (2, .int (nI y)), (3, .int (nI c)), (4, .int (nI d)), (5, .int (nI na)), (6, .int (nI nb)), (7, .int sg), (8, .int (nI sh)), (9, .int (nI (i + 1)))]) rfl ?_
      refine ih (i + 1) (by omega) C _ (by omega) h1 (fun j hj => ?_) (fun q hq => (o1 q hq).trans (y4 q hq))
      by_cases e : j = i
      · subst e; rw [pk_us]
      · rw [pk_un e]; exact y3 j (by omega)
set_option maxRecDepth 100000 in
theorem l_X9_gu {G : xx_G} {l : Launch} {A : xx_H} {b : Nat} {th m n hr st hl en tu : Value} {c d na nb sh j lead s2 x2 Gd : Nat} {sg : Int32} {f g : Nat → Int32} {Q : Option Value ⊕ String → xx_H → Prop} (hb : A.2 b = xx_o 9 (xx_mf b th m n hr st hl en tu)) (hr : A.2 (b + 17) = xx_i 42 f) (hy : A.2 (b + 18) = xx_i 42 g) (hnb : 1 ≤ nb) (hj : j + nb ≤ 40) (hld : g (nb - 1) = nI lead) (hlt : lead < 65536) (hs2 : s2 < 65536) (hx2 : x2 < 65536) (hx : 1 < nb → f (j + (nb - 2)) = nI x2) (hx0 : ¬ 1 < nb → x2 = 0) (k : xx_X G l mX9_divide 1 0 0 454 [(0, .ref b), (3, .int (nI c)), (4, .int (nI d)), (5, .int (nI na)), (6, .int (nI nb)), (7, .int sg), (8, .int (nI sh)), (9, .int (nI j)), (12, .long (lN Gd))] [] A Q) :
    ∀ (n q r : Nat), r < 65536 → 65536 ≤ r + n * lead → q < 2 ^ 33 → (yy_gr 65536 lead s2 x2 n (q, r)).1 = Gd → xx_X G l mX9_divide 1 0 0 373 [(0, .ref b), (3, .int (nI c)), (4, .int (nI d)), (5, .int (nI na)), (6, .int (nI nb)), (7, .int sg), (8, .int (nI sh)), (9, .int (nI j)), (12, .long (lN q)), (14, .long (lN r)), (16, .long (lN s2))] [] A Q := by
  intro n
  induction n with
  | zero =>
    intro q r h1 h2 h3 h4
    exact absurd h2 (by omega)
  | succ n ih =>
    intro q r h1 h2 h3 h4
    rw [yy_gr, if_pos (show (q, r).2 < 65536 from h1)] at h4
    have e2 : 1 < nb → j + nb - 2 = j + (nb - 2) := by omega
    have e3 : (n + 1) * lead = n * lead + lead := by rw [Nat.add_mul, Nat.one_mul]
    refine xx_lload dX9_divide_373 rfl ?_
    refine xx_ldc2 (v := 65536) dX9_divide_375 wk_X9_102 ?_
    refine xx_lcmp dX9_divide_378 ?_
    refine xx_if_ge (tgt := 421) dX9_divide_379 (by decide) (fun j379 => ?_) (fun j379 => ?_)
    · have j379 : 65536 ≤ q := (pk_lLE (a := 65536) (b := q) (by omega) (by omega)).mp ((lg_cmp_ge _ _).mp j379)
      refine xx_lload dX9_divide_421 rfl ?_
      refine xx_lconst (v := 1) dX9_divide_423 (by decide) ?_
      have hq1 : 1 ≤ q := by omega
      refine xx_lsub dX9_divide_424 ?_
      refine xx_eql (y := lN (q - 1)) (lN_sub (a := q) (b := 1) (by omega)) ?_
      refine xx_lstore dX9_divide_425 (by decide) ?_
      refine xx_clv (lv2 := [(0, .ref b), (3, .int (nI c)), (4, .int (nI d)), (5, .int (nI na)), (6, .int (nI nb)), (7, .int sg), (8, .int (nI sh)), (9, .int (nI j)), (12, .long (lN (q - 1))), (14, .long (lN r)), (16, .long (lN s2))]) rfl ?_
      refine xx_lload dX9_divide_427 rfl ?_
      refine xx_aload_n dX9_divide_429 rfl ?_
      refine xx_get xx_c9 dX9_divide_430 wf_X9_68 (j := 24) (by decide) hb rfl ?_
      refine xx_iload dX9_divide_433 rfl ?_
      refine xx_iconst (v := 1) dX9_divide_435 (by decide) ?_
      refine xx_isub dX9_divide_436 ?_
      refine xx_eqi (y := nI (nb - 1)) (pk_sub (a := nb) (b := 1) (by omega)) ?_
      refine xx_iald dX9_divide_437 hy (vp_in_nI (by omega) (by decide)) ?_
      refine xx_eqi (y := nI lead) (by rw [nI_clamp (by omega)]; exact hld) ?_
      refine xx_i2l dX9_divide_438 ?_
      refine xx_eql (y := lN lead) (nI_l (by omega)) ?_
      refine xx_ladd dX9_divide_439 ?_
      refine xx_eql (y := lN (r + lead)) (lN_add r lead) ?_
      refine xx_lstore dX9_divide_440 (by decide) ?_
      refine xx_clv (lv2 := [(0, .ref b), (3, .int (nI c)), (4, .int (nI d)), (5, .int (nI na)), (6, .int (nI nb)), (7, .int sg), (8, .int (nI sh)), (9, .int (nI j)), (12, .long (lN (q - 1))), (14, .long (lN (r + lead))), (16, .long (lN s2))]) rfl ?_
      refine xx_lload dX9_divide_442 rfl ?_
      refine xx_ldc2 (v := 65536) dX9_divide_444 wk_X9_102 ?_
      refine xx_lcmp dX9_divide_447 ?_
      refine xx_if_lt (tgt := 373) dX9_divide_448 (by decide) (fun j448 => ?_) (fun j448 => ?_)
      · have j448 : r + lead < 65536 := (pk_lLT (a := r + lead) (b := 65536) (by omega) (by omega)).mp ((lg_cmp_lt _ _).mp j448)
        have hc : 65536 ≤ (q, r).1 ∨ (q, r).2 * 65536 + x2 < (q, r).1 * s2 := Or.inl (by show 65536 ≤ q; omega)
        rw [if_pos hc] at h4
        refine xx_less [0, 3, 4, 5, 6, 7, 8, 9, 12, 14, 16] ?_
        refine xx_clv (lv2 := [(0, .ref b), (3, .int (nI c)), (4, .int (nI d)), (5, .int (nI na)), (6, .int (nI nb)), (7, .int sg), (8, .int (nI sh)), (9, .int (nI j)), (12, .long (lN (q - 1))), (14, .long (lN (r + lead))), (16, .long (lN s2))]) rfl ?_
        exact ih (q - 1) (r + lead) (by omega) (by omega) (by omega) h4
      · have j448 : ¬ r + lead < 65536 := fun hq9 => j448 ((lg_cmp_lt _ _).mpr ((pk_lLT (a := r + lead) (b := 65536) (by omega) (by omega)).mpr hq9))
        refine xx_goto (tgt := 454) dX9_divide_451 (by decide) ?_
        have hc : 65536 ≤ (q, r).1 ∨ (q, r).2 * 65536 + x2 < (q, r).1 * s2 := Or.inl (by show 65536 ≤ q; omega)
        rw [if_pos hc] at h4
        rw [yy_gr_st2 (q := (q, r).1 - 1) (r := (q, r).2 + lead) (by show 65536 ≤ r + lead; omega)] at h4
        have h4 : q - 1 = Gd := h4
        subst h4
        refine xx_less [0, 3, 4, 5, 6, 7, 8, 9, 12] ?_
        refine xx_clv (lv2 := [(0, .ref b), (3, .int (nI c)), (4, .int (nI d)), (5, .int (nI na)), (6, .int (nI nb)), (7, .int sg), (8, .int (nI sh)), (9, .int (nI j)), (12, .long (lN (q - 1)))]) rfl ?_
        exact k
    · have j379 : ¬ 65536 ≤ q := fun hq9 => j379 ((lg_cmp_ge _ _).mpr ((pk_lLE (a := 65536) (b := q) (by omega) (by omega)).mpr hq9))
      refine xx_lload dX9_divide_382 rfl ?_
      refine xx_lload dX9_divide_384 rfl ?_
      have hqs : q * s2 < 65536 * 65536 := Nat.lt_of_le_of_lt (Nat.mul_le_mul (show q ≤ 65535 by omega) (show s2 ≤ 65535 by omega)) (by decide)
      obtain ⟨qs, eqs⟩ : ∃ qs, qs = q * s2 := ⟨_, rfl⟩
      rw [← eqs] at hqs
      refine xx_lmul dX9_divide_386 ?_
      refine xx_eql (y := lN qs) (by rw [eqs, lN_mul]) ?_
      refine xx_lload dX9_divide_387 rfl ?_
      refine xx_ldc2 (v := 65536) dX9_divide_389 wk_X9_102 ?_
      refine xx_lmul dX9_divide_392 ?_
      refine xx_eql (y := lN (r * 65536)) (lN_mul r 65536) ?_
      refine xx_iload dX9_divide_393 rfl ?_
      refine xx_iconst (v := 1) dX9_divide_395 (by decide) ?_
      refine xx_icmp_le (tgt := 415) dX9_divide_396 (by decide) (fun j396 => ?_) (fun j396 => ?_)
      · have j396 : nb ≤ 1 := (nI_leI (a := nb) (b := 1) (by omega) (by omega)).mp j396
        refine xx_lconst (v := 0) dX9_divide_415 (by decide) ?_
        refine xx_eql (y := lN x2) (by rw [hx0 (by omega)]; rfl) ?_
        refine xx_ladd dX9_divide_416 ?_
        refine xx_eql (y := lN (r * 65536 + x2)) (lN_add (r * 65536) x2) ?_
        refine xx_lcmp dX9_divide_417 ?_
        refine xx_if_le (tgt := 454) dX9_divide_418 (by decide) (fun j418 => ?_) (fun j418 => ?_)
        · have j418 : qs ≤ r * 65536 + x2 := (pk_lLE (a := qs) (b := r * 65536 + x2) (by omega) (by omega)).mp ((lg_cmp_le _ _).mp j418)
          have hc : ¬ (65536 ≤ (q, r).1 ∨ (q, r).2 * 65536 + x2 < (q, r).1 * s2) := by show ¬ (65536 ≤ q ∨ r * 65536 + x2 < q * s2); rw [← eqs]; omega
          rw [if_neg hc, yy_gr_st1 hc] at h4
          have h4 : q = Gd := h4
          subst h4
          refine xx_less [0, 3, 4, 5, 6, 7, 8, 9, 12] ?_
          refine xx_clv (lv2 := [(0, .ref b), (3, .int (nI c)), (4, .int (nI d)), (5, .int (nI na)), (6, .int (nI nb)), (7, .int sg), (8, .int (nI sh)), (9, .int (nI j)), (12, .long (lN q))]) rfl ?_
          exact k
        · have j418 : ¬ qs ≤ r * 65536 + x2 := fun hq9 => j418 ((lg_cmp_le _ _).mpr ((pk_lLE (a := qs) (b := r * 65536 + x2) (by omega) (by omega)).mpr hq9))
          refine xx_lload dX9_divide_421 rfl ?_
          refine xx_lconst (v := 1) dX9_divide_423 (by decide) ?_
          have hq1 : 1 ≤ q := by apply Nat.pos_of_ne_zero; intro q9; rw [q9, Nat.zero_mul] at eqs; omega
          refine xx_lsub dX9_divide_424 ?_
          refine xx_eql (y := lN (q - 1)) (lN_sub (a := q) (b := 1) (by omega)) ?_
          refine xx_lstore dX9_divide_425 (by decide) ?_
          refine xx_clv (lv2 := [(0, .ref b), (3, .int (nI c)), (4, .int (nI d)), (5, .int (nI na)), (6, .int (nI nb)), (7, .int sg), (8, .int (nI sh)), (9, .int (nI j)), (12, .long (lN (q - 1))), (14, .long (lN r)), (16, .long (lN s2))]) rfl ?_
          refine xx_lload dX9_divide_427 rfl ?_
          refine xx_aload_n dX9_divide_429 rfl ?_
          refine xx_get xx_c9 dX9_divide_430 wf_X9_68 (j := 24) (by decide) hb rfl ?_
          refine xx_iload dX9_divide_433 rfl ?_
          refine xx_iconst (v := 1) dX9_divide_435 (by decide) ?_
          refine xx_isub dX9_divide_436 ?_
          refine xx_eqi (y := nI (nb - 1)) (pk_sub (a := nb) (b := 1) (by omega)) ?_
          refine xx_iald dX9_divide_437 hy (vp_in_nI (by omega) (by decide)) ?_
          refine xx_eqi (y := nI lead) (by rw [nI_clamp (by omega)]; exact hld) ?_
          refine xx_i2l dX9_divide_438 ?_
          refine xx_eql (y := lN lead) (nI_l (by omega)) ?_
          refine xx_ladd dX9_divide_439 ?_
          refine xx_eql (y := lN (r + lead)) (lN_add r lead) ?_
          refine xx_lstore dX9_divide_440 (by decide) ?_
          refine xx_clv (lv2 := [(0, .ref b), (3, .int (nI c)), (4, .int (nI d)), (5, .int (nI na)), (6, .int (nI nb)), (7, .int sg), (8, .int (nI sh)), (9, .int (nI j)), (12, .long (lN (q - 1))), (14, .long (lN (r + lead))), (16, .long (lN s2))]) rfl ?_
          refine xx_lload dX9_divide_442 rfl ?_
          refine xx_ldc2 (v := 65536) dX9_divide_444 wk_X9_102 ?_
          refine xx_lcmp dX9_divide_447 ?_
          refine xx_if_lt (tgt := 373) dX9_divide_448 (by decide) (fun j448 => ?_) (fun j448 => ?_)
          · have j448 : r + lead < 65536 := (pk_lLT (a := r + lead) (b := 65536) (by omega) (by omega)).mp ((lg_cmp_lt _ _).mp j448)
            have hc : 65536 ≤ (q, r).1 ∨ (q, r).2 * 65536 + x2 < (q, r).1 * s2 := Or.inr (by show r * 65536 + x2 < q * s2; rw [← eqs]; omega)
            rw [if_pos hc] at h4
            refine xx_less [0, 3, 4, 5, 6, 7, 8, 9, 12, 14, 16] ?_
            refine xx_clv (lv2 := [(0, .ref b), (3, .int (nI c)), (4, .int (nI d)), (5, .int (nI na)), (6, .int (nI nb)), (7, .int sg), (8, .int (nI sh)), (9, .int (nI j)), (12, .long (lN (q - 1))), (14, .long (lN (r + lead))), (16, .long (lN s2))]) rfl ?_
            exact ih (q - 1) (r + lead) (by omega) (by omega) (by omega) h4
          · have j448 : ¬ r + lead < 65536 := fun hq9 => j448 ((lg_cmp_lt _ _).mpr ((pk_lLT (a := r + lead) (b := 65536) (by omega) (by omega)).mpr hq9))
            refine xx_goto (tgt := 454) dX9_divide_451 (by decide) ?_
            have hc : 65536 ≤ (q, r).1 ∨ (q, r).2 * 65536 + x2 < (q, r).1 * s2 := Or.inr (by show r * 65536 + x2 < q * s2; rw [← eqs]; omega)
            rw [if_pos hc] at h4
            rw [yy_gr_st2 (q := (q, r).1 - 1) (r := (q, r).2 + lead) (by show 65536 ≤ r + lead; omega)] at h4
            have h4 : q - 1 = Gd := h4
            subst h4
            refine xx_less [0, 3, 4, 5, 6, 7, 8, 9, 12] ?_
            refine xx_clv (lv2 := [(0, .ref b), (3, .int (nI c)), (4, .int (nI d)), (5, .int (nI na)), (6, .int (nI nb)), (7, .int sg), (8, .int (nI sh)), (9, .int (nI j)), (12, .long (lN (q - 1)))]) rfl ?_
            exact k
      · have j396 : ¬ nb ≤ 1 := fun hq9 => j396 ((nI_leI (a := nb) (b := 1) (by omega) (by omega)).mpr hq9)
        refine xx_aload_n dX9_divide_399 rfl ?_
        refine xx_get xx_c9 dX9_divide_400 wf_X9_65 (j := 23) (by decide) hb rfl ?_
        refine xx_iload dX9_divide_403 rfl ?_
        refine xx_iload dX9_divide_405 rfl ?_
        refine xx_iadd dX9_divide_407 ?_
        refine xx_eqi (y := nI (j + nb)) (nI_add j nb) ?_
        refine xx_iconst (v := 2) dX9_divide_408 (by decide) ?_
        refine xx_isub dX9_divide_409 ?_
        refine xx_eqi (y := nI ((j + nb) - 2)) (pk_sub (a := j + nb) (b := 2) (by omega)) ?_
        refine xx_eqi (y := nI (j + (nb - 2))) (by rw [e2 (by omega)]) ?_
        refine xx_iald dX9_divide_410 hr (vp_in_nI (by omega) (by decide)) ?_
        refine xx_eqi (y := nI x2) (by rw [nI_clamp (by omega)]; exact hx (by omega)) ?_
        refine xx_i2l dX9_divide_411 ?_
        refine xx_eql (y := lN x2) (nI_l (by omega)) ?_
        refine xx_goto (tgt := 416) dX9_divide_412 (by decide) ?_
        refine xx_ladd dX9_divide_416 ?_
        refine xx_eql (y := lN (r * 65536 + x2)) (lN_add (r * 65536) x2) ?_
        refine xx_lcmp dX9_divide_417 ?_
        refine xx_if_le (tgt := 454) dX9_divide_418 (by decide) (fun j418 => ?_) (fun j418 => ?_)
        · have j418 : qs ≤ r * 65536 + x2 := (pk_lLE (a := qs) (b := r * 65536 + x2) (by omega) (by omega)).mp ((lg_cmp_le _ _).mp j418)
          have hc : ¬ (65536 ≤ (q, r).1 ∨ (q, r).2 * 65536 + x2 < (q, r).1 * s2) := by show ¬ (65536 ≤ q ∨ r * 65536 + x2 < q * s2); rw [← eqs]; omega
          rw [if_neg hc, yy_gr_st1 hc] at h4
          have h4 : q = Gd := h4
          subst h4
          refine xx_less [0, 3, 4, 5, 6, 7, 8, 9, 12] ?_
          refine xx_clv (lv2 := [(0, .ref b), (3, .int (nI c)), (4, .int (nI d)), (5, .int (nI na)), (6, .int (nI nb)), (7, .int sg), (8, .int (nI sh)), (9, .int (nI j)), (12, .long (lN q))]) rfl ?_
          exact k
        · have j418 : ¬ qs ≤ r * 65536 + x2 := fun hq9 => j418 ((lg_cmp_le _ _).mpr ((pk_lLE (a := qs) (b := r * 65536 + x2) (by omega) (by omega)).mpr hq9))
          refine xx_lload dX9_divide_421 rfl ?_
          refine xx_lconst (v := 1) dX9_divide_423 (by decide) ?_
          have hq1 : 1 ≤ q := by apply Nat.pos_of_ne_zero; intro q9; rw [q9, Nat.zero_mul] at eqs; omega
          refine xx_lsub dX9_divide_424 ?_
          refine xx_eql (y := lN (q - 1)) (lN_sub (a := q) (b := 1) (by omega)) ?_
          refine xx_lstore dX9_divide_425 (by decide) ?_
          refine xx_clv (lv2 := [(0, .ref b), (3, .int (nI c)), (4, .int (nI d)), (5, .int (nI na)), (6, .int (nI nb)), (7, .int sg), (8, .int (nI sh)), (9, .int (nI j)), (12, .long (lN (q - 1))), (14, .long (lN r)), (16, .long (lN s2))]) rfl ?_
          refine xx_lload dX9_divide_427 rfl ?_
          refine xx_aload_n dX9_divide_429 rfl ?_
          refine xx_get xx_c9 dX9_divide_430 wf_X9_68 (j := 24) (by decide) hb rfl ?_
          refine xx_iload dX9_divide_433 rfl ?_
          refine xx_iconst (v := 1) dX9_divide_435 (by decide) ?_
          refine xx_isub dX9_divide_436 ?_
          refine xx_eqi (y := nI (nb - 1)) (pk_sub (a := nb) (b := 1) (by omega)) ?_
          refine xx_iald dX9_divide_437 hy (vp_in_nI (by omega) (by decide)) ?_
          refine xx_eqi (y := nI lead) (by rw [nI_clamp (by omega)]; exact hld) ?_
          refine xx_i2l dX9_divide_438 ?_
          refine xx_eql (y := lN lead) (nI_l (by omega)) ?_
          refine xx_ladd dX9_divide_439 ?_
          refine xx_eql (y := lN (r + lead)) (lN_add r lead) ?_
          refine xx_lstore dX9_divide_440 (by decide) ?_
          refine xx_clv (lv2 := [(0, .ref b), (3, .int (nI c)), (4, .int (nI d)), (5, .int (nI na)), (6, .int (nI nb)), (7, .int sg), (8, .int (nI sh)), (9, .int (nI j)), (12, .long (lN (q - 1))), (14, .long (lN (r + lead))), (16, .long (lN s2))]) rfl ?_
          refine xx_lload dX9_divide_442 rfl ?_
          refine xx_ldc2 (v := 65536) dX9_divide_444 wk_X9_102 ?_
          refine xx_lcmp dX9_divide_447 ?_
          refine xx_if_lt (tgt := 373) dX9_divide_448 (by decide) (fun j448 => ?_) (fun j448 => ?_)
          · have j448 : r + lead < 65536 := (pk_lLT (a := r + lead) (b := 65536) (by omega) (by omega)).mp ((lg_cmp_lt _ _).mp j448)
            have hc : 65536 ≤ (q, r).1 ∨ (q, r).2 * 65536 + x2 < (q, r).1 * s2 := Or.inr (by show r * 65536 + x2 < q * s2; rw [← eqs]; omega)
            rw [if_pos hc] at h4
            refine xx_less [0, 3, 4, 5, 6, 7, 8, 9, 12, 14, 16] ?_
            refine xx_clv (lv2 := [(0, .ref b), (3, .int (nI c)), (4, .int (nI d)), (5, .int (nI na)), (6, .int (nI nb)), (7, .int sg), (8, .int (nI sh)), (9, .int (nI j)), (12, .long (lN (q - 1))), (14, .long (lN (r + lead))), (16, .long (lN s2))]) rfl ?_
            exact ih (q - 1) (r + lead) (by omega) (by omega) (by omega) h4
          · have j448 : ¬ r + lead < 65536 := fun hq9 => j448 ((lg_cmp_lt _ _).mpr ((pk_lLT (a := r + lead) (b := 65536) (by omega) (by omega)).mpr hq9))
            refine xx_goto (tgt := 454) dX9_divide_451 (by decide) ?_
            have hc : 65536 ≤ (q, r).1 ∨ (q, r).2 * 65536 + x2 < (q, r).1 * s2 := Or.inr (by show r * 65536 + x2 < q * s2; rw [← eqs]; omega)
            rw [if_pos hc] at h4
            rw [yy_gr_st2 (q := (q, r).1 - 1) (r := (q, r).2 + lead) (by show 65536 ≤ r + lead; omega)] at h4
            have h4 : q - 1 = Gd := h4
            subst h4
            refine xx_less [0, 3, 4, 5, 6, 7, 8, 9, 12] ?_
            refine xx_clv (lv2 := [(0, .ref b), (3, .int (nI c)), (4, .int (nI d)), (5, .int (nI na)), (6, .int (nI nb)), (7, .int sg), (8, .int (nI sh)), (9, .int (nI j)), (12, .long (lN (q - 1)))]) rfl ?_
            exact k
