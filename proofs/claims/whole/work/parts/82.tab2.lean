/-! ===== the row that leaves ===== -/
/-- how two rows stand to each other by one column -/
def yo_o (T : Nat → Nat → Int) (p q e c : Nat) : Int32 := yy_cmz (T p c * T q e) (T q c * T p e)
def yo_l (T : Nat → Nat → Int) (p q e fl : Nat) : Nat → Nat → Int32
  | 0, _ => 0
  | n + 1, i => if yo_o T p q e (fl + i) = 0 then yo_l T p q e fl n (i + 1) else yo_o T p q e (fl + i)
def yo_c (T : Nat → Nat → Int) (p q e sd fl R : Nat) : Int32 := if yo_o T p q e sd = 0 then yo_l T p q e fl R 0 else yo_o T p q e sd
def yo_r (T : Nat → Nat → Int) (e sd fl R : Nat) : Nat → Option Nat
  | 0 => none
  | n + 1 => if 0 < T n e then (match yo_r T e sd fl R n with | none => some n | some r => if yo_c T n r e sd fl R < 0 then some n else some r) else yo_r T e sd fl R n
def yo_en : Option Nat → Int32
  | none => -1
  | some r => nI r
theorem yo_r_lt {T : Nat → Nat → Int} {e sd fl R : Nat} : ∀ {n r : Nat}, yo_r T e sd fl R n = some r → r < n ∧ 0 < T r e
  | 0, r, h => by cases h
  | n + 1, r, h => by
    rw [yo_r] at h
    by_cases c : 0 < T n e
    · rw [if_pos c] at h
      cases h2 : yo_r T e sd fl R n with
      | none => rw [h2] at h; injection h with h; subst h; exact ⟨Nat.lt_succ_self _, c⟩
      | some r2 =>
        rw [h2] at h
        by_cases c2 : yo_c T n r2 e sd fl R < 0
        · have h : (if yo_c T n r2 e sd fl R < 0 then some n else some r2) = some r := h
          rw [if_pos c2] at h; injection h with h; subst h; exact ⟨Nat.lt_succ_self _, c⟩
        · have h : (if yo_c T n r2 e sd fl R < 0 then some n else some r2) = some r := h
          rw [if_neg c2] at h; injection h with h; subst h
          have := yo_r_lt h2
          exact ⟨by omega, this.2⟩
    · rw [if_neg c] at h
      have := yo_r_lt h
      exact ⟨by omega, this.2⟩
/-- the table's numbers are those of the full one -/
def yt_v (R C sd : Nat) (cl : Nat → Nat) (V : Nat → Int) (T : Nat → Nat → Int) (den : Int) : Prop := (∀ k, k < R → ∀ p, p < C → V (k * 7 + p) = T k (cl p)) ∧ (∀ k, k < R → V (k * 7 + 6) = T k sd) ∧ V 42 = den
/-- the basic columns -/
def yt_k (R : Nat) (rl : Nat → Nat) (T : Nat → Nat → Int) (den : Int) : Prop := (∀ k, k < R → T k (rl k) = den) ∧ (∀ k j, k < R → j < R → k ≠ j → T k (rl j) = 0)
theorem yy_cmz_pos {a b : Int} (h : b < a) : yy_cmz a b = 1 := by unfold yy_cmz; rw [if_neg (by omega), if_neg (by omega)]
theorem yy_cmz_neg {a b : Int} (h : a < b) : yy_cmz a b = -1 := by unfold yy_cmz; rw [if_pos h]
theorem yy_cmz_z {a : Int} : yy_cmz a a = 0 := by unfold yy_cmz; rw [if_neg (by omega), if_pos rfl]
theorem yo_b1 {R : Nat} {rl : Nat → Nat} {T : Nat → Nat → Int} {den : Int} (h : yt_k R rl T den) {p q e c : Nat} (hp : p < R) (hq : q < R) (hpq : p ≠ q) (hd : 0 < den) (te : 0 < T q e) (hc : rl p = c) : yo_o T p q e c = 1 := by
  unfold yo_o
  rw [← hc, h.1 p hp, h.2 q p hq hp (by omega), Int.zero_mul]
  exact yy_cmz_pos (Int.mul_pos hd te)
theorem yo_b2 {R : Nat} {rl : Nat → Nat} {T : Nat → Nat → Int} {den : Int} (h : yt_k R rl T den) {p q e c : Nat} (hp : p < R) (hq : q < R) (hpq : p ≠ q) (hd : 0 < den) (te : 0 < T p e) (hc : rl q = c) : yo_o T p q e c = -1 := by
  unfold yo_o
  rw [← hc, h.1 q hq, h.2 p q hp hq hpq, Int.zero_mul]
  exact yy_cmz_neg (Int.mul_pos hd te)
theorem yo_b3 {R : Nat} {rl : Nat → Nat} {T : Nat → Nat → Int} {den : Int} (h : yt_k R rl T den) {p q e c k : Nat} (hp : p < R) (hq : q < R) (hk : k < R) (h1 : rl p ≠ c) (h2 : rl q ≠ c) (hc : rl k = c) : yo_o T p q e c = 0 := by
  unfold yo_o
  rw [← hc, h.2 p k hp hk (fun z => h1 (by rw [z]; exact hc)), h.2 q k hq hk (fun z => h2 (by rw [z]; exact hc)), Int.zero_mul, Int.zero_mul]
  exact yy_cmz_z
theorem yy_s_le (v : Int) : iz v.sign ≤ 0 ↔ ¬ 0 < v := by
  rcases yy_sgn v with ⟨a, b⟩ | ⟨a, b⟩ | ⟨a, b⟩ <;> rw [b]
  · exact ⟨fun _ => by omega, fun _ => by decide⟩
  · exact ⟨fun _ => by omega, fun _ => by decide⟩
  · exact ⟨fun q => absurd q (by decide), fun q => absurd a q⟩
set_option maxRecDepth 100000 in
theorem l_X5_il {G : xx_G} {l : Launch} {A : xx_H} {t R C fl : Nat} {rl cl P : Nat → Nat} {V : Nat → Int} {T : Nat → Nat → Int} {den : Int} {sd ce : Nat} {p q : Nat} {Q : Option Value ⊕ String → xx_H → Prop} (hV : ∀ i, i < 43 → (V i).natAbs < 2 ^ 200) (hv : yt_v R C sd cl V T den) (hk : yt_k R rl T den) (hd : 0 < den) (hlab : ∀ i, i < R → (∃ p, p < C ∧ cl p = fl + i) ∨ (∃ k, k < R ∧ rl k = fl + i)) (hce : ce < C) (hp : p < R) (hq : q < R) (hpq : p ≠ q) (tp : 0 < T p (cl ce)) (tq : 0 < T q (cl ce)) (hR : R ≤ 6) (hC : C ≤ 6) (k : ∀ (B : xx_H) (o : Int32), B.1 = A.1 → xx_tb B t R C fl rl cl P V → (∀ z, (z < t + 90 ∨ t + 94 ≤ z) → B.2 z = A.2 z) → o = yo_c T p q (cl ce) sd fl R → xx_X G l mX5_isLess 4 0 0 114 [(4, .int o)] [] B Q) :
    ∀ (n i : Nat), i + n = R → ∀ (B : xx_H) (o : Int32), B.1 = A.1 → xx_tb B t R C fl rl cl P V → (∀ z, (z < t + 90 ∨ t + 94 ≤ z) → B.2 z = A.2 z) → (if o = 0 then yo_l T p q (cl ce) fl n i else o) = yo_c T p q (cl ce) sd fl R → xx_X G l mX5_isLess 4 0 0 14 [(0, .ref t), (1, .int (nI p)), (2, .int (nI q)), (3, .int (nI ce)), (4, .int o), (5, .int (nI i))] [] B Q := by
  intro n
  induction n with
  | zero =>
    intro i hi B o y1 H y3 y4
    have : i = R := by omega
    subst this
    obtain ⟨ob, r6, c6, ⟨rf, rl1, rl2⟩, ⟨cf, cl1, cl2⟩, rll, cll, fll, ⟨hc, hc1, hc2⟩, rng, inj, big, ⟨ls, lef⟩, ⟨rs, rig⟩, ⟨dc, dvd⟩⟩ := id H
    refine xx_iload dX5_isLess_14 rfl ?_
    refine xx_aload_n dX5_isLess_16 rfl ?_
    refine xx_get xx_c5 dX5_isLess_17 wf_X5_9 (j := 0) (by decide) ob rfl ?_
    refine xx_icmp_ge (tgt := 114) dX5_isLess_20 (by decide) (fun j20 => ?_) (fun h => absurd (Int32.le_refl _) h)
    refine xx_less [4] ?_
    refine xx_clv (lv2 := [(4, .int o)]) rfl ?_
    refine k B o y1 H y3 ?_
    rw [← y4]
    by_cases e : o = 0
    · rw [if_pos e, e]; rfl
    · rw [if_neg e]
  | succ n ih =>
    intro i hi B o y1 H y3 y4
    obtain ⟨ob, r6, c6, ⟨rf, rl1, rl2⟩, ⟨cf, cl1, cl2⟩, rll, cll, fll, ⟨hc, hc1, hc2⟩, rng, inj, big, ⟨ls, lef⟩, ⟨rs, rig⟩, ⟨dc, dvd⟩⟩ := id H
    have hcl : ∀ k, k < R → V (k * 7 + ce) = T k (cl ce) := fun k h => hv.1 k h ce hce
    have hLb : fl + i < 2 ^ 31 := by omega
    refine xx_iload dX5_isLess_14 rfl ?_
    refine xx_aload_n dX5_isLess_16 rfl ?_
    refine xx_get xx_c5 dX5_isLess_17 wf_X5_9 (j := 0) (by decide) ob rfl ?_
    refine xx_icmp_ge (tgt := 114) dX5_isLess_20 (by decide) (fun h => absurd h (nI_ge (by omega) (by omega))) (fun j20 => ?_)
    refine xx_iload dX5_isLess_23 rfl ?_
    refine xx_if_ne (tgt := 114) dX5_isLess_25 (by decide) (fun j25 => ?_) (fun j25 => ?_)
    · refine xx_less [4] ?_
      refine xx_clv (lv2 := [(4, .int o)]) rfl ?_
      rw [if_neg j25] at y4
      exact k B o y1 H y3 y4
    · refine xx_aload_n dX5_isLess_28 rfl ?_
      refine xx_get xx_c5 dX5_isLess_29 wf_X5_25 (j := 4) (by decide) ob rfl ?_
      refine xx_aload_n dX5_isLess_32 rfl ?_
      refine xx_get xx_c5 dX5_isLess_33 wf_X5_15 (j := 1) (by decide) ob rfl ?_
      refine xx_aload_n dX5_isLess_36 rfl ?_
      refine xx_get xx_c5 dX5_isLess_37 wf_X5_18 (j := 2) (by decide) ob rfl ?_
      refine xx_iload dX5_isLess_40 rfl ?_
      refine xx_iadd dX5_isLess_42 ?_
      refine xx_eqi (y := nI (fl + i)) (nI_add fl i) ?_
      have hs0 : o = 0 := j25
      subst hs0
      rw [if_pos rfl, yo_l] at y4
      refine xx_callS (N := mX5_find) (vs := [.ref (t + 2), .int (nI C), .int (nI (fl + i))]) (rest := []) (d2 := 0) (c2 := 0) (s2 := 0) (c3 := 0) (s3 := 0) dX5_isLess_43 wm_X5_72 ws_X5_find wz_X5 (by decide) nX5_find ⟨pX5_find, Nat.le_of_ble_eq_true rfl, by decide, Nat.le_of_ble_eq_true rfl, by decide, by decide⟩ (c_X5_find (lb := cl) cl1 c6 hLb cl2 (fun j hj => by have := cll j hj; omega)) (fun v9 B9 hC => ?_) (fun E9 B9 hC => by obtain ⟨_, ⟨_, _, _, _, h⟩ | ⟨_, h⟩⟩ := hC <;> cases h)
      obtain ⟨e9, hC⟩ := hC
      rw [e9]
      rcases hC with ⟨ix, x1, x2, x3, hv9⟩ | ⟨x1, hv9⟩
      · cases hv9
        refine xx_cst (st2 := [.int (nI ix)]) rfl ?_
        refine xx_istore dX5_isLess_46 (by decide) ?_
        refine xx_clv (lv2 := [(0, .ref t), (1, .int (nI p)), (2, .int (nI q)), (3, .int (nI ce)), (4, .int 0), (5, .int (nI i)), (6, .int (nI ix))]) rfl ?_
        refine xx_iload dX5_isLess_48 rfl ?_
        refine xx_if_lt (tgt := 67) dX5_isLess_50 (by decide) (fun h => absurd h (nI_pos (by omega))) (fun j50 => ?_)
        refine xx_aload_n dX5_isLess_53 rfl ?_
        refine xx_iload_n dX5_isLess_54 rfl ?_
        refine xx_iload_n dX5_isLess_55 rfl ?_
        refine xx_iload_n dX5_isLess_56 rfl ?_
        refine xx_iload dX5_isLess_57 rfl ?_
        have c1 := c_X5_compareRatios (G := G) (l := l) (r := p) (q := q) (e := ce) (a := ix) H (by omega) (by omega) (by omega) (by omega) hV
        rw [hcl q hq, hcl p hp, hv.1 p hp ix x1, hv.1 q hq ix x1, x2] at c1
        refine xx_callV (N := mX5_compareRatios) (vs := [.int (nI p), .int (nI q), .int (nI ce), .int (nI ix)]) (b := t) (rest := []) (d2 := 3) (c2 := 0) (s2 := 0) (c3 := 0) (s3 := 0) dX5_isLess_59 wm_X5_100 wi_X5_compareRatios wv_X5_compareRatios (k := 5) rfl (by decide) ob nX5_compareRatios ⟨pX5_compareRatios, Nat.le_of_ble_eq_true rfl, by decide, Nat.le_of_ble_eq_true rfl, by decide, by decide⟩ (c1) (fun v9 D hC => ?_) (fun E9 B9 hC => absurd hC.1 (by simp))
        obtain ⟨hv8, k1, k2, k3⟩ := hC
        cases hv8
        refine xx_cst (st2 := [.int (yy_cmz (T p (fl + i) * T q (cl ce)) (T q (fl + i) * T p (cl ce)))]) rfl ?_
        refine xx_istore dX5_isLess_62 (by decide) ?_
        refine xx_clv (lv2 := [(0, .ref t), (1, .int (nI p)), (2, .int (nI q)), (3, .int (nI ce)), (4, .int (yy_cmz (T p (fl + i) * T q (cl ce)) (T q (fl + i) * T p (cl ce)))), (5, .int (nI i)), (6, .int (nI ix))]) rfl ?_
        refine xx_goto (tgt := 108) dX5_isLess_64 (by decide) ?_
        have o9 : yy_cmz (T p (fl + i) * T q (cl ce)) (T q (fl + i) * T p (cl ce)) = yo_o T p q (cl ce) (fl + i) := rfl
        refine xx_iinc (v := nI (i + 1)) dX5_isLess_108 rfl (nI_1 i) (by decide) ?_
        refine xx_goto (tgt := 14) dX5_isLess_111 (by decide) ?_
        refine xx_less [0, 1, 2, 3, 4, 5] ?_
        refine xx_clv (lv2 := [(0, .ref t), (1, .int (nI p)), (2, .int (nI q)), (3, .int (nI ce)), (4, .int (yy_cmz (T p (fl + i) * T q (cl ce)) (T q (fl + i) * T p (cl ce)))), (5, .int (nI (i + 1)))]) rfl ?_
        refine ih (i + 1) (by omega) D _ (by omega) k2 (fun z hz => (k3 z hz).trans (y3 z hz)) ?_
        rw [← y4, o9]
      · cases hv9
        refine xx_cst (st2 := [.int (-1)]) rfl ?_
        obtain ⟨kk, kk1, kk2⟩ : ∃ k, k < R ∧ rl k = fl + i := (hlab i (by omega)).resolve_left (fun ⟨a, b, c⟩ => x1 a b c)
        refine xx_istore dX5_isLess_46 (by decide) ?_
        refine xx_clv (lv2 := [(0, .ref t), (1, .int (nI p)), (2, .int (nI q)), (3, .int (nI ce)), (4, .int 0), (5, .int (nI i)), (6, .int (-1))]) rfl ?_
        refine xx_iload dX5_isLess_48 rfl ?_
        refine xx_if_lt (tgt := 67) dX5_isLess_50 (by decide) (fun j50 => ?_) (fun h => absurd (by decide) h)
        refine xx_aload_n dX5_isLess_67 rfl ?_
        refine xx_get xx_c5 dX5_isLess_68 wf_X5_21 (j := 3) (by decide) ob rfl ?_
        refine xx_iload_n dX5_isLess_71 rfl ?_
        refine xx_iald dX5_isLess_72 rl1 (vp_in_nI (by omega) (by decide)) ?_
        refine xx_eqi (y := nI (rl p)) (by rw [nI_clamp (by omega)]; exact rl2 p hp) ?_
        have rp := rll p hp
        refine xx_aload_n dX5_isLess_73 rfl ?_
        refine xx_get xx_c5 dX5_isLess_74 wf_X5_18 (j := 2) (by decide) ob rfl ?_
        refine xx_iload dX5_isLess_77 rfl ?_
        refine xx_iadd dX5_isLess_79 ?_
        refine xx_eqi (y := nI (fl + i)) (nI_add fl i) ?_
        refine xx_icmp_ne (tgt := 89) dX5_isLess_80 (by decide) (fun j80 => ?_) (fun j80 => ?_)
        · have j80 : ¬ rl p = fl + i := fun hq9 => j80 ((nI_eq (a := rl p) (b := fl + i) (by omega) (by omega)).mpr hq9)
          refine xx_aload_n dX5_isLess_89 rfl ?_
          refine xx_get xx_c5 dX5_isLess_90 wf_X5_21 (j := 3) (by decide) ob rfl ?_
          refine xx_iload_n dX5_isLess_93 rfl ?_
          refine xx_iald dX5_isLess_94 rl1 (vp_in_nI (by omega) (by decide)) ?_
          refine xx_eqi (y := nI (rl q)) (by rw [nI_clamp (by omega)]; exact rl2 q hq) ?_
          have rq := rll q hq
          refine xx_aload_n dX5_isLess_95 rfl ?_
          refine xx_get xx_c5 dX5_isLess_96 wf_X5_18 (j := 2) (by decide) ob rfl ?_
          refine xx_iload dX5_isLess_99 rfl ?_
          refine xx_iadd dX5_isLess_101 ?_
          refine xx_eqi (y := nI (fl + i)) (nI_add fl i) ?_
          refine xx_icmp_ne (tgt := 108) dX5_isLess_102 (by decide) (fun j102 => ?_) (fun j102 => ?_)
          · have j102 : ¬ rl q = fl + i := fun hq9 => j102 ((nI_eq (a := rl q) (b := fl + i) (by omega) (by omega)).mpr hq9)
            have o9 : (0 : Int32) = yo_o T p q (cl ce) (fl + i) := (yo_b3 hk hp hq kk1 j80 j102 kk2).symm
            refine xx_iinc (v := nI (i + 1)) dX5_isLess_108 rfl (nI_1 i) (by decide) ?_
            refine xx_goto (tgt := 14) dX5_isLess_111 (by decide) ?_
            refine xx_less [0, 1, 2, 3, 4, 5] ?_
            refine xx_clv (lv2 := [(0, .ref t), (1, .int (nI p)), (2, .int (nI q)), (3, .int (nI ce)), (4, .int ((0 : Int32))), (5, .int (nI (i + 1)))]) rfl ?_
            refine ih (i + 1) (by omega) B _ y1 H y3 ?_
            rw [← y4, o9]
          · have j102 : rl q = fl + i := (nI_eq (a := rl q) (b := fl + i) (by omega) (by omega)).mp j102
            refine xx_iconst (v := (-1)) dX5_isLess_105 (by decide) ?_
            refine xx_istore dX5_isLess_106 (by decide) ?_
            refine xx_clv (lv2 := [(0, .ref t), (1, .int (nI p)), (2, .int (nI q)), (3, .int (nI ce)), (4, .int (-1)), (5, .int (nI i)), (6, .int (-1))]) rfl ?_
            have o9 : (-1 : Int32) = yo_o T p q (cl ce) (fl + i) := (yo_b2 hk hp hq hpq hd tp j102).symm
            refine xx_iinc (v := nI (i + 1)) dX5_isLess_108 rfl (nI_1 i) (by decide) ?_
            refine xx_goto (tgt := 14) dX5_isLess_111 (by decide) ?_
            refine xx_less [0, 1, 2, 3, 4, 5] ?_
            refine xx_clv (lv2 := [(0, .ref t), (1, .int (nI p)), (2, .int (nI q)), (3, .int (nI ce)), (4, .int ((-1 : Int32))), (5, .int (nI (i + 1)))]) rfl ?_
            refine ih (i + 1) (by omega) B _ y1 H y3 ?_
            rw [← y4, o9]
        · have j80 : rl p = fl + i := (nI_eq (a := rl p) (b := fl + i) (by omega) (by omega)).mp j80
          refine xx_iconst (v := 1) dX5_isLess_83 (by decide) ?_
          refine xx_istore dX5_isLess_84 (by decide) ?_
          refine xx_clv (lv2 := [(0, .ref t), (1, .int (nI p)), (2, .int (nI q)), (3, .int (nI ce)), (4, .int 1), (5, .int (nI i)), (6, .int (-1))]) rfl ?_
          refine xx_goto (tgt := 108) dX5_isLess_86 (by decide) ?_
          have o9 : (1 : Int32) = yo_o T p q (cl ce) (fl + i) := (yo_b1 hk hp hq hpq hd tq j80).symm
          refine xx_iinc (v := nI (i + 1)) dX5_isLess_108 rfl (nI_1 i) (by decide) ?_
          refine xx_goto (tgt := 14) dX5_isLess_111 (by decide) ?_
          refine xx_less [0, 1, 2, 3, 4, 5] ?_
          refine xx_clv (lv2 := [(0, .ref t), (1, .int (nI p)), (2, .int (nI q)), (3, .int (nI ce)), (4, .int ((1 : Int32))), (5, .int (nI (i + 1)))]) rfl ?_
          refine ih (i + 1) (by omega) B _ y1 H y3 ?_
          rw [← y4, o9]
set_option maxRecDepth 100000 in
theorem c_X5_isLess {G : xx_G} {l : Launch} {A : xx_H} {t R C fl : Nat} {rl cl P : Nat → Nat} {V : Nat → Int} {T : Nat → Nat → Int} {den : Int} {sd ce : Nat} {p q : Nat} (H : xx_tb A t R C fl rl cl P V) (hV : ∀ i, i < 43 → (V i).natAbs < 2 ^ 200) (hv : yt_v R C sd cl V T den) (hk : yt_k R rl T den) (hd : 0 < den) (hlab : ∀ i, i < R → (∃ p, p < C ∧ cl p = fl + i) ∨ (∃ k, k < R ∧ rl k = fl + i)) (hce : ce < C) (hp : p < R) (hq : q < R) (hpq : p ≠ q) (tp : 0 < T p (cl ce)) (tq : 0 < T q (cl ce)) : xx_X G l mX5_isLess 4 0 0 0 (lv_args 0 [.ref t, .int (nI p), .int (nI q), .int (nI ce)]) [] A (fun z B => z = .inl (some (.int (if yo_c T p q (cl ce) sd fl R < 0 then 1 else 0))) ∧ B.1 = A.1 ∧ xx_tb B t R C fl rl cl P V ∧ ∀ z, (z < t + 90 ∨ t + 94 ≤ z) → B.2 z = A.2 z) := by
  obtain ⟨ob, r6, c6, ⟨rf, rl1, rl2⟩, ⟨cf, cl1, cl2⟩, rll, cll, fll, ⟨hc, hc1, hc2⟩, rng, inj, big, ⟨ls, lef⟩, ⟨rs, rig⟩, ⟨dc, dvd⟩⟩ := id H
  refine xx_clv (lv2 := [(0, .ref t), (1, .int (nI p)), (2, .int (nI q)), (3, .int (nI ce))]) rfl ?_
  refine xx_aload_n dX5_isLess_0 rfl ?_
  refine xx_iload_n dX5_isLess_1 rfl ?_
  refine xx_iload_n dX5_isLess_2 rfl ?_
  refine xx_iload_n dX5_isLess_3 rfl ?_
  refine xx_bipush (v := 6) dX5_isLess_4 (by decide) ?_
  refine xx_cst (st2 := [.int (nI 6), .int (nI ce), .int (nI q), .int (nI p), .ref t]) rfl ?_
  have c1 := c_X5_compareRatios (G := G) (l := l) (r := p) (q := q) (e := ce) (a := 6) H (by omega) (by omega) (by omega) (by decide) hV
  rw [hv.1 q hq ce hce, hv.1 p hp ce hce, hv.2.1 p hp, hv.2.1 q hq] at c1
  refine xx_callV (N := mX5_compareRatios) (vs := [.int (nI p), .int (nI q), .int (nI ce), .int (nI 6)]) (b := t) (rest := []) (d2 := 3) (c2 := 0) (s2 := 0) (c3 := 0) (s3 := 0) dX5_isLess_6 wm_X5_100 wi_X5_compareRatios wv_X5_compareRatios (k := 5) rfl (by decide) ob nX5_compareRatios ⟨pX5_compareRatios, Nat.le_of_ble_eq_true rfl, by decide, Nat.le_of_ble_eq_true rfl, by decide, by decide⟩ (c1) (fun v9 D hC => ?_) (fun E9 B9 hC => absurd hC.1 (by simp))
  obtain ⟨hv8, k1, k2, k3⟩ := hC
  cases hv8
  refine xx_cst (st2 := [.int (yo_o T p q (cl ce) sd)]) rfl ?_
  refine xx_istore dX5_isLess_9 (by decide) ?_
  refine xx_clv (lv2 := [(0, .ref t), (1, .int (nI p)), (2, .int (nI q)), (3, .int (nI ce)), (4, .int (yo_o T p q (cl ce) sd))]) rfl ?_
  refine xx_iconst (v := 0) dX5_isLess_11 (by decide) ?_
  refine xx_istore dX5_isLess_12 (by decide) ?_
  refine xx_clv (lv2 := [(0, .ref t), (1, .int (nI p)), (2, .int (nI q)), (3, .int (nI ce)), (4, .int (yo_o T p q (cl ce) sd)), (5, .int 0)]) rfl ?_
  refine xx_clv (lv2 := [(0, .ref t), (1, .int (nI p)), (2, .int (nI q)), (3, .int (nI ce)), (4, .int (yo_o T p q (cl ce) sd)), (5, .int (nI 0))]) rfl ?_
  refine l_X5_il (A := A) (T := T) (sd := sd) hV hv hk hd hlab hce hp hq hpq tp tq r6 c6 (fun B o z1 z2 z3 z4 => ?_) R 0 (by omega) D _ k1 k2 k3 rfl
  refine xx_iload dX5_isLess_114 rfl ?_
  refine xx_if_ge (tgt := 123) dX5_isLess_116 (by decide) (fun j116 => ?_) (fun j116 => ?_)
  · refine xx_iconst (v := 0) dX5_isLess_123 (by decide) ?_
    exact xx_zret dX5_isLess_124 rfl rfl ⟨by rw [← z4, if_neg (fun q9 => absurd q9 (Int32.not_lt.mpr j116))], z1, z2, z3⟩
  · refine xx_iconst (v := 1) dX5_isLess_119 (by decide) ?_
    refine xx_goto (tgt := 124) dX5_isLess_120 (by decide) ?_
    exact xx_zret dX5_isLess_124 rfl rfl ⟨by rw [← z4, if_pos (Int32.not_le.mp j116)], z1, z2, z3⟩
set_option maxRecDepth 100000 in
theorem l_X5_lr {G : xx_G} {l : Launch} {A : xx_H} {t R C fl : Nat} {rl cl P : Nat → Nat} {V : Nat → Int} {T : Nat → Nat → Int} {den : Int} {sd ce : Nat} {Q : Option Value ⊕ String → xx_H → Prop} (hV : ∀ i, i < 43 → (V i).natAbs < 2 ^ 200) (hv : yt_v R C sd cl V T den) (hk : yt_k R rl T den) (hd : 0 < den) (hlab : ∀ i, i < R → (∃ p, p < C ∧ cl p = fl + i) ∨ (∃ k, k < R ∧ rl k = fl + i)) (hce : ce < C) (hR : R ≤ 6) (hC : C ≤ 6) (k : ∀ (B : xx_H), B.1 = A.1 → xx_tb B t R C fl rl cl P V → (∀ z, (z < t + 90 ∨ t + 94 ≤ z) → B.2 z = A.2 z) → Q (.inl (some (.int (yo_en (yo_r T (cl ce) sd fl R R))))) B) :
    ∀ (n i : Nat), i + n = R → ∀ (B : xx_H), B.1 = A.1 → xx_tb B t R C fl rl cl P V → (∀ z, (z < t + 90 ∨ t + 94 ≤ z) → B.2 z = A.2 z) → xx_X G l mX5_leavingRow 5 0 0 4 [(0, .ref t), (1, .int (nI ce)), (2, .int (yo_en (yo_r T (cl ce) sd fl R i))), (3, .int (nI i))] [] B Q := by
  intro n
  induction n with
  | zero =>
    intro i hi B y1 H y3
    have : i = R := by omega
    subst this
    obtain ⟨ob, r6, c6, ⟨rf, rl1, rl2⟩, ⟨cf, cl1, cl2⟩, rll, cll, fll, ⟨hc, hc1, hc2⟩, rng, inj, big, ⟨ls, lef⟩, ⟨rs, rig⟩, ⟨dc, dvd⟩⟩ := id H
    refine xx_iload_n dX5_leavingRow_4 rfl ?_
    refine xx_aload_n dX5_leavingRow_5 rfl ?_
    refine xx_get xx_c5 dX5_leavingRow_6 wf_X5_9 (j := 0) (by decide) ob rfl ?_
    refine xx_icmp_ge (tgt := 51) dX5_leavingRow_9 (by decide) (fun j9 => ?_) (fun h => absurd (Int32.le_refl _) h)
    refine xx_iload_n dX5_leavingRow_51 rfl ?_
    exact xx_iret dX5_leavingRow_52 rfl (k B y1 H y3)
  | succ n ih =>
    intro i hi B y1 H y3
    obtain ⟨ob, r6, c6, ⟨rf, rl1, rl2⟩, ⟨cf, cl1, cl2⟩, rll, cll, fll, ⟨hc, hc1, hc2⟩, rng, inj, big, ⟨ls, lef⟩, ⟨rs, rig⟩, ⟨dc, dvd⟩⟩ := id H
    have eV : V (i * 7 + ce) = T i (cl ce) := hv.1 i (by omega) ce hce
    obtain ⟨fb, lb, bo, _⟩ := id (big (i * 7 + ce) (by omega))
    rw [eV] at bo
    refine xx_iload_n dX5_leavingRow_4 rfl ?_
    refine xx_aload_n dX5_leavingRow_5 rfl ?_
    refine xx_get xx_c5 dX5_leavingRow_6 wf_X5_9 (j := 0) (by decide) ob rfl ?_
    refine xx_icmp_ge (tgt := 51) dX5_leavingRow_9 (by decide) (fun h => absurd h (nI_ge (by omega) (by omega))) (fun j9 => ?_)
    refine xx_aload_n dX5_leavingRow_12 rfl ?_
    refine xx_get xx_c5 dX5_leavingRow_13 wf_X5_32 (j := 5) (by decide) ob rfl ?_
    refine xx_iload_n dX5_leavingRow_16 rfl ?_
    refine xx_bipush (v := 7) dX5_leavingRow_17 (by decide) ?_
    refine xx_imul dX5_leavingRow_19 ?_
    refine xx_eqi (y := nI (i * 7)) (pk_mul i 7) ?_
    refine xx_iload_n dX5_leavingRow_20 rfl ?_
    refine xx_iadd dX5_leavingRow_21 ?_
    refine xx_eqi (y := nI (i * 7 + ce)) (nI_add (i * 7) ce) ?_
    refine xx_aald (kd := 10) (b := P (i * 7 + ce)) dX5_leavingRow_22 (by decide) rfl hc1 (vp_in_nI (by omega) (by decide)) (by rw [nI_clamp (by omega)]; exact hc2 _ (by omega)) ?_
    refine xx_get xx_c0 dX5_leavingRow_23 wf_X5_93 (j := 0) (by decide) bo rfl ?_
    refine xx_if_le (tgt := 45) dX5_leavingRow_26 (by decide) (fun j26 => ?_) (fun j26 => ?_)
    · have e9 : yo_r T (cl ce) sd fl R (i + 1) = yo_r T (cl ce) sd fl R i := by rw [yo_r, if_neg ((yy_s_le _).mp j26)]
      refine xx_iinc (v := nI (i + 1)) dX5_leavingRow_45 rfl (nI_1 i) (by decide) ?_
      refine xx_goto (tgt := 4) dX5_leavingRow_48 (by decide) ?_
      refine xx_clv (lv2 := [(0, .ref t), (1, .int (nI ce)), (2, .int (yo_en (yo_r T (cl ce) sd fl R (i + 1)))), (3, .int (nI (i + 1)))]) (by rw [e9]; rfl) ?_
      exact ih (i + 1) (by omega) B y1 H y3
    · have tp : 0 < T i (cl ce) := by apply Classical.byContradiction; intro q9; exact j26 ((yy_s_le _).mpr q9)
      cases er : yo_r T (cl ce) sd fl R i with
      | none =>
        refine xx_clv (lv2 := [(0, .ref t), (1, .int (nI ce)), (2, .int (-1)), (3, .int (nI i))]) rfl ?_
        refine xx_iload_n dX5_leavingRow_29 rfl ?_
        refine xx_if_lt (tgt := 43) dX5_leavingRow_30 (by decide) (fun j30 => ?_) (fun h => absurd (by decide) h)
        refine xx_iload_n dX5_leavingRow_43 rfl ?_
        refine xx_istore_n dX5_leavingRow_44 (by decide) ?_
        refine xx_clv (lv2 := [(0, .ref t), (1, .int (nI ce)), (2, .int (nI i)), (3, .int (nI i))]) rfl ?_
        have e9 : yo_r T (cl ce) sd fl R (i + 1) = some i := by rw [yo_r, if_pos tp, er]
        refine xx_iinc (v := nI (i + 1)) dX5_leavingRow_45 rfl (nI_1 i) (by decide) ?_
        refine xx_goto (tgt := 4) dX5_leavingRow_48 (by decide) ?_
        refine xx_clv (lv2 := [(0, .ref t), (1, .int (nI ce)), (2, .int (yo_en (yo_r T (cl ce) sd fl R (i + 1)))), (3, .int (nI (i + 1)))]) (by rw [e9]; rfl) ?_
        exact ih (i + 1) (by omega) B y1 H y3
      | some r =>
        refine xx_clv (lv2 := [(0, .ref t), (1, .int (nI ce)), (2, .int (nI r)), (3, .int (nI i))]) rfl ?_
        obtain ⟨rlt, tr⟩ := yo_r_lt er
        refine xx_iload_n dX5_leavingRow_29 rfl ?_
        refine xx_if_lt (tgt := 43) dX5_leavingRow_30 (by decide) (fun h => absurd h (nI_pos (by omega))) (fun j30 => ?_)
        refine xx_aload_n dX5_leavingRow_33 rfl ?_
        refine xx_iload_n dX5_leavingRow_34 rfl ?_
        refine xx_iload_n dX5_leavingRow_35 rfl ?_
        refine xx_iload_n dX5_leavingRow_36 rfl ?_
        have c1 := c_X5_isLess (G := G) (l := l) (T := T) (sd := sd) (p := i) (q := r) H hV hv hk hd hlab hce (by omega) (by omega) (by omega) tp tr
        refine xx_callV (N := mX5_isLess) (vs := [.int (nI i), .int (nI r), .int (nI ce)]) (b := t) (rest := []) (d2 := 4) (c2 := 0) (s2 := 0) (c3 := 0) (s3 := 0) dX5_leavingRow_37 wm_X5_96 wi_X5_isLess wv_X5_isLess (k := 5) rfl (by decide) ob nX5_isLess ⟨pX5_isLess, Nat.le_of_ble_eq_true rfl, by decide, Nat.le_of_ble_eq_true rfl, by decide, by decide⟩ (c1) (fun v9 D hC => ?_) (fun E9 B9 hC => absurd hC.1 (by simp))
        obtain ⟨hv8, k1, k2, k3⟩ := hC
        cases hv8
        refine xx_cst (st2 := [.int (if yo_c T i r (cl ce) sd fl R < 0 then 1 else 0)]) rfl ?_
        refine xx_if_eq (tgt := 45) dX5_leavingRow_40 (by decide) (fun j40 => ?_) (fun j40 => ?_)
        · have c9 : ¬ yo_c T i r (cl ce) sd fl R < 0 := by intro q9; rw [if_pos q9] at j40; exact absurd j40 (by decide)
          have e9 : yo_r T (cl ce) sd fl R (i + 1) = some r := by rw [yo_r, if_pos tp, er]; exact if_neg c9
          refine xx_iinc (v := nI (i + 1)) dX5_leavingRow_45 rfl (nI_1 i) (by decide) ?_
          refine xx_goto (tgt := 4) dX5_leavingRow_48 (by decide) ?_
          refine xx_clv (lv2 := [(0, .ref t), (1, .int (nI ce)), (2, .int (yo_en (yo_r T (cl ce) sd fl R (i + 1)))), (3, .int (nI (i + 1)))]) (by rw [e9]; rfl) ?_
          exact ih (i + 1) (by omega) D (by omega) k2 (fun z hz => (k3 z hz).trans (y3 z hz))
        · refine xx_iload_n dX5_leavingRow_43 rfl ?_
          refine xx_istore_n dX5_leavingRow_44 (by decide) ?_
          refine xx_clv (lv2 := [(0, .ref t), (1, .int (nI ce)), (2, .int (nI i)), (3, .int (nI i))]) rfl ?_
          have c9 : yo_c T i r (cl ce) sd fl R < 0 := by apply Classical.byContradiction; intro q9; exact j40 (if_neg q9)
          have e9 : yo_r T (cl ce) sd fl R (i + 1) = some i := by rw [yo_r, if_pos tp, er]; exact if_pos c9
          refine xx_iinc (v := nI (i + 1)) dX5_leavingRow_45 rfl (nI_1 i) (by decide) ?_
          refine xx_goto (tgt := 4) dX5_leavingRow_48 (by decide) ?_
          refine xx_clv (lv2 := [(0, .ref t), (1, .int (nI ce)), (2, .int (yo_en (yo_r T (cl ce) sd fl R (i + 1)))), (3, .int (nI (i + 1)))]) (by rw [e9]; rfl) ?_
          exact ih (i + 1) (by omega) D (by omega) k2 (fun z hz => (k3 z hz).trans (y3 z hz))
set_option maxRecDepth 100000 in
theorem c_X5_leavingRow {G : xx_G} {l : Launch} {A : xx_H} {t R C fl : Nat} {rl cl P : Nat → Nat} {V : Nat → Int} {T : Nat → Nat → Int} {den : Int} {sd ce : Nat} (H : xx_tb A t R C fl rl cl P V) (hV : ∀ i, i < 43 → (V i).natAbs < 2 ^ 200) (hv : yt_v R C sd cl V T den) (hk : yt_k R rl T den) (hd : 0 < den) (hlab : ∀ i, i < R → (∃ p, p < C ∧ cl p = fl + i) ∨ (∃ k, k < R ∧ rl k = fl + i)) (hce : ce < C) : xx_X G l mX5_leavingRow 5 0 0 0 (lv_args 0 [.ref t, .int (nI ce)]) [] A (fun z B => z = .inl (some (.int (yo_en (yo_r T (cl ce) sd fl R R)))) ∧ B.1 = A.1 ∧ xx_tb B t R C fl rl cl P V ∧ ∀ z, (z < t + 90 ∨ t + 94 ≤ z) → B.2 z = A.2 z) := by
  have r6 := H.2.1
  have c6 := H.2.2.1
  refine xx_clv (lv2 := [(0, .ref t), (1, .int (nI ce))]) rfl ?_
  refine xx_iconst (v := (-1)) dX5_leavingRow_0 (by decide) ?_
  refine xx_istore_n dX5_leavingRow_1 (by decide) ?_
  refine xx_clv (lv2 := [(0, .ref t), (1, .int (nI ce)), (2, .int (-1))]) rfl ?_
  refine xx_iconst (v := 0) dX5_leavingRow_2 (by decide) ?_
  refine xx_istore_n dX5_leavingRow_3 (by decide) ?_
  refine xx_clv (lv2 := [(0, .ref t), (1, .int (nI ce)), (2, .int (-1)), (3, .int 0)]) rfl ?_
  refine xx_clv (lv2 := [(0, .ref t), (1, .int (nI ce)), (2, .int (yo_en (yo_r T (cl ce) sd fl R 0))), (3, .int (nI 0))]) rfl ?_
  exact l_X5_lr (T := T) (sd := sd) hV hv hk hd hlab hce r6 c6 (fun B z1 z2 z3 => ⟨rfl, z1, z2, z3⟩) R 0 (by omega) A rfl H (fun z _ => rfl)
