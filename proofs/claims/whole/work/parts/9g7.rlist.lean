/-! ===== the reference's list ===== -/
def xx_sup (B : xx_H) (b : Nat) (s9 : yn_S) : Prop := ∃ f, B.2 (b + 11) = xx_i 200 f ∧ ∀ e, e < s9.1 → f (2 * e) = nI (s9.2.1 e) ∧ f (2 * e + 1) = nI (s9.2.2 e)
theorem xx_sup.to {B C : xx_H} {b : Nat} {s9 : yn_S} (h : xx_sup B b s9) (hq : C.2 (b + 11) = B.2 (b + 11)) : xx_sup C b s9 := by
  obtain ⟨f, h1, h2⟩ := h
  exact ⟨f, hq.trans h1, h2⟩
def yn_pl (N : Nat → Int) (W : Nat → Nat → Nat → Int) (le : Nat → Int) (s9 : yn_S) : Prop := ∀ e, e < s9.1 → xx_pl N (330 + 14 * e) (yn_X W le (s9.2.1 e) (s9.2.2 e)) (yn_tt W le (s9.2.1 e) (s9.2.2 e))
theorem yn_pl.to {N N2 : Nat → Int} {W : Nat → Nat → Nat → Int} {le : Nat → Int} {s9 : yn_S} (h : yn_pl N W le s9) (hq : ∀ r, 330 ≤ r → r < 330 + 14 * s9.1 → N2 r = N r) : yn_pl N2 W le s9 := fun e he => (h e he).to (fun r a1 a2 => hq r (by omega) (by omega))
set_option maxRecDepth 100000 in
theorem l_X9_l1 {G : xx_G} {l : Launch} {A : xx_H} {b : Nat} {hr st : Value} {m n : Nat} {N : Nat → Int} {W : Nat → Nat → Nat → Int} {le : Nat → Int} {mu : Nat → Nat} {E : Nat → Nat → Bool} {S k9 : Nat} {s9 : yn_S} {Q : Option Value ⊕ String → xx_H → Prop} (hg : yg_ok m n W le) (hP : xx_rp A b m n W le mu) (hE : ∀ S, S < 2 ^ m → ∀ U, U < 2 ^ n → yb_c U = yb_c S → (E S U = true ↔ yn_h m n W le S U)) (hS : S < 2 ^ m) (hk : yb_c S = k9) (k0 : 0 < k9) (hok : yn_ok m n E s9) (kC : ∀ (B : xx_H) (N2 : Nat → Int) (tu2 : Value), (B.1 = A.1) → (1 ≤ (2 ^ n)) → (B.2 b = xx_o 9 (xx_mf b (.int 0) (.int (nI m)) (.int (nI n)) hr st (.int 1) (.int (nI (((yn_row E k9 S s9 (2 ^ n)).1)))) tu2)) → (xx_rw B b N2) → (∃ g, B.2 (b + 19) = xx_i 6 g) → (∃ g, B.2 (b + 20) = xx_i 6 g) → (xx_sup B b (yn_row E k9 S s9 (2 ^ n))) → (yn_pl N2 W le (yn_row E k9 S s9 (2 ^ n))) → (∀ q, 14 ≤ q → q ≠ 19 → q ≠ 22 → q ≠ 24 → q ≠ 28 → q ≠ 29 → (q < 31 ∨ 38 ≤ q) → (q < 240 ∨ 296 ≤ q) → q < 330 → N2 q = N q) → (∀ q, q ≠ b → q ≠ b + 1 → q ≠ b + 2 → q ≠ b + 3 → q ≠ b + 11 → q ≠ b + 17 → q ≠ b + 18 → q ≠ b + 19 → q ≠ b + 20 → B.2 q = A.2 q) → xx_X G l mX9_list 7 0 0 158 [(0, .ref b), (1, .int (nI k9)), (2, .int (nI S))] [] B Q) :
    ∀ (v i : Nat), i + v = 2 ^ n → ∀ (B : xx_H) (N2 : Nat → Int) (tu2 : Value), (B.1 = A.1) → (1 ≤ i) → (B.2 b = xx_o 9 (xx_mf b (.int 0) (.int (nI m)) (.int (nI n)) hr st (.int 1) (.int (nI (((yn_row E k9 S s9 i).1)))) tu2)) → (xx_rw B b N2) → (∃ g, B.2 (b + 19) = xx_i 6 g) → (∃ g, B.2 (b + 20) = xx_i 6 g) → (xx_sup B b (yn_row E k9 S s9 i)) → (yn_pl N2 W le (yn_row E k9 S s9 i)) → (∀ q, 14 ≤ q → q ≠ 19 → q ≠ 22 → q ≠ 24 → q ≠ 28 → q ≠ 29 → (q < 31 ∨ 38 ≤ q) → (q < 240 ∨ 296 ≤ q) → q < 330 → N2 q = N q) → (∀ q, q ≠ b → q ≠ b + 1 → q ≠ b + 2 → q ≠ b + 3 → q ≠ b + 11 → q ≠ b + 17 → q ≠ b + 18 → q ≠ b + 19 → q ≠ b + 20 → B.2 q = A.2 q) → xx_X G l mX9_list 7 0 0 79 [(0, .ref b), (1, .int (nI k9)), (2, .int (nI S)), (3, .int (nI i))] [] B Q := by
  have hm1 := hg.1
  have hm := hg.2.1
  have hn1 := hg.2.2.1
  have hn := hg.2.2.2.1
  have mw := yk_pw hm
  have nw := yk_pw hn
  have m1 : 1 ≤ 2 ^ m := Nat.two_pow_pos m
  have n1 : 1 ≤ 2 ^ n := Nat.two_pow_pos n
  intro v
  induction v with
  | zero =>
    intro i h9i B N2 tu2 y1 y0 yb y2 yc yo ys yp y4 y5
    have h9e : 2 ^ n = i := by omega
    subst h9e
    refine xx_clv (lv2 := [(0, .ref b), (1, .int (nI k9)), (2, .int (nI S)), (3, .int (nI (2 ^ n)))]) rfl ?_
    refine xx_iload_n dX9_list_79 rfl ?_
    refine xx_iconst (v := 1) dX9_list_80 (by decide) ?_
    refine xx_aload_n dX9_list_81 rfl ?_
    refine xx_get xx_c9 dX9_list_82 wf_X9_123 (j := 5) (by decide) yb rfl ?_
    refine xx_ishl dX9_list_85 ?_
    refine xx_eqi (y := nI (2 ^ n)) (yb_1s6 n (by omega)) ?_
    refine xx_icmp_ge (tgt := 158) dX9_list_86 (by decide) (fun j86 => ?_) (fun h => absurd (Int32.le_refl _) h)
    refine xx_less [0, 1, 2] ?_
    refine xx_clv (lv2 := [(0, .ref b), (1, .int (nI k9)), (2, .int (nI S))]) rfl ?_
    exact kC B N2 tu2 y1 y0 yb y2 yc yo ys yp y4 y5
  | succ v ih =>
    intro i h9i B N2 tu2 y1 y0 yb y2 yc yo ys yp y4 y5
    have ok9 := yn_row_ok hok hS hk k0 i (by omega)
    have c100 := ok9.1
    obtain ⟨ct, hct⟩ : ∃ c, c = (yn_row E k9 S s9 i).1 := ⟨_, rfl⟩
    rw [← hct] at yb c100
    refine xx_iload_n dX9_list_79 rfl ?_
    refine xx_iconst (v := 1) dX9_list_80 (by decide) ?_
    refine xx_aload_n dX9_list_81 rfl ?_
    refine xx_get xx_c9 dX9_list_82 wf_X9_123 (j := 5) (by decide) yb rfl ?_
    refine xx_ishl dX9_list_85 ?_
    refine xx_eqi (y := nI (2 ^ n)) (yb_1s6 n (by omega)) ?_
    refine xx_icmp_ge (tgt := 158) dX9_list_86 (by decide) (fun h => absurd h (nI_ge (a := i) (b := 2 ^ n) (by omega) (by omega))) (fun j86 => ?_)
    refine xx_aload_n dX9_list_89 rfl ?_
    refine xx_get xx_c9 dX9_list_90 wf_X9_136 (j := 16) (by decide) yb rfl ?_
    refine xx_bipush (v := 100) dX9_list_93 (by decide) ?_
    refine xx_icmp_ge (tgt := 158) dX9_list_95 (by decide) (fun j95 => ?_) (fun j95 => ?_)
    · have j95 : 100 ≤ ct := (nI_leI (a := 100) (b := ct) (by omega) (by omega)).mp j95
      have ff : yn_row E k9 S s9 (2 ^ n) = yn_row E k9 S s9 i := yn_row_full (by omega) (by omega)
      rw [hct, ← ff] at yb
      rw [← ff] at ys yp
      refine xx_less [0, 1, 2] ?_
      refine xx_clv (lv2 := [(0, .ref b), (1, .int (nI k9)), (2, .int (nI S))]) rfl ?_
      exact kC B N2 tu2 y1 n1 yb y2 yc yo ys yp y4 y5
    · have j95 : ¬ 100 ≤ ct := fun hq9 => j95 ((nI_leI (a := 100) (b := ct) (by omega) (by omega)).mpr hq9)
      refine xx_aload_n dX9_list_98 rfl ?_
      refine xx_iload_n dX9_list_99 rfl ?_
      obtain ⟨gc, yc2⟩ := yc
      refine xx_callV (N := mX9_bits) (vs := [.int (nI i)]) (b := b) (rest := []) (d2 := 1) (c2 := 0) (s2 := 0) (c3 := 0) (s3 := 0) dX9_list_100 wm_X9_217 wi_X9_bits wv_X9_bits (k := 9) rfl (by decide) yb nX9_bits ⟨pX9_bits, Nat.le_of_ble_eq_true rfl, by decide, Nat.le_of_ble_eq_true rfl, by decide, by decide⟩ (c_X9_bits (v9 := i) yb (by omega) yc2) (fun v9 Eq1 hC => ?_) (fun E9 B9 hC => absurd hC.1 (by simp))
      obtain ⟨hv9, zq1, ⟨gq, hcq, _⟩, oq1⟩ := hC
      cases hv9
      refine xx_cst (st2 := [.int (nI (yb_c i))]) rfl ?_
      have c6 := yb_c6 i (by omega)
      have hb1 := (oq1 b (by omega)).trans yb
      have n1q : xx_rw Eq1 b N2 := y2.to (oq1 _ (by omega)) (oq1 _ (by omega)) (oq1 _ (by omega)) (oq1 _ (by omega)) (oq1 _ (by omega))
      obtain ⟨go, yo2⟩ := yo
      have hoq := (oq1 (b + 20) (by omega)).trans yo2
      have y5q : ∀ q, q ≠ b → q ≠ b + 1 → q ≠ b + 2 → q ≠ b + 3 → q ≠ b + 11 → q ≠ b + 17 → q ≠ b + 18 → q ≠ b + 19 → q ≠ b + 20 → Eq1.2 q = A.2 q := fun q a0 a1 a2 a3 a4 a5 a6 a7 a8 => (oq1 q a7).trans (y5 q a0 a1 a2 a3 a4 a5 a6 a7 a8)
      have cS := yb_c6 S (by omega)
      refine xx_iload_n dX9_list_103 rfl ?_
      refine xx_icmp_ne (tgt := 152) dX9_list_104 (by decide) (fun j104 => ?_) (fun j104 => ?_)
      · have j104 : ¬ yb_c i = k9 := fun hq9 => j104 ((nI_eq (a := yb_c i) (b := k9) (by omega) (by omega)).mpr hq9)
        have st9 : yn_row E k9 S s9 (i + 1) = yn_row E k9 S s9 i := if_neg (fun q => j104 q.2.1)
        rw [hct, ← st9] at hb1
        rw [← st9] at ys yp
        refine xx_iinc (v := nI (i + 1)) dX9_list_152 rfl (nI_1 i) (by decide) ?_
        refine xx_clv (lv2 := [(0, .ref b), (1, .int (nI k9)), (2, .int (nI S)), (3, .int (nI (i + 1)))]) rfl ?_
        refine xx_goto (tgt := 79) dX9_list_155 (by decide) ?_
        refine xx_less [0, 1, 2, 3] ?_
        refine xx_clv (lv2 := [(0, .ref b), (1, .int (nI k9)), (2, .int (nI S)), (3, .int (nI (i + 1)))]) rfl ?_
        refine ih (i + 1) (by omega) Eq1 N2 tu2 (by omega) (by omega) hb1 n1q ⟨_, hcq⟩ ⟨_, hoq⟩ (ys.to (oq1 _ (by omega))) yp y4 y5q
      · have j104 : yb_c i = k9 := (nI_eq (a := yb_c i) (b := k9) (by omega) (by omega)).mp j104
        refine xx_aload_n dX9_list_107 rfl ?_
        refine xx_iload_n dX9_list_108 rfl ?_
        refine xx_iload_n dX9_list_109 rfl ?_
        have ec9 : yb_c i = yb_c S := by omega
        refine xx_callV (N := mX9_isEntry) (vs := [.int (nI S), .int (nI i)]) (b := b) (rest := []) (d2 := 6) (c2 := 0) (s2 := 0) (c3 := 0) (s3 := 0) dX9_list_110 wm_X9_220 wi_X9_isEntry wv_X9_isEntry (k := 9) rfl (by decide) hb1 nX9_isEntry ⟨pX9_isEntry, Nat.le_of_ble_eq_true rfl, by decide, Nat.le_of_ble_eq_true rfl, by decide, by decide⟩ (c_X9_isEntry (S := S) (U := i) (ec := ct) hb1 n1q hg (hP.to (y5q _ (by omega) (by omega) (by omega) (by omega) (by omega) (by omega) (by omega) (by omega) (by omega)) (y5q _ (by omega) (by omega) (by omega) (by omega) (by omega) (by omega) (by omega) (by omega) (by omega)) (y5q _ (by omega) (by omega) (by omega) (by omega) (by omega) (by omega) (by omega) (by omega) (by omega))) hcq hoq hS (by omega) ec9 (by omega) (by omega)) (fun v9 Ea1 hC => ?_) (fun E9 B9 hC => by obtain ⟨_, _, _, _, ⟨_, _, _, ⟨_, h, _⟩ | ⟨_, h⟩⟩, _⟩ := hC <;> cases h)
        obtain ⟨za1, ⟨ta1, hba1⟩, ⟨ga1, hca1⟩, ⟨gb1, hoa1⟩, ⟨Na1, hNa1, fa1, ⟨qa1, hv9, wa1⟩ | ⟨qa1, hv9⟩⟩, oa1⟩ := hC
        · cases hv9
          refine xx_cst (st2 := [.int 1]) rfl ?_
          have y5a : ∀ q, q ≠ b → q ≠ b + 1 → q ≠ b + 2 → q ≠ b + 3 → q ≠ b + 11 → q ≠ b + 17 → q ≠ b + 18 → q ≠ b + 19 → q ≠ b + 20 → Ea1.2 q = A.2 q := fun q a0 a1 a2 a3 a4 a5 a6 a7 a8 => (oa1 q a0 a1 a2 a3 a5 a6 a7 a8).trans (y5q q a0 a1 a2 a3 a4 a5 a6 a7 a8)
          have y4a : ∀ q, 14 ≤ q → q ≠ 19 → q ≠ 22 → q ≠ 24 → q ≠ 28 → q ≠ 29 → (q < 31 ∨ 38 ≤ q) → (q < 240 ∨ 296 ≤ q) → q < 330 → Na1 q = N q := fun q a1 a2 a3 a4 a5 a6 a7 a8 a9 => (fa1 q a1 a2 a3 a4 a5 a6 a7 a8 (by omega)).trans (y4 q a1 a2 a3 a4 a5 a6 a7 a8 a9)
          have ypa : yn_pl Na1 W le (yn_row E k9 S s9 i) := yp.to (fun r a1 a2 => fa1 r (by omega) (by omega) (by omega) (by omega) (by omega) (by omega) (by omega) (by omega) (by omega))
          have ysa := ys.to ((oa1 (b + 11) (by omega) (by omega) (by omega) (by omega) (by omega) (by omega) (by omega) (by omega)).trans (oq1 _ (by omega)))
          refine xx_if_eq (tgt := 152) dX9_list_113 (by decide) (fun h => absurd h (by decide)) (fun j113 => ?_)
          refine xx_aload_n dX9_list_116 rfl ?_
          refine xx_get xx_c9 dX9_list_117 wf_X9_45 (j := 17) (by decide) hba1 rfl ?_
          refine xx_iconst (v := 2) dX9_list_120 (by decide) ?_
          refine xx_aload_n dX9_list_121 rfl ?_
          refine xx_get xx_c9 dX9_list_122 wf_X9_136 (j := 16) (by decide) hba1 rfl ?_
          refine xx_imul dX9_list_125 ?_
          refine xx_eqi (y := nI (2 * ct)) (pk_mul 2 ct) ?_
          refine xx_iload_n dX9_list_126 rfl ?_
          obtain ⟨f9, sA, sB⟩ := ysa
          refine xx_iast dX9_list_127 sA (vp_in_nI (by omega) (by decide)) (xx_gu fun Eb1 zb1 hf1 ob1 => ?_)
          rw [nI_clamp (by omega)] at hf1
          have hbb1 := (ob1 b (by omega)).trans hba1
          refine xx_aload_n dX9_list_128 rfl ?_
          refine xx_get xx_c9 dX9_list_129 wf_X9_45 (j := 17) (by decide) hbb1 rfl ?_
          refine xx_iconst (v := 2) dX9_list_132 (by decide) ?_
          refine xx_aload_n dX9_list_133 rfl ?_
          refine xx_get xx_c9 dX9_list_134 wf_X9_136 (j := 16) (by decide) hbb1 rfl ?_
          refine xx_imul dX9_list_137 ?_
          refine xx_eqi (y := nI (2 * ct)) (pk_mul 2 ct) ?_
          refine xx_iconst (v := 1) dX9_list_138 (by decide) ?_
          refine xx_iadd dX9_list_139 ?_
          refine xx_eqi (y := nI (2 * ct + 1)) (nI_add (2 * ct) 1) ?_
          refine xx_iload_n dX9_list_140 rfl ?_
          refine xx_iast dX9_list_141 hf1 (vp_in_nI (by omega) (by decide)) (xx_gu fun Eb2 zb2 hf2 ob2 => ?_)
          rw [nI_clamp (by omega)] at hf2
          have hbb2 := (ob2 b (by omega)).trans hbb1
          refine xx_aload_n dX9_list_142 rfl ?_
          refine xx_dup dX9_list_143 rfl ?_
          refine xx_get xx_c9 dX9_list_144 wf_X9_136 (j := 16) (by decide) hbb2 rfl ?_
          refine xx_iconst (v := 1) dX9_list_147 (by decide) ?_
          refine xx_iadd dX9_list_148 ?_
          refine xx_eqi (y := nI (ct + 1)) (nI_add ct 1) ?_
          refine xx_put xx_c9 dX9_list_149 wf_X9_136 (j := 16) (by decide) rfl rfl rfl hbb2 (Nat.le_of_ble_eq_true rfl) (xx_gu fun Eb3 zb3 hbb3 ob3 => ?_)
          have hbb3 : Eb3.2 b = xx_o 9 (xx_mf b (.int 0) (.int (nI m)) (.int (nI n)) hr st (.int 1) (.int (nI (ct + 1))) ta1) := hbb3
          have ee : E S i = true := (hE S hS i (by omega) ec9).mpr qa1
          have st9 : yn_row E k9 S s9 (i + 1) = yn_push (yn_row E k9 S s9 i) S i := if_pos ⟨by omega, by omega, ee⟩
          have ob : ∀ q, q ≠ b → q ≠ b + 11 → Eb3.2 q = Ea1.2 q := fun q a1 a2 => (ob3 q a1).trans ((ob2 q a2).trans (ob1 q a2))
          refine xx_iinc (v := nI (i + 1)) dX9_list_152 rfl (nI_1 i) (by decide) ?_
          refine xx_clv (lv2 := [(0, .ref b), (1, .int (nI k9)), (2, .int (nI S)), (3, .int (nI (i + 1)))]) rfl ?_
          refine xx_goto (tgt := 79) dX9_list_155 (by decide) ?_
          refine xx_less [0, 1, 2, 3] ?_
          refine xx_clv (lv2 := [(0, .ref b), (1, .int (nI k9)), (2, .int (nI S)), (3, .int (nI (i + 1)))]) rfl ?_
          refine ih (i + 1) (by omega) Eb3 Na1 ta1 (by omega) (by omega) ?_ (hNa1.to (ob _ (by omega) (by omega)) (ob _ (by omega) (by omega)) (ob _ (by omega) (by omega)) (ob _ (by omega) (by omega)) (ob _ (by omega) (by omega))) ⟨_, (ob _ (by omega) (by omega)).trans hca1⟩ ⟨_, (ob _ (by omega) (by omega)).trans hoa1⟩ ?_ ?_ y4a (fun q a0 a1 a2 a3 a4 a5 a6 a7 a8 => (ob q a0 a4).trans (y5a q a0 a1 a2 a3 a4 a5 a6 a7 a8))
          · rw [st9]
            show _ = xx_o 9 (xx_mf b (.int 0) (.int (nI m)) (.int (nI n)) hr st (.int 1) (.int (nI ((yn_row E k9 S s9 i).1 + 1))) ta1)
            rw [← hct]; exact hbb3
          · rw [st9]
            refine ⟨_, (ob3 _ (by omega)).trans hf2, fun e he => ?_⟩
            have he : e < (yn_row E k9 S s9 i).1 + 1 := he
            show _ = nI (yy_u2 _ _ _ e) ∧ _ = nI (yy_u2 _ _ _ e)
            unfold yy_u2
            by_cases y : e = (yn_row E k9 S s9 i).1
            · rw [if_pos y, if_pos y]
              have y2 : e = ct := by omega
              rw [y2, pk_un (by omega), pk_us]
              exact ⟨rfl, pk_us⟩
            · rw [if_neg y, if_neg y, pk_un (by omega), pk_un (by omega), pk_un (by omega), pk_un (by omega)]; exact sB e (by omega)
          · rw [st9]
            intro e he
            have he : e < (yn_row E k9 S s9 i).1 + 1 := he
            show xx_pl Na1 (330 + 14 * e) (yn_X W le (yy_u2 _ _ _ e) (yy_u2 _ _ _ e)) (yn_tt W le (yy_u2 _ _ _ e) (yy_u2 _ _ _ e))
            unfold yy_u2
            by_cases y : e = (yn_row E k9 S s9 i).1
            · rw [if_pos y, if_pos y, show e = ct by omega]; exact wa1
            · rw [if_neg y, if_neg y]; exact ypa e (by omega)
        · cases hv9
          refine xx_cst (st2 := [.int 0]) rfl ?_
          have y5a : ∀ q, q ≠ b → q ≠ b + 1 → q ≠ b + 2 → q ≠ b + 3 → q ≠ b + 11 → q ≠ b + 17 → q ≠ b + 18 → q ≠ b + 19 → q ≠ b + 20 → Ea1.2 q = A.2 q := fun q a0 a1 a2 a3 a4 a5 a6 a7 a8 => (oa1 q a0 a1 a2 a3 a5 a6 a7 a8).trans (y5q q a0 a1 a2 a3 a4 a5 a6 a7 a8)
          have y4a : ∀ q, 14 ≤ q → q ≠ 19 → q ≠ 22 → q ≠ 24 → q ≠ 28 → q ≠ 29 → (q < 31 ∨ 38 ≤ q) → (q < 240 ∨ 296 ≤ q) → q < 330 → Na1 q = N q := fun q a1 a2 a3 a4 a5 a6 a7 a8 a9 => (fa1 q a1 a2 a3 a4 a5 a6 a7 a8 (by omega)).trans (y4 q a1 a2 a3 a4 a5 a6 a7 a8 a9)
          have ypa : yn_pl Na1 W le (yn_row E k9 S s9 i) := yp.to (fun r a1 a2 => fa1 r (by omega) (by omega) (by omega) (by omega) (by omega) (by omega) (by omega) (by omega) (by omega))
          have ysa := ys.to ((oa1 (b + 11) (by omega) (by omega) (by omega) (by omega) (by omega) (by omega) (by omega) (by omega)).trans (oq1 _ (by omega)))
          refine xx_if_eq (tgt := 152) dX9_list_113 (by decide) (fun j113 => ?_) (fun h => absurd (by decide) h)
          have st9 : yn_row E k9 S s9 (i + 1) = yn_row E k9 S s9 i := if_neg (fun q => qa1 ((hE S hS i (by omega) ec9).mp q.2.2))
          rw [hct, ← st9] at hba1
          rw [← st9] at ysa ypa
          refine xx_iinc (v := nI (i + 1)) dX9_list_152 rfl (nI_1 i) (by decide) ?_
          refine xx_clv (lv2 := [(0, .ref b), (1, .int (nI k9)), (2, .int (nI S)), (3, .int (nI (i + 1)))]) rfl ?_
          refine xx_goto (tgt := 79) dX9_list_155 (by decide) ?_
          refine xx_less [0, 1, 2, 3] ?_
          refine xx_clv (lv2 := [(0, .ref b), (1, .int (nI k9)), (2, .int (nI S)), (3, .int (nI (i + 1)))]) rfl ?_
          refine ih (i + 1) (by omega) Ea1 Na1 ta1 (by omega) (by omega) hba1 hNa1 ⟨_, hca1⟩ ⟨_, hoa1⟩ ysa ypa y4a y5a
set_option maxRecDepth 100000 in
theorem l_X9_l2 {G : xx_G} {l : Launch} {A : xx_H} {b : Nat} {hr st : Value} {m n : Nat} {N : Nat → Int} {W : Nat → Nat → Nat → Int} {le : Nat → Int} {mu : Nat → Nat} {E : Nat → Nat → Bool} {k9 : Nat} {s9 : yn_S} {Q : Option Value ⊕ String → xx_H → Prop} (hg : yg_ok m n W le) (hP : xx_rp A b m n W le mu) (hE : ∀ S, S < 2 ^ m → ∀ U, U < 2 ^ n → yb_c U = yb_c S → (E S U = true ↔ yn_h m n W le S U)) (k0 : 0 < k9) (k6 : k9 ≤ 6) (hok : yn_ok m n E s9) (kC : ∀ (B : xx_H) (N2 : Nat → Int) (tu2 : Value), (B.1 = A.1) → (1 ≤ (2 ^ m)) → (B.2 b = xx_o 9 (xx_mf b (.int 0) (.int (nI m)) (.int (nI n)) hr st (.int 1) (.int (nI (((yn_size E n k9 s9 (2 ^ m)).1)))) tu2)) → (xx_rw B b N2) → (∃ g, B.2 (b + 19) = xx_i 6 g) → (∃ g, B.2 (b + 20) = xx_i 6 g) → (xx_sup B b (yn_size E n k9 s9 (2 ^ m))) → (yn_pl N2 W le (yn_size E n k9 s9 (2 ^ m))) → (∀ q, 14 ≤ q → q ≠ 19 → q ≠ 22 → q ≠ 24 → q ≠ 28 → q ≠ 29 → (q < 31 ∨ 38 ≤ q) → (q < 240 ∨ 296 ≤ q) → q < 330 → N2 q = N q) → (∀ q, q ≠ b → q ≠ b + 1 → q ≠ b + 2 → q ≠ b + 3 → q ≠ b + 11 → q ≠ b + 17 → q ≠ b + 18 → q ≠ b + 19 → q ≠ b + 20 → B.2 q = A.2 q) → xx_X G l mX9_list 7 0 0 164 [(0, .ref b), (1, .int (nI k9))] [] B Q) :
    ∀ (v i : Nat), i + v = 2 ^ m → ∀ (B : xx_H) (N2 : Nat → Int) (tu2 : Value), (B.1 = A.1) → (1 ≤ i) → (B.2 b = xx_o 9 (xx_mf b (.int 0) (.int (nI m)) (.int (nI n)) hr st (.int 1) (.int (nI (((yn_size E n k9 s9 i).1)))) tu2)) → (xx_rw B b N2) → (∃ g, B.2 (b + 19) = xx_i 6 g) → (∃ g, B.2 (b + 20) = xx_i 6 g) → (xx_sup B b (yn_size E n k9 s9 i)) → (yn_pl N2 W le (yn_size E n k9 s9 i)) → (∀ q, 14 ≤ q → q ≠ 19 → q ≠ 22 → q ≠ 24 → q ≠ 28 → q ≠ 29 → (q < 31 ∨ 38 ≤ q) → (q < 240 ∨ 296 ≤ q) → q < 330 → N2 q = N q) → (∀ q, q ≠ b → q ≠ b + 1 → q ≠ b + 2 → q ≠ b + 3 → q ≠ b + 11 → q ≠ b + 17 → q ≠ b + 18 → q ≠ b + 19 → q ≠ b + 20 → B.2 q = A.2 q) → xx_X G l mX9_list 7 0 0 55 [(0, .ref b), (1, .int (nI k9)), (2, .int (nI i))] [] B Q := by
  have hm1 := hg.1
  have hm := hg.2.1
  have hn1 := hg.2.2.1
  have hn := hg.2.2.2.1
  have mw := yk_pw hm
  have nw := yk_pw hn
  have m1 : 1 ≤ 2 ^ m := Nat.two_pow_pos m
  have n1 : 1 ≤ 2 ^ n := Nat.two_pow_pos n
  intro v
  induction v with
  | zero =>
    intro i h9i B N2 tu2 y1 y0 yb y2 yc yo ys yp y4 y5
    have h9e : 2 ^ m = i := by omega
    subst h9e
    refine xx_clv (lv2 := [(0, .ref b), (1, .int (nI k9)), (2, .int (nI (2 ^ m)))]) rfl ?_
    refine xx_iload_n dX9_list_55 rfl ?_
    refine xx_iconst (v := 1) dX9_list_56 (by decide) ?_
    refine xx_aload_n dX9_list_57 rfl ?_
    refine xx_get xx_c9 dX9_list_58 wf_X9_120 (j := 4) (by decide) yb rfl ?_
    refine xx_ishl dX9_list_61 ?_
    refine xx_eqi (y := nI (2 ^ m)) (yb_1s6 m (by omega)) ?_
    refine xx_icmp_ge (tgt := 164) dX9_list_62 (by decide) (fun j62 => ?_) (fun h => absurd (Int32.le_refl _) h)
    refine xx_less [0, 1] ?_
    refine xx_clv (lv2 := [(0, .ref b), (1, .int (nI k9))]) rfl ?_
    exact kC B N2 tu2 y1 y0 yb y2 yc yo ys yp y4 y5
  | succ v ih =>
    intro i h9i B N2 tu2 y1 y0 yb y2 yc yo ys yp y4 y5
    refine xx_iload_n dX9_list_55 rfl ?_
    refine xx_iconst (v := 1) dX9_list_56 (by decide) ?_
    refine xx_aload_n dX9_list_57 rfl ?_
    refine xx_get xx_c9 dX9_list_58 wf_X9_120 (j := 4) (by decide) yb rfl ?_
    refine xx_ishl dX9_list_61 ?_
    refine xx_eqi (y := nI (2 ^ m)) (yb_1s6 m (by omega)) ?_
    refine xx_icmp_ge (tgt := 164) dX9_list_62 (by decide) (fun h => absurd h (nI_ge (a := i) (b := 2 ^ m) (by omega) (by omega))) (fun j62 => ?_)
    refine xx_aload_n dX9_list_65 rfl ?_
    refine xx_iload_n dX9_list_66 rfl ?_
    obtain ⟨gc, yc2⟩ := yc
    refine xx_callV (N := mX9_bits) (vs := [.int (nI i)]) (b := b) (rest := []) (d2 := 1) (c2 := 0) (s2 := 0) (c3 := 0) (s3 := 0) dX9_list_67 wm_X9_217 wi_X9_bits wv_X9_bits (k := 9) rfl (by decide) yb nX9_bits ⟨pX9_bits, Nat.le_of_ble_eq_true rfl, by decide, Nat.le_of_ble_eq_true rfl, by decide, by decide⟩ (c_X9_bits (v9 := i) yb (by omega) yc2) (fun v9 Eq1 hC => ?_) (fun E9 B9 hC => absurd hC.1 (by simp))
    obtain ⟨hv9, zq1, ⟨gq, hcq, _⟩, oq1⟩ := hC
    cases hv9
    refine xx_cst (st2 := [.int (nI (yb_c i))]) rfl ?_
    have c6 := yb_c6 i (by omega)
    have hb1 := (oq1 b (by omega)).trans yb
    have n1q : xx_rw Eq1 b N2 := y2.to (oq1 _ (by omega)) (oq1 _ (by omega)) (oq1 _ (by omega)) (oq1 _ (by omega)) (oq1 _ (by omega))
    obtain ⟨go, yo2⟩ := yo
    have hoq := (oq1 (b + 20) (by omega)).trans yo2
    have y5q : ∀ q, q ≠ b → q ≠ b + 1 → q ≠ b + 2 → q ≠ b + 3 → q ≠ b + 11 → q ≠ b + 17 → q ≠ b + 18 → q ≠ b + 19 → q ≠ b + 20 → Eq1.2 q = A.2 q := fun q a0 a1 a2 a3 a4 a5 a6 a7 a8 => (oq1 q a7).trans (y5 q a0 a1 a2 a3 a4 a5 a6 a7 a8)
    refine xx_iload_n dX9_list_70 rfl ?_
    refine xx_icmp_eq (tgt := 77) dX9_list_71 (by decide) (fun j71 => ?_) (fun j71 => ?_)
    · have j71 : yb_c i = k9 := (nI_eq (a := yb_c i) (b := k9) (by omega) (by omega)).mp j71
      refine xx_iconst (v := 1) dX9_list_77 (by decide) ?_
      refine xx_istore_n dX9_list_78 (by decide) ?_
      refine xx_clv (lv2 := [(0, .ref b), (1, .int (nI k9)), (2, .int (nI i)), (3, .int 1)]) rfl ?_
      have sz1 : yn_row E k9 i (yn_size E n k9 s9 i) 1 = yn_size E n k9 s9 i := if_neg (fun q => by have := q.2.1; rw [show yb_c 0 = 0 from rfl] at this; omega)
      have st9 : yn_size E n k9 s9 (i + 1) = yn_row E k9 i (yn_size E n k9 s9 i) (2 ^ n) := if_pos (by omega)
      refine xx_clv (lv2 := [(0, .ref b), (1, .int (nI k9)), (2, .int (nI i)), (3, .int (nI 1))]) rfl ?_
      refine l_X9_l1 (A := Eq1) (N := N2) (S := i) (k9 := k9) (s9 := yn_size E n k9 s9 i) hg (hP.to (y5q _ (by omega) (by omega) (by omega) (by omega) (by omega) (by omega) (by omega) (by omega) (by omega)) (y5q _ (by omega) (by omega) (by omega) (by omega) (by omega) (by omega) (by omega) (by omega) (by omega)) (y5q _ (by omega) (by omega) (by omega) (by omega) (by omega) (by omega) (by omega) (by omega) (by omega))) hE (by omega) (by omega) k0 (yn_size_ok hok k0 i (by omega)) (fun D N3 tu3 w1 w0 wb w2 wc wo ws wp w4 w5 => ?_) (2 ^ n - 1) 1 (by omega) Eq1 N2 tu2 rfl (Nat.le_refl _) (by rw [sz1]; exact hb1) n1q ⟨_, hcq⟩ ⟨_, hoq⟩ (by rw [sz1]; exact ys.to (oq1 _ (by omega))) (by rw [sz1]; exact yp) (fun q _ _ _ _ _ _ _ _ _ => rfl) (fun q _ _ _ _ _ _ _ _ _ => rfl)
      rw [← st9] at wb ws wp
      refine xx_iinc (v := nI (i + 1)) dX9_list_158 rfl (nI_1 i) (by decide) ?_
      refine xx_clv (lv2 := [(0, .ref b), (1, .int (nI k9)), (2, .int (nI (i + 1)))]) rfl ?_
      refine xx_goto (tgt := 55) dX9_list_161 (by decide) ?_
      refine xx_less [0, 1, 2] ?_
      refine xx_clv (lv2 := [(0, .ref b), (1, .int (nI k9)), (2, .int (nI (i + 1)))]) rfl ?_
      refine ih (i + 1) (by omega) D N3 tu3 (by omega) (by omega) wb w2 wc wo ws wp (fun q a1 a2 a3 a4 a5 a6 a7 a8 a9 => (w4 q a1 a2 a3 a4 a5 a6 a7 a8 a9).trans (y4 q a1 a2 a3 a4 a5 a6 a7 a8 a9)) (fun q a1 a2 a3 a4 a5 a6 a7 a8 a9 => (w5 q a1 a2 a3 a4 a5 a6 a7 a8 a9).trans (y5q q a1 a2 a3 a4 a5 a6 a7 a8 a9))
    · have j71 : ¬ yb_c i = k9 := fun hq9 => j71 ((nI_eq (a := yb_c i) (b := k9) (by omega) (by omega)).mpr hq9)
      refine xx_goto (tgt := 158) dX9_list_74 (by decide) ?_
      have st9 : yn_size E n k9 s9 (i + 1) = yn_size E n k9 s9 i := if_neg (by omega)
      rw [← st9] at hb1 ys yp
      refine xx_iinc (v := nI (i + 1)) dX9_list_158 rfl (nI_1 i) (by decide) ?_
      refine xx_clv (lv2 := [(0, .ref b), (1, .int (nI k9)), (2, .int (nI (i + 1)))]) rfl ?_
      refine xx_goto (tgt := 55) dX9_list_161 (by decide) ?_
      refine xx_less [0, 1, 2] ?_
      refine xx_clv (lv2 := [(0, .ref b), (1, .int (nI k9)), (2, .int (nI (i + 1)))]) rfl ?_
      refine ih (i + 1) (by omega) Eq1 N2 tu2 (by omega) (by omega) hb1 n1q ⟨_, hcq⟩ ⟨_, hoq⟩ (ys.to (oq1 _ (by omega))) yp y4 y5q
set_option maxRecDepth 100000 in
theorem l_X9_l3 {G : xx_G} {l : Launch} {A : xx_H} {b : Nat} {hr st : Value} {m n : Nat} {N : Nat → Int} {W : Nat → Nat → Nat → Int} {le : Nat → Int} {mu : Nat → Nat} {E : Nat → Nat → Bool} {L9 : Nat} {Q : Option Value ⊕ String → xx_H → Prop} (hg : yg_ok m n W le) (hP : xx_rp A b m n W le mu) (hE : ∀ S, S < 2 ^ m → ∀ U, U < 2 ^ n → yb_c U = yb_c S → (E S U = true ↔ yn_h m n W le S U)) (hL : L9 ≤ m ∧ L9 ≤ n ∧ (L9 = m ∨ L9 = n)) (kC : ∀ (B : xx_H) (N2 : Nat → Int) (tu2 : Value), (B.1 = A.1) → (1 ≤ (L9 + 1)) → (B.2 b = xx_o 9 (xx_mf b (.int 0) (.int (nI m)) (.int (nI n)) hr st (.int 1) (.int (nI (((yn_all E m n yn_0 ((L9 + 1) - 1)).1)))) tu2)) → (xx_rw B b N2) → (∃ g, B.2 (b + 19) = xx_i 6 g) → (∃ g, B.2 (b + 20) = xx_i 6 g) → (xx_sup B b (yn_all E m n yn_0 ((L9 + 1) - 1))) → (yn_pl N2 W le (yn_all E m n yn_0 ((L9 + 1) - 1))) → (∀ q, 14 ≤ q → q ≠ 19 → q ≠ 22 → q ≠ 24 → q ≠ 28 → q ≠ 29 → (q < 31 ∨ 38 ≤ q) → (q < 240 ∨ 296 ≤ q) → q < 330 → N2 q = N q) → (∀ q, q ≠ b → q ≠ b + 1 → q ≠ b + 2 → q ≠ b + 3 → q ≠ b + 11 → q ≠ b + 17 → q ≠ b + 18 → q ≠ b + 19 → q ≠ b + 20 → B.2 q = A.2 q) → xx_X G l mX9_list 7 0 0 170 [(0, .ref b)] [] B Q) :
    ∀ (v i : Nat), i + v = L9 + 1 → ∀ (B : xx_H) (N2 : Nat → Int) (tu2 : Value), (B.1 = A.1) → (1 ≤ i) → (B.2 b = xx_o 9 (xx_mf b (.int 0) (.int (nI m)) (.int (nI n)) hr st (.int 1) (.int (nI (((yn_all E m n yn_0 (i - 1)).1)))) tu2)) → (xx_rw B b N2) → (∃ g, B.2 (b + 19) = xx_i 6 g) → (∃ g, B.2 (b + 20) = xx_i 6 g) → (xx_sup B b (yn_all E m n yn_0 (i - 1))) → (yn_pl N2 W le (yn_all E m n yn_0 (i - 1))) → (∀ q, 14 ≤ q → q ≠ 19 → q ≠ 22 → q ≠ 24 → q ≠ 28 → q ≠ 29 → (q < 31 ∨ 38 ≤ q) → (q < 240 ∨ 296 ≤ q) → q < 330 → N2 q = N q) → (∀ q, q ≠ b → q ≠ b + 1 → q ≠ b + 2 → q ≠ b + 3 → q ≠ b + 11 → q ≠ b + 17 → q ≠ b + 18 → q ≠ b + 19 → q ≠ b + 20 → B.2 q = A.2 q) → xx_X G l mX9_list 7 0 0 37 [(0, .ref b), (1, .int (nI i))] [] B Q := by
  have hm1 := hg.1
  have hm := hg.2.1
  have hn1 := hg.2.2.1
  have hn := hg.2.2.2.1
  have mw := yk_pw hm
  have nw := yk_pw hn
  have m1 : 1 ≤ 2 ^ m := Nat.two_pow_pos m
  have n1 : 1 ≤ 2 ^ n := Nat.two_pow_pos n
  intro v
  induction v with
  | zero =>
    intro i h9i B N2 tu2 y1 y0 yb y2 yc yo ys yp y4 y5
    have h9e : L9 + 1 = i := by omega
    subst h9e
    refine xx_clv (lv2 := [(0, .ref b), (1, .int (nI (L9 + 1)))]) rfl ?_
    refine xx_iload_n dX9_list_37 rfl ?_
    refine xx_aload_n dX9_list_38 rfl ?_
    refine xx_get xx_c9 dX9_list_39 wf_X9_120 (j := 4) (by decide) yb rfl ?_
    refine xx_icmp_gt (tgt := 170) dX9_list_42 (by decide) (fun j42 => ?_) (fun j42 => ?_)
    · have j42 : m < L9 + 1 := (nI_ltI (a := m) (b := L9 + 1) (by omega) (by omega)).mp j42
      refine xx_less [0] ?_
      refine xx_clv (lv2 := [(0, .ref b)]) rfl ?_
      exact kC B N2 tu2 y1 y0 yb y2 yc yo ys yp y4 y5
    · have j42 : ¬ m < L9 + 1 := fun hq9 => j42 ((nI_ltI (a := m) (b := L9 + 1) (by omega) (by omega)).mpr hq9)
      refine xx_iload_n dX9_list_45 rfl ?_
      refine xx_aload_n dX9_list_46 rfl ?_
      refine xx_get xx_c9 dX9_list_47 wf_X9_123 (j := 5) (by decide) yb rfl ?_
      refine xx_icmp_gt (tgt := 170) dX9_list_50 (by decide) (fun j50 => ?_) (fun h => absurd ((nI_ltI (a := n) (b := L9 + 1) (by omega) (by omega)).mpr (by omega)) h)
      refine xx_less [0] ?_
      refine xx_clv (lv2 := [(0, .ref b)]) rfl ?_
      exact kC B N2 tu2 y1 y0 yb y2 yc yo ys yp y4 y5
  | succ v ih =>
    intro i h9i B N2 tu2 y1 y0 yb y2 yc yo ys yp y4 y5
    refine xx_iload_n dX9_list_37 rfl ?_
    refine xx_aload_n dX9_list_38 rfl ?_
    refine xx_get xx_c9 dX9_list_39 wf_X9_120 (j := 4) (by decide) yb rfl ?_
    refine xx_icmp_gt (tgt := 170) dX9_list_42 (by decide) (fun h => absurd ((nI_ltI (a := m) (b := i) (by omega) (by omega)).mp h) (by omega)) (fun j42 => ?_)
    refine xx_iload_n dX9_list_45 rfl ?_
    refine xx_aload_n dX9_list_46 rfl ?_
    refine xx_get xx_c9 dX9_list_47 wf_X9_123 (j := 5) (by decide) yb rfl ?_
    refine xx_icmp_gt (tgt := 170) dX9_list_50 (by decide) (fun h => absurd ((nI_ltI (a := n) (b := i) (by omega) (by omega)).mp h) (by omega)) (fun j50 => ?_)
    refine xx_iconst (v := 1) dX9_list_53 (by decide) ?_
    refine xx_istore_n dX9_list_54 (by decide) ?_
    refine xx_clv (lv2 := [(0, .ref b), (1, .int (nI i)), (2, .int 1)]) rfl ?_
    have sz1 : yn_size E n i (yn_all E m n yn_0 (i - 1)) 1 = yn_all E m n yn_0 (i - 1) := if_neg (by rw [show yb_c 0 = 0 from rfl]; omega)
    have al1 : yn_size E n i (yn_all E m n yn_0 (i - 1)) (2 ^ m) = yn_all E m n yn_0 (i + 1 - 1) := by
      obtain ⟨k, hk⟩ : ∃ k, i = k + 1 := ⟨i - 1, by omega⟩
      rw [hk]; rfl
    refine xx_clv (lv2 := [(0, .ref b), (1, .int (nI i)), (2, .int (nI 1))]) rfl ?_
    refine l_X9_l2 (A := B) (N := N2) (k9 := i) (s9 := yn_all E m n yn_0 (i - 1)) hg (hP.to (y5 _ (by omega) (by omega) (by omega) (by omega) (by omega) (by omega) (by omega) (by omega) (by omega)) (y5 _ (by omega) (by omega) (by omega) (by omega) (by omega) (by omega) (by omega) (by omega) (by omega)) (y5 _ (by omega) (by omega) (by omega) (by omega) (by omega) (by omega) (by omega) (by omega) (by omega))) hE (by omega) (by omega) (yn_all_ok yn_0_ok _) (fun D N3 tu3 w1 w0 wb w2 wc wo ws wp w4 w5 => ?_) (2 ^ m - 1) 1 (by omega) B N2 tu2 rfl (Nat.le_refl _) (by rw [sz1]; exact yb) y2 yc yo (by rw [sz1]; exact ys) (by rw [sz1]; exact yp) (fun q _ _ _ _ _ _ _ _ _ => rfl) (fun q _ _ _ _ _ _ _ _ _ => rfl)
    rw [al1] at wb ws wp
    refine xx_iinc (v := nI (i + 1)) dX9_list_164 rfl (nI_1 i) (by decide) ?_
    refine xx_clv (lv2 := [(0, .ref b), (1, .int (nI (i + 1)))]) rfl ?_
    refine xx_goto (tgt := 37) dX9_list_167 (by decide) ?_
    refine xx_less [0, 1] ?_
    refine xx_clv (lv2 := [(0, .ref b), (1, .int (nI (i + 1)))]) rfl ?_
    refine ih (i + 1) (by omega) D N3 tu3 (by omega) (by omega) wb w2 wc wo ws wp (fun q a1 a2 a3 a4 a5 a6 a7 a8 a9 => (w4 q a1 a2 a3 a4 a5 a6 a7 a8 a9).trans (y4 q a1 a2 a3 a4 a5 a6 a7 a8 a9)) (fun q a1 a2 a3 a4 a5 a6 a7 a8 a9 => (w5 q a1 a2 a3 a4 a5 a6 a7 a8 a9).trans (y5 q a1 a2 a3 a4 a5 a6 a7 a8 a9))
set_option maxRecDepth 100000 in
theorem c_X9_list {G : xx_G} {l : Launch} {A : xx_H} {b : Nat} {th hr st hl en tu : Value} {m n : Nat} {N : Nat → Int} {W : Nat → Nat → Nat → Int} {le : Nat → Int} {mu : Nat → Nat} {E : Nat → Nat → Bool} {gu gs fs9 : Nat → Int32} (hb : A.2 b = xx_o 9 (xx_mf b th (.int (nI m)) (.int (nI n)) hr st hl en tu)) (hN : xx_rw A b N) (hg : yg_ok m n W le) (hP : xx_rp A b m n W le mu) (hE : ∀ S, S < 2 ^ m → ∀ U, U < 2 ^ n → yb_c U = yb_c S → (E S U = true ↔ yn_h m n W le S U)) (hch : A.2 (b + 19) = xx_i 6 gu) (hot : A.2 (b + 20) = xx_i 6 gs) (hsu : A.2 (b + 11) = xx_i 200 fs9) : xx_X G l mX9_list 7 0 0 0 (lv_args 0 [.ref b]) [] A (fun z B => z = .inl (some (.int (nI (yn_all E m n yn_0 (if n < m then n else m)).1))) ∧ B.1 = A.1 ∧ (∃ tu2, B.2 b = xx_o 9 (xx_mf b (.int 0) (.int (nI m)) (.int (nI n)) hr st (.int 1) (.int (nI (((yn_all E m n yn_0 (if n < m then n else m)).1)))) tu2)) ∧ (∃ g, B.2 (b + 19) = xx_i 6 g) ∧ (∃ g, B.2 (b + 20) = xx_i 6 g) ∧ xx_sup B b (yn_all E m n yn_0 (if n < m then n else m)) ∧ (∃ N2, xx_rw B b N2 ∧ yn_pl N2 W le (yn_all E m n yn_0 (if n < m then n else m)) ∧ (∀ q, 14 ≤ q → q ≠ 19 → q ≠ 22 → q ≠ 24 → q ≠ 28 → q ≠ 29 → (q < 31 ∨ 38 ≤ q) → (q < 240 ∨ 296 ≤ q) → q < 330 → N2 q = N q)) ∧ ∀ q, q ≠ b → q ≠ b + 1 → q ≠ b + 2 → q ≠ b + 3 → q ≠ b + 11 → q ≠ b + 17 → q ≠ b + 18 → q ≠ b + 19 → q ≠ b + 20 → B.2 q = A.2 q) := by
  have hm1 := hg.1
  have hm := hg.2.1
  have hn1 := hg.2.2.1
  have hn := hg.2.2.2.1
  have mw := yk_pw hm
  have nw := yk_pw hn
  have m1 : 1 ≤ 2 ^ m := Nat.two_pow_pos m
  have n1 : 1 ≤ 2 ^ n := Nat.two_pow_pos n
  refine xx_clv (lv2 := [(0, .ref b)]) rfl ?_
  refine xx_aload_n dX9_list_0 rfl ?_
  refine xx_aload_n dX9_list_1 rfl ?_
  refine xx_get xx_c9 dX9_list_2 wf_X9_120 (j := 4) (by decide) hb rfl ?_
  refine xx_if_ne (tgt := 12) dX9_list_5 (by decide) (fun j5 => ?_) (fun h => absurd h (nI_ne0 (n := m) (by omega) (by omega)))
  refine xx_iconst (v := 0) dX9_list_12 (by decide) ?_
  refine xx_put xx_c9 dX9_list_13 wf_X9_84 (j := 0) (by decide) rfl rfl rfl hb (Nat.le_of_ble_eq_true rfl) (xx_gu fun Eq1 zq1 hbq1 oq1 => ?_)
  have hbq1 : Eq1.2 b = xx_o 9 (xx_mf b (.int 0) (.int (nI m)) (.int (nI n)) hr st hl en tu) := hbq1
  have hNq1 : xx_rw Eq1 b N := hN.to (oq1 _ (by omega)) (oq1 _ (by omega)) (oq1 _ (by omega)) (oq1 _ (by omega)) (oq1 _ (by omega))
  refine xx_aload_n dX9_list_16 rfl ?_
  refine xx_get xx_c9 dX9_list_17 wf_X9_84 (j := 0) (by decide) hbq1 rfl ?_
  refine xx_if_le (tgt := 25) dX9_list_20 (by decide) (fun j20 => ?_) (fun h => absurd (by decide) h)
  refine xx_aload_n dX9_list_25 rfl ?_
  refine xx_iconst (v := 0) dX9_list_26 (by decide) ?_
  refine xx_put xx_c9 dX9_list_27 wf_X9_136 (j := 16) (by decide) rfl rfl rfl hbq1 (Nat.le_of_ble_eq_true rfl) (xx_gu fun Eq2 zq2 hbq2 oq2 => ?_)
  have hbq2 : Eq2.2 b = xx_o 9 (xx_mf b (.int 0) (.int (nI m)) (.int (nI n)) hr st hl (.int 0) tu) := hbq2
  have hNq2 : xx_rw Eq2 b N := hNq1.to (oq2 _ (by omega)) (oq2 _ (by omega)) (oq2 _ (by omega)) (oq2 _ (by omega)) (oq2 _ (by omega))
  refine xx_aload_n dX9_list_30 rfl ?_
  refine xx_iconst (v := 1) dX9_list_31 (by decide) ?_
  refine xx_put xx_c9 dX9_list_32 wf_X9_132 (j := 15) (by decide) rfl rfl rfl hbq2 (Nat.le_of_ble_eq_true rfl) (xx_gu fun Eq3 zq3 hbq3 oq3 => ?_)
  have hbq3 : Eq3.2 b = xx_o 9 (xx_mf b (.int 0) (.int (nI m)) (.int (nI n)) hr st (.int 1) (.int 0) tu) := hbq3
  have hNq3 : xx_rw Eq3 b N := hNq2.to (oq3 _ (by omega)) (oq3 _ (by omega)) (oq3 _ (by omega)) (oq3 _ (by omega)) (oq3 _ (by omega))
  refine xx_iconst (v := 1) dX9_list_35 (by decide) ?_
  refine xx_istore_n dX9_list_36 (by decide) ?_
  refine xx_clv (lv2 := [(0, .ref b), (1, .int 1)]) rfl ?_
  have oz : ∀ q, q ≠ b → Eq3.2 q = A.2 q := fun q hq => (oq3 q hq).trans ((oq2 q hq).trans (oq1 q hq))
  have l6 : (if n < m then n else m) ≤ m ∧ (if n < m then n else m) ≤ n ∧ ((if n < m then n else m) = m ∨ (if n < m then n else m) = n) := by split <;> omega
  refine xx_clv (lv2 := [(0, .ref b), (1, .int (nI 1))]) rfl ?_
  refine l_X9_l3 (A := Eq3) (N := N) (L9 := if n < m then n else m) hg (hP.to (oz _ (by omega)) (oz _ (by omega)) (oz _ (by omega))) hE l6 (fun D N3 tu3 w1 w0 wb w2 wc wo ws wp w4 w5 => ?_) (if n < m then n else m) 1 (by omega) Eq3 N tu rfl (Nat.le_refl _) hbq3 hNq3 ⟨_, (oz _ (by omega)).trans hch⟩ ⟨_, (oz _ (by omega)).trans hot⟩ ⟨_, (oz _ (by omega)).trans hsu, fun e he => absurd he (Nat.not_lt_zero e)⟩ (fun e he => absurd he (Nat.not_lt_zero e)) (fun q _ _ _ _ _ _ _ _ _ => rfl) (fun q _ _ _ _ _ _ _ _ _ => rfl)
  refine xx_aload_n dX9_list_170 rfl ?_
  refine xx_get xx_c9 dX9_list_171 wf_X9_136 (j := 16) (by decide) wb rfl ?_
  exact xx_iret dX9_list_174 rfl ⟨rfl, by omega, ⟨tu3, wb⟩, wc, wo, ws, ⟨N3, w2, wp, w4⟩, fun q a0 a1 a2 a3 a4 a5 a6 a7 a8 => (w5 q a0 a1 a2 a3 a4 a5 a6 a7 a8).trans (oz q a0)⟩
