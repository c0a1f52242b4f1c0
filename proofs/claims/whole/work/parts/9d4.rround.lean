/-! ===== the reference's isDominated, round ===== -/
def yr_f (w : Nat → Nat → Int) (own ob ot r : Nat) : Nat → Bool
  | 0 => false
  | k + 1 => yr_f w own ob ot r k || (decide (k ≠ r) && Nat.testBit own k && yr_m w ob k r ot)
theorem yr_f_t {w : Nat → Nat → Int} {own ob ot r k : Nat} : ∀ {n : Nat}, k ≤ n → yr_f w own ob ot r k = true → yr_f w own ob ot r n = true
  | 0, h, e => by rw [show k = 0 by omega] at e; exact e
  | n + 1, h, e => by
    by_cases z : k = n + 1
    · rw [← z]; exact e
    · show (yr_f w own ob ot r n || _) = true
      rw [yr_f_t (n := n) (by omega) e]; rfl
/-- who is there, as the reference keeps it -/
def xx_rth (B : xx_H) (b m n : Nat) (th9 : Nat → Nat) (S9 : Nat → Bool) : Prop := (∃ f, B.2 (b + 13) = xx_z 12 f ∧ ∀ j, j < 12 → f j = if S9 j then 1 else 0) ∧ ∀ q, q < 2 → ∀ k, k < yy_cn m n q → S9 (6 * q + k) = Nat.testBit (th9 q) k
theorem xx_rth.to {B C : xx_H} {b m n : Nat} {th9 : Nat → Nat} {S9 : Nat → Bool} (h : xx_rth B b m n th9 S9) (h1 : C.2 (b + 13) = B.2 (b + 13)) : xx_rth C b m n th9 S9 := by
  obtain ⟨⟨f, a1, a2⟩, a3⟩ := h
  exact ⟨⟨f, h1.trans a1, a2⟩, a3⟩
theorem lz_le2 {a c : Int} (ha : a.natAbs ≤ 277172280) (hc : c.natAbs ≤ 277172280) : lz a ≤ lz c ↔ a ≤ c := by
  rw [← Int64.not_lt, lz_lt (by omega) (by omega) (by omega) (by omega), Int.not_lt]
set_option maxRecDepth 100000 in
theorem l_X9_ii0 {G : xx_G} {l : Launch} {A : xx_H} {b : Nat} {th hr st hl en tu : Value} {m n : Nat} {W : Nat → Nat → Nat → Int} {le : Nat → Int} {mu th9 : Nat → Nat} {S9 : Nat → Bool} {r k9 : Nat} {hd : Bool} {Q : Option Value ⊕ String → xx_H → Prop} (hb : A.2 b = xx_o 9 (xx_mf b th (.int (nI m)) (.int (nI n)) hr st hl en tu)) (hP : xx_rp A b m n W le mu) (hm : m ≤ 6) (hn : n ≤ 6) (hT : xx_rth A b m n th9 S9) (hr : r < m) (hk : k9 < m) (kC : ∀ (B : xx_H), (B = A) → xx_X G l mX9_isDominated 0 0 0 191 [(0, .ref b), (1, .int 0), (2, .int (nI r)), (3, .int (nI m)), (4, .int (nI n)), (5, .int (nI k9)), (6, .int (if (hd && yr_m (yo_w W 0) (th9 1) k9 r n) = true then 1 else 0))] [] B Q) :
    ∀ (v i : Nat), i + v = n → ∀ (B : xx_H), (B = A) → xx_X G l mX9_isDominated 0 0 0 73 [(0, .ref b), (1, .int 0), (2, .int (nI r)), (3, .int (nI m)), (4, .int (nI n)), (5, .int (nI k9)), (6, .int (if (hd && yr_m (yo_w W 0) (th9 1) k9 r i) = true then 1 else 0)), (7, .int (nI i))] [] B Q := by
  obtain ⟨⟨fw, w1, w2⟩, _, _, wb, _⟩ := id hP
  obtain ⟨⟨ft, t1, t2⟩, t3⟩ := id hT
  have wo := yo_w_r (p := 0) hP (by decide)
  have wo : ∀ i, i < m → ∀ j, j < n → (yo_w W 0 i j).natAbs ≤ 277172280 := wo
  intro v
  induction v with
  | zero =>
    intro i h9i B y1
    have h9e : n = i := by omega
    subst h9e
    rw [y1]
    refine xx_clv (lv2 := [(0, .ref b), (1, .int 0), (2, .int (nI r)), (3, .int (nI m)), (4, .int (nI n)), (5, .int (nI k9)), (6, .int (if (hd && yr_m (yo_w W 0) (th9 1) k9 r n) = true then 1 else 0)), (7, .int (nI n))]) rfl ?_
    refine xx_iload dX9_isDominated_73 rfl ?_
    refine xx_iload dX9_isDominated_75 rfl ?_
    refine xx_icmp_ge (tgt := 191) dX9_isDominated_77 (by decide) (fun j77 => ?_) (fun h => absurd (Int32.le_refl _) h)
    refine xx_less [0, 1, 2, 3, 4, 5, 6] ?_
    refine xx_clv (lv2 := [(0, .ref b), (1, .int 0), (2, .int (nI r)), (3, .int (nI m)), (4, .int (nI n)), (5, .int (nI k9)), (6, .int (if (hd && yr_m (yo_w W 0) (th9 1) k9 r n) = true then 1 else 0))]) rfl ?_
    exact kC A rfl
  | succ v ih =>
    intro i h9i B y1
    rw [y1]
    refine xx_iload dX9_isDominated_73 rfl ?_
    refine xx_iload dX9_isDominated_75 rfl ?_
    refine xx_icmp_ge (tgt := 191) dX9_isDominated_77 (by decide) (fun h => absurd h (nI_ge (a := i) (b := n) (by omega) (by omega))) (fun j77 => ?_)
    by_cases gz : (hd && yr_m (yo_w W 0) (th9 1) k9 r i) = true
    · refine xx_clv (lv2 := [(0, .ref b), (1, .int 0), (2, .int (nI r)), (3, .int (nI m)), (4, .int (nI n)), (5, .int (nI k9)), (6, .int 1), (7, .int (nI i))]) (by rw [if_pos gz]) ?_
      refine xx_iload dX9_isDominated_80 rfl ?_
      refine xx_if_eq (tgt := 191) dX9_isDominated_82 (by decide) (fun h => absurd h (by decide)) (fun j82 => ?_)
      refine xx_aload_n dX9_isDominated_85 rfl ?_
      refine xx_get xx_c9 dX9_isDominated_86 wf_X9_59 (j := 21) (by decide) hb rfl ?_
      refine xx_bipush (v := 36) dX9_isDominated_89 (by decide) ?_
      refine xx_iload_n dX9_isDominated_91 rfl ?_
      refine xx_imul dX9_isDominated_92 ?_
      refine xx_eqi (y := 0) (by decide) ?_
      refine xx_iload_n dX9_isDominated_93 rfl ?_
      refine xx_if_ne (tgt := 108) dX9_isDominated_94 (by decide) (fun h => absurd rfl h) (fun j94 => ?_)
      refine xx_bipush (v := 6) dX9_isDominated_97 (by decide) ?_
      refine xx_iload dX9_isDominated_99 rfl ?_
      refine xx_imul dX9_isDominated_101 ?_
      refine xx_eqi (y := nI (6 * k9)) (pk_mul 6 k9) ?_
      refine xx_iload dX9_isDominated_102 rfl ?_
      refine xx_iadd dX9_isDominated_104 ?_
      refine xx_eqi (y := nI (6 * k9 + i)) (nI_add (6 * k9) i) ?_
      refine xx_goto (tgt := 116) dX9_isDominated_105 (by decide) ?_
      refine xx_iadd dX9_isDominated_116 ?_
      refine xx_eqi (y := nI (0 + (6 * k9 + i))) (nI_add 0 (6 * k9 + i)) ?_
      refine xx_lald dX9_isDominated_117 w1 (vp_in_nI (by omega) (by decide)) ?_
      refine xx_eql (y := lz (yo_w W 0 k9 i)) (by rw [nI_clamp (by omega)]; exact (congrArg fw (by omega)).trans (w2 0 (by decide) k9 hk i (by omega))) ?_
      refine xx_lstore dX9_isDominated_118 (by decide) ?_
      refine xx_clv (lv2 := [(0, .ref b), (1, .int 0), (2, .int (nI r)), (3, .int (nI m)), (4, .int (nI n)), (5, .int (nI k9)), (6, .int 1), (7, .int (nI i)), (8, .long (lz (yo_w W 0 k9 i)))]) rfl ?_
      refine xx_aload_n dX9_isDominated_120 rfl ?_
      refine xx_get xx_c9 dX9_isDominated_121 wf_X9_59 (j := 21) (by decide) hb rfl ?_
      refine xx_bipush (v := 36) dX9_isDominated_124 (by decide) ?_
      refine xx_iload_n dX9_isDominated_126 rfl ?_
      refine xx_imul dX9_isDominated_127 ?_
      refine xx_eqi (y := 0) (by decide) ?_
      refine xx_iload_n dX9_isDominated_128 rfl ?_
      refine xx_if_ne (tgt := 142) dX9_isDominated_129 (by decide) (fun h => absurd rfl h) (fun j129 => ?_)
      refine xx_bipush (v := 6) dX9_isDominated_132 (by decide) ?_
      refine xx_iload_n dX9_isDominated_134 rfl ?_
      refine xx_imul dX9_isDominated_135 ?_
      refine xx_eqi (y := nI (6 * r)) (pk_mul 6 r) ?_
      refine xx_iload dX9_isDominated_136 rfl ?_
      refine xx_iadd dX9_isDominated_138 ?_
      refine xx_eqi (y := nI (6 * r + i)) (nI_add (6 * r) i) ?_
      refine xx_goto (tgt := 149) dX9_isDominated_139 (by decide) ?_
      refine xx_iadd dX9_isDominated_149 ?_
      refine xx_eqi (y := nI (0 + (6 * r + i))) (nI_add 0 (6 * r + i)) ?_
      refine xx_lald dX9_isDominated_150 w1 (vp_in_nI (by omega) (by decide)) ?_
      refine xx_eql (y := lz (yo_w W 0 r i)) (by rw [nI_clamp (by omega)]; exact (congrArg fw (by omega)).trans (w2 0 (by decide) r hr i (by omega))) ?_
      refine xx_lstore dX9_isDominated_151 (by decide) ?_
      refine xx_clv (lv2 := [(0, .ref b), (1, .int 0), (2, .int (nI r)), (3, .int (nI m)), (4, .int (nI n)), (5, .int (nI k9)), (6, .int 1), (7, .int (nI i)), (8, .long (lz (yo_w W 0 k9 i))), (10, .long (lz (yo_w W 0 r i)))]) rfl ?_
      refine xx_aload_n dX9_isDominated_153 rfl ?_
      refine xx_get xx_c9 dX9_isDominated_154 wf_X9_51 (j := 19) (by decide) hb rfl ?_
      refine xx_bipush (v := 6) dX9_isDominated_157 (by decide) ?_
      refine xx_iconst (v := 1) dX9_isDominated_159 (by decide) ?_
      refine xx_iload_n dX9_isDominated_160 rfl ?_
      refine xx_isub dX9_isDominated_161 ?_
      refine xx_eqi (y := 1) (by decide) ?_
      refine xx_imul dX9_isDominated_162 ?_
      refine xx_eqi (y := 6) (by decide) ?_
      refine xx_iload dX9_isDominated_163 rfl ?_
      refine xx_iadd dX9_isDominated_165 ?_
      refine xx_eqi (y := nI (6 + i)) (nI_add 6 i) ?_
      refine xx_zald dX9_isDominated_166 t1 (vp_in_nI (by omega) (by decide)) ?_
      refine xx_eqi (y := if Nat.testBit (th9 1) i then 1 else 0) (by rw [nI_clamp (by omega), t2 _ (by omega)]; exact congrArg (fun z : Bool => if z = true then (1 : Int32) else 0) ((congrArg S9 (by omega)).trans (t3 1 (by decide) i (show i < n by omega)))) ?_
      refine xx_if_eq (tgt := 178) dX9_isDominated_167 (by decide) (fun j167 => ?_) (fun j167 => ?_)
      · refine xx_iconst (v := 1) dX9_isDominated_178 (by decide) ?_
        refine xx_goto (tgt := 183) dX9_isDominated_179 (by decide) ?_
        refine xx_istore dX9_isDominated_183 (by decide) ?_
        refine xx_clv (lv2 := [(0, .ref b), (1, .int 0), (2, .int (nI r)), (3, .int (nI m)), (4, .int (nI n)), (5, .int (nI k9)), (6, .int 1), (7, .int (nI i)), (8, .long (lz (yo_w W 0 k9 i))), (10, .long (lz (yo_w W 0 r i)))]) rfl ?_
        have gz2 := gz
        rw [Bool.and_eq_true] at gz2
        have g1 : hd = true := gz2.1
        have g2 : yr_m (yo_w W 0) (th9 1) k9 r i = true := gz2.2
        have t9 : Nat.testBit (th9 1) i = false := by cases hz : Nat.testBit (th9 1) i; rfl; exact absurd (j167.symm.trans (if_pos hz)) (by decide)
        have vv9 : (if (hd && yr_m (yo_w W 0) (th9 1) k9 r (i + 1)) = true then (1 : Int32) else 0) = 1 := by show (if (hd && (yr_m (yo_w W 0) (th9 1) k9 r i && (!Nat.testBit (th9 1) i || decide (yo_w W 0 r i < yo_w W 0 k9 i)))) = true then (1 : Int32) else 0) = _; rw [if_pos (show (hd && (yr_m (yo_w W 0) (th9 1) k9 r i && (!Nat.testBit (th9 1) i || decide (yo_w W 0 r i < yo_w W 0 k9 i)))) = true by rw [g1, g2, t9]; rfl)]
        refine xx_clv (lv2 := [(0, .ref b), (1, .int 0), (2, .int (nI r)), (3, .int (nI m)), (4, .int (nI n)), (5, .int (nI k9)), (6, .int (if (hd && yr_m (yo_w W 0) (th9 1) k9 r (i + 1)) = true then 1 else 0)), (7, .int (nI i)), (8, .long (lz (yo_w W 0 k9 i))), (10, .long (lz (yo_w W 0 r i)))]) (by rw [vv9]) ?_
        refine xx_iinc (v := nI (i + 1)) dX9_isDominated_185 rfl (nI_1 i) (by decide) ?_
        refine xx_clv (lv2 := [(0, .ref b), (1, .int 0), (2, .int (nI r)), (3, .int (nI m)), (4, .int (nI n)), (5, .int (nI k9)), (6, .int (if (hd && yr_m (yo_w W 0) (th9 1) k9 r (i + 1)) = true then 1 else 0)), (7, .int (nI (i + 1))), (8, .long (lz (yo_w W 0 k9 i))), (10, .long (lz (yo_w W 0 r i)))]) rfl ?_
        refine xx_goto (tgt := 73) dX9_isDominated_188 (by decide) ?_
        refine xx_less [0, 1, 2, 3, 4, 5, 6, 7] ?_
        refine xx_clv (lv2 := [(0, .ref b), (1, .int 0), (2, .int (nI r)), (3, .int (nI m)), (4, .int (nI n)), (5, .int (nI k9)), (6, .int (if (hd && yr_m (yo_w W 0) (th9 1) k9 r (i + 1)) = true then 1 else 0)), (7, .int (nI (i + 1)))]) rfl ?_
        refine ih (i + 1) (by omega) A rfl
      · refine xx_lload dX9_isDominated_170 rfl ?_
        refine xx_lload dX9_isDominated_172 rfl ?_
        refine xx_lcmp dX9_isDominated_174 ?_
        refine xx_if_le (tgt := 182) dX9_isDominated_175 (by decide) (fun j175 => ?_) (fun j175 => ?_)
        · refine xx_iconst (v := 0) dX9_isDominated_182 (by decide) ?_
          refine xx_istore dX9_isDominated_183 (by decide) ?_
          refine xx_clv (lv2 := [(0, .ref b), (1, .int 0), (2, .int (nI r)), (3, .int (nI m)), (4, .int (nI n)), (5, .int (nI k9)), (6, .int 0), (7, .int (nI i)), (8, .long (lz (yo_w W 0 k9 i))), (10, .long (lz (yo_w W 0 r i)))]) rfl ?_
          have gz2 := gz
          rw [Bool.and_eq_true] at gz2
          have g1 : hd = true := gz2.1
          have g2 : yr_m (yo_w W 0) (th9 1) k9 r i = true := gz2.2
          have t9 : Nat.testBit (th9 1) i = true := Classical.byContradiction (fun z => j167 (if_neg z))
          have n9 : ¬ yo_w W 0 r i < yo_w W 0 k9 i := fun z => absurd ((lz_le2 (wo k9 hk i (by omega)) (wo r hr i (by omega))).mp ((lg_cmp_le _ _).mp j175)) (by omega)
          have vv9 : (if (hd && yr_m (yo_w W 0) (th9 1) k9 r (i + 1)) = true then (1 : Int32) else 0) = 0 := by show (if (hd && (yr_m (yo_w W 0) (th9 1) k9 r i && (!Nat.testBit (th9 1) i || decide (yo_w W 0 r i < yo_w W 0 k9 i)))) = true then (1 : Int32) else 0) = _; rw [if_neg (show ¬ (hd && (yr_m (yo_w W 0) (th9 1) k9 r i && (!Nat.testBit (th9 1) i || decide (yo_w W 0 r i < yo_w W 0 k9 i)))) = true by rw [g1, g2, t9, decide_eq_false n9]; decide)]
          refine xx_clv (lv2 := [(0, .ref b), (1, .int 0), (2, .int (nI r)), (3, .int (nI m)), (4, .int (nI n)), (5, .int (nI k9)), (6, .int (if (hd && yr_m (yo_w W 0) (th9 1) k9 r (i + 1)) = true then 1 else 0)), (7, .int (nI i)), (8, .long (lz (yo_w W 0 k9 i))), (10, .long (lz (yo_w W 0 r i)))]) (by rw [vv9]) ?_
          refine xx_iinc (v := nI (i + 1)) dX9_isDominated_185 rfl (nI_1 i) (by decide) ?_
          refine xx_clv (lv2 := [(0, .ref b), (1, .int 0), (2, .int (nI r)), (3, .int (nI m)), (4, .int (nI n)), (5, .int (nI k9)), (6, .int (if (hd && yr_m (yo_w W 0) (th9 1) k9 r (i + 1)) = true then 1 else 0)), (7, .int (nI (i + 1))), (8, .long (lz (yo_w W 0 k9 i))), (10, .long (lz (yo_w W 0 r i)))]) rfl ?_
          refine xx_goto (tgt := 73) dX9_isDominated_188 (by decide) ?_
          refine xx_less [0, 1, 2, 3, 4, 5, 6, 7] ?_
          refine xx_clv (lv2 := [(0, .ref b), (1, .int 0), (2, .int (nI r)), (3, .int (nI m)), (4, .int (nI n)), (5, .int (nI k9)), (6, .int (if (hd && yr_m (yo_w W 0) (th9 1) k9 r (i + 1)) = true then 1 else 0)), (7, .int (nI (i + 1)))]) rfl ?_
          refine ih (i + 1) (by omega) A rfl
        · refine xx_iconst (v := 1) dX9_isDominated_178 (by decide) ?_
          refine xx_goto (tgt := 183) dX9_isDominated_179 (by decide) ?_
          refine xx_istore dX9_isDominated_183 (by decide) ?_
          refine xx_clv (lv2 := [(0, .ref b), (1, .int 0), (2, .int (nI r)), (3, .int (nI m)), (4, .int (nI n)), (5, .int (nI k9)), (6, .int 1), (7, .int (nI i)), (8, .long (lz (yo_w W 0 k9 i))), (10, .long (lz (yo_w W 0 r i)))]) rfl ?_
          have gz2 := gz
          rw [Bool.and_eq_true] at gz2
          have g1 : hd = true := gz2.1
          have g2 : yr_m (yo_w W 0) (th9 1) k9 r i = true := gz2.2
          have t9 : Nat.testBit (th9 1) i = true := Classical.byContradiction (fun z => j167 (if_neg z))
          have n9 : yo_w W 0 r i < yo_w W 0 k9 i := Int.not_le.mp (fun z => j175 ((lg_cmp_le _ _).mpr ((lz_le2 (wo k9 hk i (by omega)) (wo r hr i (by omega))).mpr z)))
          have vv9 : (if (hd && yr_m (yo_w W 0) (th9 1) k9 r (i + 1)) = true then (1 : Int32) else 0) = 1 := by show (if (hd && (yr_m (yo_w W 0) (th9 1) k9 r i && (!Nat.testBit (th9 1) i || decide (yo_w W 0 r i < yo_w W 0 k9 i)))) = true then (1 : Int32) else 0) = _; rw [if_pos (show (hd && (yr_m (yo_w W 0) (th9 1) k9 r i && (!Nat.testBit (th9 1) i || decide (yo_w W 0 r i < yo_w W 0 k9 i)))) = true by rw [g1, g2, t9, decide_eq_true n9]; rfl)]
          refine xx_clv (lv2 := [(0, .ref b), (1, .int 0), (2, .int (nI r)), (3, .int (nI m)), (4, .int (nI n)), (5, .int (nI k9)), (6, .int (if (hd && yr_m (yo_w W 0) (th9 1) k9 r (i + 1)) = true then 1 else 0)), (7, .int (nI i)), (8, .long (lz (yo_w W 0 k9 i))), (10, .long (lz (yo_w W 0 r i)))]) (by rw [vv9]) ?_
          refine xx_iinc (v := nI (i + 1)) dX9_isDominated_185 rfl (nI_1 i) (by decide) ?_
          refine xx_clv (lv2 := [(0, .ref b), (1, .int 0), (2, .int (nI r)), (3, .int (nI m)), (4, .int (nI n)), (5, .int (nI k9)), (6, .int (if (hd && yr_m (yo_w W 0) (th9 1) k9 r (i + 1)) = true then 1 else 0)), (7, .int (nI (i + 1))), (8, .long (lz (yo_w W 0 k9 i))), (10, .long (lz (yo_w W 0 r i)))]) rfl ?_
          refine xx_goto (tgt := 73) dX9_isDominated_188 (by decide) ?_
          refine xx_less [0, 1, 2, 3, 4, 5, 6, 7] ?_
          refine xx_clv (lv2 := [(0, .ref b), (1, .int 0), (2, .int (nI r)), (3, .int (nI m)), (4, .int (nI n)), (5, .int (nI k9)), (6, .int (if (hd && yr_m (yo_w W 0) (th9 1) k9 r (i + 1)) = true then 1 else 0)), (7, .int (nI (i + 1)))]) rfl ?_
          refine ih (i + 1) (by omega) A rfl
    · refine xx_clv (lv2 := [(0, .ref b), (1, .int 0), (2, .int (nI r)), (3, .int (nI m)), (4, .int (nI n)), (5, .int (nI k9)), (6, .int 0), (7, .int (nI i))]) (by rw [if_neg gz]) ?_
      refine xx_iload dX9_isDominated_80 rfl ?_
      refine xx_if_eq (tgt := 191) dX9_isDominated_82 (by decide) (fun j82 => ?_) (fun h => absurd (by decide) h)
      have f9 : ¬ (hd && yr_m (yo_w W 0) (th9 1) k9 r n) = true := fun z => by rw [Bool.and_eq_true] at z; exact gz (by rw [z.1, Bool.true_and]; cases yz : yr_m (yo_w W 0) (th9 1) k9 r i; rw [yr_m_f (by omega) yz] at z; exact absurd z.2 (by decide); rfl)
      refine xx_less [0, 1, 2, 3, 4, 5, 6] ?_
      refine xx_clv (lv2 := [(0, .ref b), (1, .int 0), (2, .int (nI r)), (3, .int (nI m)), (4, .int (nI n)), (5, .int (nI k9)), (6, .int (if (hd && yr_m (yo_w W 0) (th9 1) k9 r n) = true then 1 else 0))]) (by rw [if_neg f9]; rfl) ?_
      exact kC A rfl
set_option maxRecDepth 100000 in
theorem l_X9_io0 {G : xx_G} {l : Launch} {A : xx_H} {b : Nat} {th hr st hl en tu : Value} {m n : Nat} {W : Nat → Nat → Nat → Int} {le : Nat → Int} {mu th9 : Nat → Nat} {S9 : Nat → Bool} {r : Nat} (hb : A.2 b = xx_o 9 (xx_mf b th (.int (nI m)) (.int (nI n)) hr st hl en tu)) (hP : xx_rp A b m n W le mu) (hm : m ≤ 6) (hn : n ≤ 6) (hT : xx_rth A b m n th9 S9) (hr : r < m) :
    ∀ (v i : Nat), i + v = m → yr_f (yo_w W 0) (th9 0) (th9 1) n r i = false → xx_X G l mX9_isDominated 0 0 0 36 [(0, .ref b), (1, .int 0), (2, .int (nI r)), (3, .int (nI m)), (4, .int (nI n)), (5, .int (nI i))] [] A (fun z B => z = .inl (some (.int (if yr_f (yo_w W 0) (th9 0) (th9 1) n r m then 1 else 0))) ∧ B = A) := by
  obtain ⟨⟨ft, t1, t2⟩, t3⟩ := id hT
  intro v
  induction v with
  | zero =>
    intro i h9i y1
    have h9e : m = i := by omega
    subst h9e
    refine xx_iload dX9_isDominated_36 rfl ?_
    refine xx_iload_n dX9_isDominated_38 rfl ?_
    refine xx_icmp_ge (tgt := 204) dX9_isDominated_39 (by decide) (fun j39 => ?_) (fun h => absurd (Int32.le_refl _) h)
    refine xx_iconst (v := 0) dX9_isDominated_204 (by decide) ?_
    exact xx_zret dX9_isDominated_205 rfl rfl ⟨by rw [y1]; rfl, rfl⟩
  | succ v ih =>
    intro i h9i y1
    refine xx_iload dX9_isDominated_36 rfl ?_
    refine xx_iload_n dX9_isDominated_38 rfl ?_
    refine xx_icmp_ge (tgt := 204) dX9_isDominated_39 (by decide) (fun h => absurd h (nI_ge (a := i) (b := m) (by omega) (by omega))) (fun j39 => ?_)
    refine xx_iload dX9_isDominated_42 rfl ?_
    refine xx_iload_n dX9_isDominated_44 rfl ?_
    refine xx_icmp_eq (tgt := 67) dX9_isDominated_45 (by decide) (fun j45 => ?_) (fun j45 => ?_)
    · have j45 : i = r := (nI_eq (a := i) (b := r) (by omega) (by omega)).mp j45
      refine xx_iconst (v := 0) dX9_isDominated_67 (by decide) ?_
      refine xx_istore dX9_isDominated_68 (by decide) ?_
      refine xx_clv (lv2 := [(0, .ref b), (1, .int 0), (2, .int (nI r)), (3, .int (nI m)), (4, .int (nI n)), (5, .int (nI i)), (6, .int 0)]) rfl ?_
      refine xx_iconst (v := 0) dX9_isDominated_70 (by decide) ?_
      refine xx_istore dX9_isDominated_71 (by decide) ?_
      refine xx_clv (lv2 := [(0, .ref b), (1, .int 0), (2, .int (nI r)), (3, .int (nI m)), (4, .int (nI n)), (5, .int (nI i)), (6, .int 0), (7, .int 0)]) rfl ?_
      have hd9 : (if ((decide (i ≠ r) && Nat.testBit (th9 0) i) && yr_m (yo_w W 0) (th9 1) i r 0) = true then (1 : Int32) else 0) = 0 := by rw [decide_eq_false (fun z => z j45)]; rfl
      refine xx_clv (lv2 := [(0, .ref b), (1, .int 0), (2, .int (nI r)), (3, .int (nI m)), (4, .int (nI n)), (5, .int (nI i)), (6, .int (if ((decide (i ≠ r) && Nat.testBit (th9 0) i) && yr_m (yo_w W 0) (th9 1) i r 0) = true then 1 else 0)), (7, .int (nI 0))]) (by rw [hd9]; rfl) ?_
      refine l_X9_ii0 (k9 := i) (r := r) (hd := (decide (i ≠ r) && Nat.testBit (th9 0) i)) hb hP hm hn hT hr (by omega) (fun B2 y2 => ?_) n 0 (by omega) A rfl
      rw [y2]
      by_cases gz : ((decide (i ≠ r) && Nat.testBit (th9 0) i) && yr_m (yo_w W 0) (th9 1) i r n) = true
      · refine xx_clv (lv2 := [(0, .ref b), (1, .int 0), (2, .int (nI r)), (3, .int (nI m)), (4, .int (nI n)), (5, .int (nI i)), (6, .int 1)]) (by rw [if_pos gz]) ?_
        refine xx_iload dX9_isDominated_191 rfl ?_
        refine xx_if_eq (tgt := 198) dX9_isDominated_193 (by decide) (fun h => absurd h (by decide)) (fun j193 => ?_)
        refine xx_iconst (v := 1) dX9_isDominated_196 (by decide) ?_
        exact xx_zret dX9_isDominated_197 rfl rfl ⟨by rw [yr_f_t (k := i + 1) (by omega) (by show (yr_f (yo_w W 0) (th9 0) (th9 1) n r i || ((decide (i ≠ r) && Nat.testBit (th9 0) i) && yr_m (yo_w W 0) (th9 1) i r n)) = true; rw [gz, Bool.or_true])]; rfl, rfl⟩
      · refine xx_clv (lv2 := [(0, .ref b), (1, .int 0), (2, .int (nI r)), (3, .int (nI m)), (4, .int (nI n)), (5, .int (nI i)), (6, .int 0)]) (by rw [if_neg gz]) ?_
        refine xx_iload dX9_isDominated_191 rfl ?_
        refine xx_if_eq (tgt := 198) dX9_isDominated_193 (by decide) (fun j193 => ?_) (fun h => absurd (by decide) h)
        refine xx_iinc (v := nI (i + 1)) dX9_isDominated_198 rfl (nI_1 i) (by decide) ?_
        refine xx_goto (tgt := 36) dX9_isDominated_201 (by decide) ?_
        refine xx_less [0, 1, 2, 3, 4, 5] ?_
        refine xx_clv (lv2 := [(0, .ref b), (1, .int 0), (2, .int (nI r)), (3, .int (nI m)), (4, .int (nI n)), (5, .int (nI (i + 1)))]) rfl ?_
        exact ih (i + 1) (by omega) (by show (yr_f (yo_w W 0) (th9 0) (th9 1) n r i || ((decide (i ≠ r) && Nat.testBit (th9 0) i) && yr_m (yo_w W 0) (th9 1) i r n)) = false; rw [y1, Bool.false_or]; exact (Bool.not_eq_true _).mp gz)
    · have j45 : ¬ i = r := fun hq9 => j45 ((nI_eq (a := i) (b := r) (by omega) (by omega)).mpr hq9)
      refine xx_aload_n dX9_isDominated_48 rfl ?_
      refine xx_get xx_c9 dX9_isDominated_49 wf_X9_51 (j := 19) (by decide) hb rfl ?_
      refine xx_bipush (v := 6) dX9_isDominated_52 (by decide) ?_
      refine xx_iload_n dX9_isDominated_54 rfl ?_
      refine xx_imul dX9_isDominated_55 ?_
      refine xx_eqi (y := 0) (by decide) ?_
      refine xx_iload dX9_isDominated_56 rfl ?_
      refine xx_iadd dX9_isDominated_58 ?_
      refine xx_eqi (y := nI (0 + i)) (nI_add 0 i) ?_
      refine xx_zald dX9_isDominated_59 t1 (vp_in_nI (by omega) (by decide)) ?_
      refine xx_eqi (y := if Nat.testBit (th9 0) i then 1 else 0) (by rw [nI_clamp (by omega), t2 _ (by omega)]; exact congrArg (fun z : Bool => if z = true then (1 : Int32) else 0) ((congrArg S9 (by omega)).trans (t3 0 (by decide) i (show i < m by omega)))) ?_
      refine xx_if_eq (tgt := 67) dX9_isDominated_60 (by decide) (fun j60 => ?_) (fun j60 => ?_)
      · refine xx_iconst (v := 0) dX9_isDominated_67 (by decide) ?_
        refine xx_istore dX9_isDominated_68 (by decide) ?_
        refine xx_clv (lv2 := [(0, .ref b), (1, .int 0), (2, .int (nI r)), (3, .int (nI m)), (4, .int (nI n)), (5, .int (nI i)), (6, .int 0)]) rfl ?_
        refine xx_iconst (v := 0) dX9_isDominated_70 (by decide) ?_
        refine xx_istore dX9_isDominated_71 (by decide) ?_
        refine xx_clv (lv2 := [(0, .ref b), (1, .int 0), (2, .int (nI r)), (3, .int (nI m)), (4, .int (nI n)), (5, .int (nI i)), (6, .int 0), (7, .int 0)]) rfl ?_
        have t9 : Nat.testBit (th9 0) i = false := by cases hz : Nat.testBit (th9 0) i; rfl; exact absurd (j60.symm.trans (if_pos hz)) (by decide)
        have hd9 : (if ((decide (i ≠ r) && Nat.testBit (th9 0) i) && yr_m (yo_w W 0) (th9 1) i r 0) = true then (1 : Int32) else 0) = 0 := by rw [t9, Bool.and_false]; rfl
        refine xx_clv (lv2 := [(0, .ref b), (1, .int 0), (2, .int (nI r)), (3, .int (nI m)), (4, .int (nI n)), (5, .int (nI i)), (6, .int (if ((decide (i ≠ r) && Nat.testBit (th9 0) i) && yr_m (yo_w W 0) (th9 1) i r 0) = true then 1 else 0)), (7, .int (nI 0))]) (by rw [hd9]; rfl) ?_
        refine l_X9_ii0 (k9 := i) (r := r) (hd := (decide (i ≠ r) && Nat.testBit (th9 0) i)) hb hP hm hn hT hr (by omega) (fun B2 y2 => ?_) n 0 (by omega) A rfl
        rw [y2]
        by_cases gz : ((decide (i ≠ r) && Nat.testBit (th9 0) i) && yr_m (yo_w W 0) (th9 1) i r n) = true
        · refine xx_clv (lv2 := [(0, .ref b), (1, .int 0), (2, .int (nI r)), (3, .int (nI m)), (4, .int (nI n)), (5, .int (nI i)), (6, .int 1)]) (by rw [if_pos gz]) ?_
          refine xx_iload dX9_isDominated_191 rfl ?_
          refine xx_if_eq (tgt := 198) dX9_isDominated_193 (by decide) (fun h => absurd h (by decide)) (fun j193 => ?_)
          refine xx_iconst (v := 1) dX9_isDominated_196 (by decide) ?_
          exact xx_zret dX9_isDominated_197 rfl rfl ⟨by rw [yr_f_t (k := i + 1) (by omega) (by show (yr_f (yo_w W 0) (th9 0) (th9 1) n r i || ((decide (i ≠ r) && Nat.testBit (th9 0) i) && yr_m (yo_w W 0) (th9 1) i r n)) = true; rw [gz, Bool.or_true])]; rfl, rfl⟩
        · refine xx_clv (lv2 := [(0, .ref b), (1, .int 0), (2, .int (nI r)), (3, .int (nI m)), (4, .int (nI n)), (5, .int (nI i)), (6, .int 0)]) (by rw [if_neg gz]) ?_
          refine xx_iload dX9_isDominated_191 rfl ?_
          refine xx_if_eq (tgt := 198) dX9_isDominated_193 (by decide) (fun j193 => ?_) (fun h => absurd (by decide) h)
          refine xx_iinc (v := nI (i + 1)) dX9_isDominated_198 rfl (nI_1 i) (by decide) ?_
          refine xx_goto (tgt := 36) dX9_isDominated_201 (by decide) ?_
          refine xx_less [0, 1, 2, 3, 4, 5] ?_
          refine xx_clv (lv2 := [(0, .ref b), (1, .int 0), (2, .int (nI r)), (3, .int (nI m)), (4, .int (nI n)), (5, .int (nI (i + 1)))]) rfl ?_
          exact ih (i + 1) (by omega) (by show (yr_f (yo_w W 0) (th9 0) (th9 1) n r i || ((decide (i ≠ r) && Nat.testBit (th9 0) i) && yr_m (yo_w W 0) (th9 1) i r n)) = false; rw [y1, Bool.false_or]; exact (Bool.not_eq_true _).mp gz)
      · refine xx_iconst (v := 1) dX9_isDominated_63 (by decide) ?_
        refine xx_goto (tgt := 68) dX9_isDominated_64 (by decide) ?_
        refine xx_istore dX9_isDominated_68 (by decide) ?_
        refine xx_clv (lv2 := [(0, .ref b), (1, .int 0), (2, .int (nI r)), (3, .int (nI m)), (4, .int (nI n)), (5, .int (nI i)), (6, .int 1)]) rfl ?_
        refine xx_iconst (v := 0) dX9_isDominated_70 (by decide) ?_
        refine xx_istore dX9_isDominated_71 (by decide) ?_
        refine xx_clv (lv2 := [(0, .ref b), (1, .int 0), (2, .int (nI r)), (3, .int (nI m)), (4, .int (nI n)), (5, .int (nI i)), (6, .int 1), (7, .int 0)]) rfl ?_
        have t9 : Nat.testBit (th9 0) i = true := Classical.byContradiction (fun z => j60 (if_neg z))
        have hd9 : (if ((decide (i ≠ r) && Nat.testBit (th9 0) i) && yr_m (yo_w W 0) (th9 1) i r 0) = true then (1 : Int32) else 0) = 1 := by rw [t9, decide_eq_true j45]; rfl
        refine xx_clv (lv2 := [(0, .ref b), (1, .int 0), (2, .int (nI r)), (3, .int (nI m)), (4, .int (nI n)), (5, .int (nI i)), (6, .int (if ((decide (i ≠ r) && Nat.testBit (th9 0) i) && yr_m (yo_w W 0) (th9 1) i r 0) = true then 1 else 0)), (7, .int (nI 0))]) (by rw [hd9]; rfl) ?_
        refine l_X9_ii0 (k9 := i) (r := r) (hd := (decide (i ≠ r) && Nat.testBit (th9 0) i)) hb hP hm hn hT hr (by omega) (fun B2 y2 => ?_) n 0 (by omega) A rfl
        rw [y2]
        by_cases gz : ((decide (i ≠ r) && Nat.testBit (th9 0) i) && yr_m (yo_w W 0) (th9 1) i r n) = true
        · refine xx_clv (lv2 := [(0, .ref b), (1, .int 0), (2, .int (nI r)), (3, .int (nI m)), (4, .int (nI n)), (5, .int (nI i)), (6, .int 1)]) (by rw [if_pos gz]) ?_
          refine xx_iload dX9_isDominated_191 rfl ?_
          refine xx_if_eq (tgt := 198) dX9_isDominated_193 (by decide) (fun h => absurd h (by decide)) (fun j193 => ?_)
          refine xx_iconst (v := 1) dX9_isDominated_196 (by decide) ?_
          exact xx_zret dX9_isDominated_197 rfl rfl ⟨by rw [yr_f_t (k := i + 1) (by omega) (by show (yr_f (yo_w W 0) (th9 0) (th9 1) n r i || ((decide (i ≠ r) && Nat.testBit (th9 0) i) && yr_m (yo_w W 0) (th9 1) i r n)) = true; rw [gz, Bool.or_true])]; rfl, rfl⟩
        · refine xx_clv (lv2 := [(0, .ref b), (1, .int 0), (2, .int (nI r)), (3, .int (nI m)), (4, .int (nI n)), (5, .int (nI i)), (6, .int 0)]) (by rw [if_neg gz]) ?_
          refine xx_iload dX9_isDominated_191 rfl ?_
          refine xx_if_eq (tgt := 198) dX9_isDominated_193 (by decide) (fun j193 => ?_) (fun h => absurd (by decide) h)
          refine xx_iinc (v := nI (i + 1)) dX9_isDominated_198 rfl (nI_1 i) (by decide) ?_
          refine xx_goto (tgt := 36) dX9_isDominated_201 (by decide) ?_
          refine xx_less [0, 1, 2, 3, 4, 5] ?_
          refine xx_clv (lv2 := [(0, .ref b), (1, .int 0), (2, .int (nI r)), (3, .int (nI m)), (4, .int (nI n)), (5, .int (nI (i + 1)))]) rfl ?_
          exact ih (i + 1) (by omega) (by show (yr_f (yo_w W 0) (th9 0) (th9 1) n r i || ((decide (i ≠ r) && Nat.testBit (th9 0) i) && yr_m (yo_w W 0) (th9 1) i r n)) = false; rw [y1, Bool.false_or]; exact (Bool.not_eq_true _).mp gz)
set_option maxRecDepth 100000 in
theorem l_X9_ii1 {G : xx_G} {l : Launch} {A : xx_H} {b : Nat} {th hr st hl en tu : Value} {m n : Nat} {W : Nat → Nat → Nat → Int} {le : Nat → Int} {mu th9 : Nat → Nat} {S9 : Nat → Bool} {r k9 : Nat} {hd : Bool} {Q : Option Value ⊕ String → xx_H → Prop} (hb : A.2 b = xx_o 9 (xx_mf b th (.int (nI m)) (.int (nI n)) hr st hl en tu)) (hP : xx_rp A b m n W le mu) (hm : m ≤ 6) (hn : n ≤ 6) (hT : xx_rth A b m n th9 S9) (hr : r < n) (hk : k9 < n) (kC : ∀ (B : xx_H), (B = A) → xx_X G l mX9_isDominated 0 0 0 191 [(0, .ref b), (1, .int 1), (2, .int (nI r)), (3, .int (nI n)), (4, .int (nI m)), (5, .int (nI k9)), (6, .int (if (hd && yr_m (yo_w W 1) (th9 0) k9 r m) = true then 1 else 0))] [] B Q) :
    ∀ (v i : Nat), i + v = m → ∀ (B : xx_H), (B = A) → xx_X G l mX9_isDominated 0 0 0 73 [(0, .ref b), (1, .int 1), (2, .int (nI r)), (3, .int (nI n)), (4, .int (nI m)), (5, .int (nI k9)), (6, .int (if (hd && yr_m (yo_w W 1) (th9 0) k9 r i) = true then 1 else 0)), (7, .int (nI i))] [] B Q := by
  obtain ⟨⟨fw, w1, w2⟩, _, _, wb, _⟩ := id hP
  obtain ⟨⟨ft, t1, t2⟩, t3⟩ := id hT
  have wo := yo_w_r (p := 1) hP (by decide)
  have wo : ∀ i, i < n → ∀ j, j < m → (yo_w W 1 i j).natAbs ≤ 277172280 := wo
  intro v
  induction v with
  | zero =>
    intro i h9i B y1
    have h9e : m = i := by omega
    subst h9e
    rw [y1]
    refine xx_clv (lv2 := [(0, .ref b), (1, .int 1), (2, .int (nI r)), (3, .int (nI n)), (4, .int (nI m)), (5, .int (nI k9)), (6, .int (if (hd && yr_m (yo_w W 1) (th9 0) k9 r m) = true then 1 else 0)), (7, .int (nI m))]) rfl ?_
    refine xx_iload dX9_isDominated_73 rfl ?_
    refine xx_iload dX9_isDominated_75 rfl ?_
    refine xx_icmp_ge (tgt := 191) dX9_isDominated_77 (by decide) (fun j77 => ?_) (fun h => absurd (Int32.le_refl _) h)
    refine xx_less [0, 1, 2, 3, 4, 5, 6] ?_
    refine xx_clv (lv2 := [(0, .ref b), (1, .int 1), (2, .int (nI r)), (3, .int (nI n)), (4, .int (nI m)), (5, .int (nI k9)), (6, .int (if (hd && yr_m (yo_w W 1) (th9 0) k9 r m) = true then 1 else 0))]) rfl ?_
    exact kC A rfl
  | succ v ih =>
    intro i h9i B y1
    rw [y1]
    refine xx_iload dX9_isDominated_73 rfl ?_
    refine xx_iload dX9_isDominated_75 rfl ?_
    refine xx_icmp_ge (tgt := 191) dX9_isDominated_77 (by decide) (fun h => absurd h (nI_ge (a := i) (b := m) (by omega) (by omega))) (fun j77 => ?_)
    by_cases gz : (hd && yr_m (yo_w W 1) (th9 0) k9 r i) = true
    · refine xx_clv (lv2 := [(0, .ref b), (1, .int 1), (2, .int (nI r)), (3, .int (nI n)), (4, .int (nI m)), (5, .int (nI k9)), (6, .int 1), (7, .int (nI i))]) (by rw [if_pos gz]) ?_
      refine xx_iload dX9_isDominated_80 rfl ?_
      refine xx_if_eq (tgt := 191) dX9_isDominated_82 (by decide) (fun h => absurd h (by decide)) (fun j82 => ?_)
      refine xx_aload_n dX9_isDominated_85 rfl ?_
      refine xx_get xx_c9 dX9_isDominated_86 wf_X9_59 (j := 21) (by decide) hb rfl ?_
      refine xx_bipush (v := 36) dX9_isDominated_89 (by decide) ?_
      refine xx_iload_n dX9_isDominated_91 rfl ?_
      refine xx_imul dX9_isDominated_92 ?_
      refine xx_eqi (y := 36) (by decide) ?_
      refine xx_iload_n dX9_isDominated_93 rfl ?_
      refine xx_if_ne (tgt := 108) dX9_isDominated_94 (by decide) (fun j94 => ?_) (fun h => absurd h (by decide))
      refine xx_bipush (v := 6) dX9_isDominated_108 (by decide) ?_
      refine xx_iload dX9_isDominated_110 rfl ?_
      refine xx_imul dX9_isDominated_112 ?_
      refine xx_eqi (y := nI (6 * i)) (pk_mul 6 i) ?_
      refine xx_iload dX9_isDominated_113 rfl ?_
      refine xx_iadd dX9_isDominated_115 ?_
      refine xx_eqi (y := nI (6 * i + k9)) (nI_add (6 * i) k9) ?_
      refine xx_iadd dX9_isDominated_116 ?_
      refine xx_eqi (y := nI (36 + (6 * i + k9))) (nI_add 36 (6 * i + k9)) ?_
      refine xx_lald dX9_isDominated_117 w1 (vp_in_nI (by omega) (by decide)) ?_
      refine xx_eql (y := lz (yo_w W 1 k9 i)) (by rw [nI_clamp (by omega)]; exact (congrArg fw (by omega)).trans (w2 1 (by decide) i (by omega) k9 hk)) ?_
      refine xx_lstore dX9_isDominated_118 (by decide) ?_
      refine xx_clv (lv2 := [(0, .ref b), (1, .int 1), (2, .int (nI r)), (3, .int (nI n)), (4, .int (nI m)), (5, .int (nI k9)), (6, .int 1), (7, .int (nI i)), (8, .long (lz (yo_w W 1 k9 i)))]) rfl ?_
      refine xx_aload_n dX9_isDominated_120 rfl ?_
      refine xx_get xx_c9 dX9_isDominated_121 wf_X9_59 (j := 21) (by decide) hb rfl ?_
      refine xx_bipush (v := 36) dX9_isDominated_124 (by decide) ?_
      refine xx_iload_n dX9_isDominated_126 rfl ?_
      refine xx_imul dX9_isDominated_127 ?_
      refine xx_eqi (y := 36) (by decide) ?_
      refine xx_iload_n dX9_isDominated_128 rfl ?_
      refine xx_if_ne (tgt := 142) dX9_isDominated_129 (by decide) (fun j129 => ?_) (fun h => absurd h (by decide))
      refine xx_bipush (v := 6) dX9_isDominated_142 (by decide) ?_
      refine xx_iload dX9_isDominated_144 rfl ?_
      refine xx_imul dX9_isDominated_146 ?_
      refine xx_eqi (y := nI (6 * i)) (pk_mul 6 i) ?_
      refine xx_iload_n dX9_isDominated_147 rfl ?_
      refine xx_iadd dX9_isDominated_148 ?_
      refine xx_eqi (y := nI (6 * i + r)) (nI_add (6 * i) r) ?_
      refine xx_iadd dX9_isDominated_149 ?_
      refine xx_eqi (y := nI (36 + (6 * i + r))) (nI_add 36 (6 * i + r)) ?_
      refine xx_lald dX9_isDominated_150 w1 (vp_in_nI (by omega) (by decide)) ?_
      refine xx_eql (y := lz (yo_w W 1 r i)) (by rw [nI_clamp (by omega)]; exact (congrArg fw (by omega)).trans (w2 1 (by decide) i (by omega) r hr)) ?_
      refine xx_lstore dX9_isDominated_151 (by decide) ?_
      refine xx_clv (lv2 := [(0, .ref b), (1, .int 1), (2, .int (nI r)), (3, .int (nI n)), (4, .int (nI m)), (5, .int (nI k9)), (6, .int 1), (7, .int (nI i)), (8, .long (lz (yo_w W 1 k9 i))), (10, .long (lz (yo_w W 1 r i)))]) rfl ?_
      refine xx_aload_n dX9_isDominated_153 rfl ?_
      refine xx_get xx_c9 dX9_isDominated_154 wf_X9_51 (j := 19) (by decide) hb rfl ?_
      refine xx_bipush (v := 6) dX9_isDominated_157 (by decide) ?_
      refine xx_iconst (v := 1) dX9_isDominated_159 (by decide) ?_
      refine xx_iload_n dX9_isDominated_160 rfl ?_
      refine xx_isub dX9_isDominated_161 ?_
      refine xx_eqi (y := 0) (by decide) ?_
      refine xx_imul dX9_isDominated_162 ?_
      refine xx_eqi (y := 0) (by decide) ?_
      refine xx_iload dX9_isDominated_163 rfl ?_
      refine xx_iadd dX9_isDominated_165 ?_
      refine xx_eqi (y := nI (0 + i)) (nI_add 0 i) ?_
      refine xx_zald dX9_isDominated_166 t1 (vp_in_nI (by omega) (by decide)) ?_
      refine xx_eqi (y := if Nat.testBit (th9 0) i then 1 else 0) (by rw [nI_clamp (by omega), t2 _ (by omega)]; exact congrArg (fun z : Bool => if z = true then (1 : Int32) else 0) ((congrArg S9 (by omega)).trans (t3 0 (by decide) i (show i < m by omega)))) ?_
      refine xx_if_eq (tgt := 178) dX9_isDominated_167 (by decide) (fun j167 => ?_) (fun j167 => ?_)
      · refine xx_iconst (v := 1) dX9_isDominated_178 (by decide) ?_
        refine xx_goto (tgt := 183) dX9_isDominated_179 (by decide) ?_
        refine xx_istore dX9_isDominated_183 (by decide) ?_
        refine xx_clv (lv2 := [(0, .ref b), (1, .int 1), (2, .int (nI r)), (3, .int (nI n)), (4, .int (nI m)), (5, .int (nI k9)), (6, .int 1), (7, .int (nI i)), (8, .long (lz (yo_w W 1 k9 i))), (10, .long (lz (yo_w W 1 r i)))]) rfl ?_
        have gz2 := gz
        rw [Bool.and_eq_true] at gz2
        have g1 : hd = true := gz2.1
        have g2 : yr_m (yo_w W 1) (th9 0) k9 r i = true := gz2.2
        have t9 : Nat.testBit (th9 0) i = false := by cases hz : Nat.testBit (th9 0) i; rfl; exact absurd (j167.symm.trans (if_pos hz)) (by decide)
        have vv9 : (if (hd && yr_m (yo_w W 1) (th9 0) k9 r (i + 1)) = true then (1 : Int32) else 0) = 1 := by show (if (hd && (yr_m (yo_w W 1) (th9 0) k9 r i && (!Nat.testBit (th9 0) i || decide (yo_w W 1 r i < yo_w W 1 k9 i)))) = true then (1 : Int32) else 0) = _; rw [if_pos (show (hd && (yr_m (yo_w W 1) (th9 0) k9 r i && (!Nat.testBit (th9 0) i || decide (yo_w W 1 r i < yo_w W 1 k9 i)))) = true by rw [g1, g2, t9]; rfl)]
        refine xx_clv (lv2 := [(0, .ref b), (1, .int 1), (2, .int (nI r)), (3, .int (nI n)), (4, .int (nI m)), (5, .int (nI k9)), (6, .int (if (hd && yr_m (yo_w W 1) (th9 0) k9 r (i + 1)) = true then 1 else 0)), (7, .int (nI i)), (8, .long (lz (yo_w W 1 k9 i))), (10, .long (lz (yo_w W 1 r i)))]) (by rw [vv9]) ?_
        refine xx_iinc (v := nI (i + 1)) dX9_isDominated_185 rfl (nI_1 i) (by decide) ?_
        refine xx_clv (lv2 := [(0, .ref b), (1, .int 1), (2, .int (nI r)), (3, .int (nI n)), (4, .int (nI m)), (5, .int (nI k9)), (6, .int (if (hd && yr_m (yo_w W 1) (th9 0) k9 r (i + 1)) = true then 1 else 0)), (7, .int (nI (i + 1))), (8, .long (lz (yo_w W 1 k9 i))), (10, .long (lz (yo_w W 1 r i)))]) rfl ?_
        refine xx_goto (tgt := 73) dX9_isDominated_188 (by decide) ?_
        refine xx_less [0, 1, 2, 3, 4, 5, 6, 7] ?_
        refine xx_clv (lv2 := [(0, .ref b), (1, .int 1), (2, .int (nI r)), (3, .int (nI n)), (4, .int (nI m)), (5, .int (nI k9)), (6, .int (if (hd && yr_m (yo_w W 1) (th9 0) k9 r (i + 1)) = true then 1 else 0)), (7, .int (nI (i + 1)))]) rfl ?_
        refine ih (i + 1) (by omega) A rfl
      · refine xx_lload dX9_isDominated_170 rfl ?_
        refine xx_lload dX9_isDominated_172 rfl ?_
        refine xx_lcmp dX9_isDominated_174 ?_
        refine xx_if_le (tgt := 182) dX9_isDominated_175 (by decide) (fun j175 => ?_) (fun j175 => ?_)
        · refine xx_iconst (v := 0) dX9_isDominated_182 (by decide) ?_
          refine xx_istore dX9_isDominated_183 (by decide) ?_
          refine xx_clv (lv2 := [(0, .ref b), (1, .int 1), (2, .int (nI r)), (3, .int (nI n)), (4, .int (nI m)), (5, .int (nI k9)), (6, .int 0), (7, .int (nI i)), (8, .long (lz (yo_w W 1 k9 i))), (10, .long (lz (yo_w W 1 r i)))]) rfl ?_
          have gz2 := gz
          rw [Bool.and_eq_true] at gz2
          have g1 : hd = true := gz2.1
          have g2 : yr_m (yo_w W 1) (th9 0) k9 r i = true := gz2.2
          have t9 : Nat.testBit (th9 0) i = true := Classical.byContradiction (fun z => j167 (if_neg z))
          have n9 : ¬ yo_w W 1 r i < yo_w W 1 k9 i := fun z => absurd ((lz_le2 (wo k9 hk i (by omega)) (wo r hr i (by omega))).mp ((lg_cmp_le _ _).mp j175)) (by omega)
          have vv9 : (if (hd && yr_m (yo_w W 1) (th9 0) k9 r (i + 1)) = true then (1 : Int32) else 0) = 0 := by show (if (hd && (yr_m (yo_w W 1) (th9 0) k9 r i && (!Nat.testBit (th9 0) i || decide (yo_w W 1 r i < yo_w W 1 k9 i)))) = true then (1 : Int32) else 0) = _; rw [if_neg (show ¬ (hd && (yr_m (yo_w W 1) (th9 0) k9 r i && (!Nat.testBit (th9 0) i || decide (yo_w W 1 r i < yo_w W 1 k9 i)))) = true by rw [g1, g2, t9, decide_eq_false n9]; decide)]
          refine xx_clv (lv2 := [(0, .ref b), (1, .int 1), (2, .int (nI r)), (3, .int (nI n)), (4, .int (nI m)), (5, .int (nI k9)), (6, .int (if (hd && yr_m (yo_w W 1) (th9 0) k9 r (i + 1)) = true then 1 else 0)), (7, .int (nI i)), (8, .long (lz (yo_w W 1 k9 i))), (10, .long (lz (yo_w W 1 r i)))]) (by rw [vv9]) ?_
          refine xx_iinc (v := nI (i + 1)) dX9_isDominated_185 rfl (nI_1 i) (by decide) ?_
          refine xx_clv (lv2 := [(0, .ref b), (1, .int 1), (2, .int (nI r)), (3, .int (nI n)), (4, .int (nI m)), (5, .int (nI k9)), (6, .int (if (hd && yr_m (yo_w W 1) (th9 0) k9 r (i + 1)) = true then 1 else 0)), (7, .int (nI (i + 1))), (8, .long (lz (yo_w W 1 k9 i))), (10, .long (lz (yo_w W 1 r i)))]) rfl ?_
          refine xx_goto (tgt := 73) dX9_isDominated_188 (by decide) ?_
          refine xx_less [0, 1, 2, 3, 4, 5, 6, 7] ?_
          refine xx_clv (lv2 := [(0, .ref b), (1, .int 1), (2, .int (nI r)), (3, .int (nI n)), (4, .int (nI m)), (5, .int (nI k9)), (6, .int (if (hd && yr_m (yo_w W 1) (th9 0) k9 r (i + 1)) = true then 1 else 0)), (7, .int (nI (i + 1)))]) rfl ?_
          refine ih (i + 1) (by omega) A rfl
        · refine xx_iconst (v := 1) dX9_isDominated_178 (by decide) ?_
          refine xx_goto (tgt := 183) dX9_isDominated_179 (by decide) ?_
          refine xx_istore dX9_isDominated_183 (by decide) ?_
          refine xx_clv (lv2 := [(0, .ref b), (1, .int 1), (2, .int (nI r)), (3, .int (nI n)), (4, .int (nI m)), (5, .int (nI k9)), (6, .int 1), (7, .int (nI i)), (8, .long (lz (yo_w W 1 k9 i))), (10, .long (lz (yo_w W 1 r i)))]) rfl ?_
          have gz2 := gz
          rw [Bool.and_eq_true] at gz2
          have g1 : hd = true := gz2.1
          have g2 : yr_m (yo_w W 1) (th9 0) k9 r i = true := gz2.2
          have t9 : Nat.testBit (th9 0) i = true := Classical.byContradiction (fun z => j167 (if_neg z))
          have n9 : yo_w W 1 r i < yo_w W 1 k9 i := Int.not_le.mp (fun z => j175 ((lg_cmp_le _ _).mpr ((lz_le2 (wo k9 hk i (by omega)) (wo r hr i (by omega))).mpr z)))
          have vv9 : (if (hd && yr_m (yo_w W 1) (th9 0) k9 r (i + 1)) = true then (1 : Int32) else 0) = 1 := by show (if (hd && (yr_m (yo_w W 1) (th9 0) k9 r i && (!Nat.testBit (th9 0) i || decide (yo_w W 1 r i < yo_w W 1 k9 i)))) = true then (1 : Int32) else 0) = _; rw [if_pos (show (hd && (yr_m (yo_w W 1) (th9 0) k9 r i && (!Nat.testBit (th9 0) i || decide (yo_w W 1 r i < yo_w W 1 k9 i)))) = true by rw [g1, g2, t9, decide_eq_true n9]; rfl)]
          refine xx_clv (lv2 := [(0, .ref b), (1, .int 1), (2, .int (nI r)), (3, .int (nI n)), (4, .int (nI m)), (5, .int (nI k9)), (6, .int (if (hd && yr_m (yo_w W 1) (th9 0) k9 r (i + 1)) = true then 1 else 0)), (7, .int (nI i)), (8, .long (lz (yo_w W 1 k9 i))), (10, .long (lz (yo_w W 1 r i)))]) (by rw [vv9]) ?_
          refine xx_iinc (v := nI (i + 1)) dX9_isDominated_185 rfl (nI_1 i) (by decide) ?_
          refine xx_clv (lv2 := [(0, .ref b), (1, .int 1), (2, .int (nI r)), (3, .int (nI n)), (4, .int (nI m)), (5, .int (nI k9)), (6, .int (if (hd && yr_m (yo_w W 1) (th9 0) k9 r (i + 1)) = true then 1 else 0)), (7, .int (nI (i + 1))), (8, .long (lz (yo_w W 1 k9 i))), (10, .long (lz (yo_w W 1 r i)))]) rfl ?_
          refine xx_goto (tgt := 73) dX9_isDominated_188 (by decide) ?_
          refine xx_less [0, 1, 2, 3, 4, 5, 6, 7] ?_
          refine xx_clv (lv2 := [(0, .ref b), (1, .int 1), (2, .int (nI r)), (3, .int (nI n)), (4, .int (nI m)), (5, .int (nI k9)), (6, .int (if (hd && yr_m (yo_w W 1) (th9 0) k9 r (i + 1)) = true then 1 else 0)), (7, .int (nI (i + 1)))]) rfl ?_
          refine ih (i + 1) (by omega) A rfl
    · refine xx_clv (lv2 := [(0, .ref b), (1, .int 1), (2, .int (nI r)), (3, .int (nI n)), (4, .int (nI m)), (5, .int (nI k9)), (6, .int 0), (7, .int (nI i))]) (by rw [if_neg gz]) ?_
      refine xx_iload dX9_isDominated_80 rfl ?_
      refine xx_if_eq (tgt := 191) dX9_isDominated_82 (by decide) (fun j82 => ?_) (fun h => absurd (by decide) h)
      have f9 : ¬ (hd && yr_m (yo_w W 1) (th9 0) k9 r m) = true := fun z => by rw [Bool.and_eq_true] at z; exact gz (by rw [z.1, Bool.true_and]; cases yz : yr_m (yo_w W 1) (th9 0) k9 r i; rw [yr_m_f (by omega) yz] at z; exact absurd z.2 (by decide); rfl)
      refine xx_less [0, 1, 2, 3, 4, 5, 6] ?_
      refine xx_clv (lv2 := [(0, .ref b), (1, .int 1), (2, .int (nI r)), (3, .int (nI n)), (4, .int (nI m)), (5, .int (nI k9)), (6, .int (if (hd && yr_m (yo_w W 1) (th9 0) k9 r m) = true then 1 else 0))]) (by rw [if_neg f9]; rfl) ?_
      exact kC A rfl
set_option maxRecDepth 100000 in
theorem l_X9_io1 {G : xx_G} {l : Launch} {A : xx_H} {b : Nat} {th hr st hl en tu : Value} {m n : Nat} {W : Nat → Nat → Nat → Int} {le : Nat → Int} {mu th9 : Nat → Nat} {S9 : Nat → Bool} {r : Nat} (hb : A.2 b = xx_o 9 (xx_mf b th (.int (nI m)) (.int (nI n)) hr st hl en tu)) (hP : xx_rp A b m n W le mu) (hm : m ≤ 6) (hn : n ≤ 6) (hT : xx_rth A b m n th9 S9) (hr : r < n) :
    ∀ (v i : Nat), i + v = n → yr_f (yo_w W 1) (th9 1) (th9 0) m r i = false → xx_X G l mX9_isDominated 0 0 0 36 [(0, .ref b), (1, .int 1), (2, .int (nI r)), (3, .int (nI n)), (4, .int (nI m)), (5, .int (nI i))] [] A (fun z B => z = .inl (some (.int (if yr_f (yo_w W 1) (th9 1) (th9 0) m r n then 1 else 0))) ∧ B = A) := by
  obtain ⟨⟨ft, t1, t2⟩, t3⟩ := id hT
  intro v
  induction v with
  | zero =>
    intro i h9i y1
    have h9e : n = i := by omega
    subst h9e
    refine xx_iload dX9_isDominated_36 rfl ?_
    refine xx_iload_n dX9_isDominated_38 rfl ?_
    refine xx_icmp_ge (tgt := 204) dX9_isDominated_39 (by decide) (fun j39 => ?_) (fun h => absurd (Int32.le_refl _) h)
    refine xx_iconst (v := 0) dX9_isDominated_204 (by decide) ?_
    exact xx_zret dX9_isDominated_205 rfl rfl ⟨by rw [y1]; rfl, rfl⟩
  | succ v ih =>
    intro i h9i y1
    refine xx_iload dX9_isDominated_36 rfl ?_
    refine xx_iload_n dX9_isDominated_38 rfl ?_
    refine xx_icmp_ge (tgt := 204) dX9_isDominated_39 (by decide) (fun h => absurd h (nI_ge (a := i) (b := n) (by omega) (by omega))) (fun j39 => ?_)
    refine xx_iload dX9_isDominated_42 rfl ?_
    refine xx_iload_n dX9_isDominated_44 rfl ?_
    refine xx_icmp_eq (tgt := 67) dX9_isDominated_45 (by decide) (fun j45 => ?_) (fun j45 => ?_)
    · have j45 : i = r := (nI_eq (a := i) (b := r) (by omega) (by omega)).mp j45
      refine xx_iconst (v := 0) dX9_isDominated_67 (by decide) ?_
      refine xx_istore dX9_isDominated_68 (by decide) ?_
      refine xx_clv (lv2 := [(0, .ref b), (1, .int 1), (2, .int (nI r)), (3, .int (nI n)), (4, .int (nI m)), (5, .int (nI i)), (6, .int 0)]) rfl ?_
      refine xx_iconst (v := 0) dX9_isDominated_70 (by decide) ?_
      refine xx_istore dX9_isDominated_71 (by decide) ?_
      refine xx_clv (lv2 := [(0, .ref b), (1, .int 1), (2, .int (nI r)), (3, .int (nI n)), (4, .int (nI m)), (5, .int (nI i)), (6, .int 0), (7, .int 0)]) rfl ?_
      have hd9 : (if ((decide (i ≠ r) && Nat.testBit (th9 1) i) && yr_m (yo_w W 1) (th9 0) i r 0) = true then (1 : Int32) else 0) = 0 := by rw [decide_eq_false (fun z => z j45)]; rfl
      refine xx_clv (lv2 := [(0, .ref b), (1, .int 1), (2, .int (nI r)), (3, .int (nI n)), (4, .int (nI m)), (5, .int (nI i)), (6, .int (if ((decide (i ≠ r) && Nat.testBit (th9 1) i) && yr_m (yo_w W 1) (th9 0) i r 0) = true then 1 else 0)), (7, .int (nI 0))]) (by rw [hd9]; rfl) ?_
      refine l_X9_ii1 (k9 := i) (r := r) (hd := (decide (i ≠ r) && Nat.testBit (th9 1) i)) hb hP hm hn hT hr (by omega) (fun B2 y2 => ?_) m 0 (by omega) A rfl
      rw [y2]
      by_cases gz : ((decide (i ≠ r) && Nat.testBit (th9 1) i) && yr_m (yo_w W 1) (th9 0) i r m) = true
      · refine xx_clv (lv2 := [(0, .ref b), (1, .int 1), (2, .int (nI r)), (3, .int (nI n)), (4, .int (nI m)), (5, .int (nI i)), (6, .int 1)]) (by rw [if_pos gz]) ?_
        refine xx_iload dX9_isDominated_191 rfl ?_
        refine xx_if_eq (tgt := 198) dX9_isDominated_193 (by decide) (fun h => absurd h (by decide)) (fun j193 => ?_)
        refine xx_iconst (v := 1) dX9_isDominated_196 (by decide) ?_
        exact xx_zret dX9_isDominated_197 rfl rfl ⟨by rw [yr_f_t (k := i + 1) (by omega) (by show (yr_f (yo_w W 1) (th9 1) (th9 0) m r i || ((decide (i ≠ r) && Nat.testBit (th9 1) i) && yr_m (yo_w W 1) (th9 0) i r m)) = true; rw [gz, Bool.or_true])]; rfl, rfl⟩
      · refine xx_clv (lv2 := [(0, .ref b), (1, .int 1), (2, .int (nI r)), (3, .int (nI n)), (4, .int (nI m)), (5, .int (nI i)), (6, .int 0)]) (by rw [if_neg gz]) ?_
        refine xx_iload dX9_isDominated_191 rfl ?_
        refine xx_if_eq (tgt := 198) dX9_isDominated_193 (by decide) (fun j193 => ?_) (fun h => absurd (by decide) h)
        refine xx_iinc (v := nI (i + 1)) dX9_isDominated_198 rfl (nI_1 i) (by decide) ?_
        refine xx_goto (tgt := 36) dX9_isDominated_201 (by decide) ?_
        refine xx_less [0, 1, 2, 3, 4, 5] ?_
        refine xx_clv (lv2 := [(0, .ref b), (1, .int 1), (2, .int (nI r)), (3, .int (nI n)), (4, .int (nI m)), (5, .int (nI (i + 1)))]) rfl ?_
        exact ih (i + 1) (by omega) (by show (yr_f (yo_w W 1) (th9 1) (th9 0) m r i || ((decide (i ≠ r) && Nat.testBit (th9 1) i) && yr_m (yo_w W 1) (th9 0) i r m)) = false; rw [y1, Bool.false_or]; exact (Bool.not_eq_true _).mp gz)
    · have j45 : ¬ i = r := fun hq9 => j45 ((nI_eq (a := i) (b := r) (by omega) (by omega)).mpr hq9)
      refine xx_aload_n dX9_isDominated_48 rfl ?_
      refine xx_get xx_c9 dX9_isDominated_49 wf_X9_51 (j := 19) (by decide) hb rfl ?_
      refine xx_bipush (v := 6) dX9_isDominated_52 (by decide) ?_
      refine xx_iload_n dX9_isDominated_54 rfl ?_
      refine xx_imul dX9_isDominated_55 ?_
      refine xx_eqi (y := 6) (by decide) ?_
      refine xx_iload dX9_isDominated_56 rfl ?_
      refine xx_iadd dX9_isDominated_58 ?_
      refine xx_eqi (y := nI (6 + i)) (nI_add 6 i) ?_
      refine xx_zald dX9_isDominated_59 t1 (vp_in_nI (by omega) (by decide)) ?_
      refine xx_eqi (y := if Nat.testBit (th9 1) i then 1 else 0) (by rw [nI_clamp (by omega), t2 _ (by omega)]; exact congrArg (fun z : Bool => if z = true then (1 : Int32) else 0) ((congrArg S9 (by omega)).trans (t3 1 (by decide) i (show i < n by omega)))) ?_
      refine xx_if_eq (tgt := 67) dX9_isDominated_60 (by decide) (fun j60 => ?_) (fun j60 => ?_)
      · refine xx_iconst (v := 0) dX9_isDominated_67 (by decide) ?_
        refine xx_istore dX9_isDominated_68 (by decide) ?_
        refine xx_clv (lv2 := [(0, .ref b), (1, .int 1), (2, .int (nI r)), (3, .int (nI n)), (4, .int (nI m)), (5, .int (nI i)), (6, .int 0)]) rfl ?_
        refine xx_iconst (v := 0) dX9_isDominated_70 (by decide) ?_
        refine xx_istore dX9_isDominated_71 (by decide) ?_
        refine xx_clv (lv2 := [(0, .ref b), (1, .int 1), (2, .int (nI r)), (3, .int (nI n)), (4, .int (nI m)), (5, .int (nI i)), (6, .int 0), (7, .int 0)]) rfl ?_
        have t9 : Nat.testBit (th9 1) i = false := by cases hz : Nat.testBit (th9 1) i; rfl; exact absurd (j60.symm.trans (if_pos hz)) (by decide)
        have hd9 : (if ((decide (i ≠ r) && Nat.testBit (th9 1) i) && yr_m (yo_w W 1) (th9 0) i r 0) = true then (1 : Int32) else 0) = 0 := by rw [t9, Bool.and_false]; rfl
        refine xx_clv (lv2 := [(0, .ref b), (1, .int 1), (2, .int (nI r)), (3, .int (nI n)), (4, .int (nI m)), (5, .int (nI i)), (6, .int (if ((decide (i ≠ r) && Nat.testBit (th9 1) i) && yr_m (yo_w W 1) (th9 0) i r 0) = true then 1 else 0)), (7, .int (nI 0))]) (by rw [hd9]; rfl) ?_
        refine l_X9_ii1 (k9 := i) (r := r) (hd := (decide (i ≠ r) && Nat.testBit (th9 1) i)) hb hP hm hn hT hr (by omega) (fun B2 y2 => ?_) m 0 (by omega) A rfl
        rw [y2]
        by_cases gz : ((decide (i ≠ r) && Nat.testBit (th9 1) i) && yr_m (yo_w W 1) (th9 0) i r m) = true
        · refine xx_clv (lv2 := [(0, .ref b), (1, .int 1), (2, .int (nI r)), (3, .int (nI n)), (4, .int (nI m)), (5, .int (nI i)), (6, .int 1)]) (by rw [if_pos gz]) ?_
          refine xx_iload dX9_isDominated_191 rfl ?_
          refine xx_if_eq (tgt := 198) dX9_isDominated_193 (by decide) (fun h => absurd h (by decide)) (fun j193 => ?_)
          refine xx_iconst (v := 1) dX9_isDominated_196 (by decide) ?_
          exact xx_zret dX9_isDominated_197 rfl rfl ⟨by rw [yr_f_t (k := i + 1) (by omega) (by show (yr_f (yo_w W 1) (th9 1) (th9 0) m r i || ((decide (i ≠ r) && Nat.testBit (th9 1) i) && yr_m (yo_w W 1) (th9 0) i r m)) = true; rw [gz, Bool.or_true])]; rfl, rfl⟩
        · refine xx_clv (lv2 := [(0, .ref b), (1, .int 1), (2, .int (nI r)), (3, .int (nI n)), (4, .int (nI m)), (5, .int (nI i)), (6, .int 0)]) (by rw [if_neg gz]) ?_
          refine xx_iload dX9_isDominated_191 rfl ?_
          refine xx_if_eq (tgt := 198) dX9_isDominated_193 (by decide) (fun j193 => ?_) (fun h => absurd (by decide) h)
          refine xx_iinc (v := nI (i + 1)) dX9_isDominated_198 rfl (nI_1 i) (by decide) ?_
          refine xx_goto (tgt := 36) dX9_isDominated_201 (by decide) ?_
          refine xx_less [0, 1, 2, 3, 4, 5] ?_
          refine xx_clv (lv2 := [(0, .ref b), (1, .int 1), (2, .int (nI r)), (3, .int (nI n)), (4, .int (nI m)), (5, .int (nI (i + 1)))]) rfl ?_
          exact ih (i + 1) (by omega) (by show (yr_f (yo_w W 1) (th9 1) (th9 0) m r i || ((decide (i ≠ r) && Nat.testBit (th9 1) i) && yr_m (yo_w W 1) (th9 0) i r m)) = false; rw [y1, Bool.false_or]; exact (Bool.not_eq_true _).mp gz)
      · refine xx_iconst (v := 1) dX9_isDominated_63 (by decide) ?_
        refine xx_goto (tgt := 68) dX9_isDominated_64 (by decide) ?_
        refine xx_istore dX9_isDominated_68 (by decide) ?_
        refine xx_clv (lv2 := [(0, .ref b), (1, .int 1), (2, .int (nI r)), (3, .int (nI n)), (4, .int (nI m)), (5, .int (nI i)), (6, .int 1)]) rfl ?_
        refine xx_iconst (v := 0) dX9_isDominated_70 (by decide) ?_
        refine xx_istore dX9_isDominated_71 (by decide) ?_
        refine xx_clv (lv2 := [(0, .ref b), (1, .int 1), (2, .int (nI r)), (3, .int (nI n)), (4, .int (nI m)), (5, .int (nI i)), (6, .int 1), (7, .int 0)]) rfl ?_
        have t9 : Nat.testBit (th9 1) i = true := Classical.byContradiction (fun z => j60 (if_neg z))
        have hd9 : (if ((decide (i ≠ r) && Nat.testBit (th9 1) i) && yr_m (yo_w W 1) (th9 0) i r 0) = true then (1 : Int32) else 0) = 1 := by rw [t9, decide_eq_true j45]; rfl
        refine xx_clv (lv2 := [(0, .ref b), (1, .int 1), (2, .int (nI r)), (3, .int (nI n)), (4, .int (nI m)), (5, .int (nI i)), (6, .int (if ((decide (i ≠ r) && Nat.testBit (th9 1) i) && yr_m (yo_w W 1) (th9 0) i r 0) = true then 1 else 0)), (7, .int (nI 0))]) (by rw [hd9]; rfl) ?_
        refine l_X9_ii1 (k9 := i) (r := r) (hd := (decide (i ≠ r) && Nat.testBit (th9 1) i)) hb hP hm hn hT hr (by omega) (fun B2 y2 => ?_) m 0 (by omega) A rfl
        rw [y2]
        by_cases gz : ((decide (i ≠ r) && Nat.testBit (th9 1) i) && yr_m (yo_w W 1) (th9 0) i r m) = true
        · refine xx_clv (lv2 := [(0, .ref b), (1, .int 1), (2, .int (nI r)), (3, .int (nI n)), (4, .int (nI m)), (5, .int (nI i)), (6, .int 1)]) (by rw [if_pos gz]) ?_
          refine xx_iload dX9_isDominated_191 rfl ?_
          refine xx_if_eq (tgt := 198) dX9_isDominated_193 (by decide) (fun h => absurd h (by decide)) (fun j193 => ?_)
          refine xx_iconst (v := 1) dX9_isDominated_196 (by decide) ?_
          exact xx_zret dX9_isDominated_197 rfl rfl ⟨by rw [yr_f_t (k := i + 1) (by omega) (by show (yr_f (yo_w W 1) (th9 1) (th9 0) m r i || ((decide (i ≠ r) && Nat.testBit (th9 1) i) && yr_m (yo_w W 1) (th9 0) i r m)) = true; rw [gz, Bool.or_true])]; rfl, rfl⟩
        · refine xx_clv (lv2 := [(0, .ref b), (1, .int 1), (2, .int (nI r)), (3, .int (nI n)), (4, .int (nI m)), (5, .int (nI i)), (6, .int 0)]) (by rw [if_neg gz]) ?_
          refine xx_iload dX9_isDominated_191 rfl ?_
          refine xx_if_eq (tgt := 198) dX9_isDominated_193 (by decide) (fun j193 => ?_) (fun h => absurd (by decide) h)
          refine xx_iinc (v := nI (i + 1)) dX9_isDominated_198 rfl (nI_1 i) (by decide) ?_
          refine xx_goto (tgt := 36) dX9_isDominated_201 (by decide) ?_
          refine xx_less [0, 1, 2, 3, 4, 5] ?_
          refine xx_clv (lv2 := [(0, .ref b), (1, .int 1), (2, .int (nI r)), (3, .int (nI n)), (4, .int (nI m)), (5, .int (nI (i + 1)))]) rfl ?_
          exact ih (i + 1) (by omega) (by show (yr_f (yo_w W 1) (th9 1) (th9 0) m r i || ((decide (i ≠ r) && Nat.testBit (th9 1) i) && yr_m (yo_w W 1) (th9 0) i r m)) = false; rw [y1, Bool.false_or]; exact (Bool.not_eq_true _).mp gz)
set_option maxRecDepth 100000 in
theorem c_X9_isDominated {G : xx_G} {l : Launch} {A : xx_H} {b : Nat} {th hr st hl en tu : Value} {m n : Nat} {W : Nat → Nat → Nat → Int} {le : Nat → Int} {mu th9 : Nat → Nat} {S9 : Nat → Bool} {p r : Nat} (hb : A.2 b = xx_o 9 (xx_mf b th (.int (nI m)) (.int (nI n)) hr st hl en tu)) (hP : xx_rp A b m n W le mu) (hm : m ≤ 6) (hn : n ≤ 6) (hT : xx_rth A b m n th9 S9) (hp : p < 2) (hr : r < yy_cn m n p) : xx_X G l mX9_isDominated 0 0 0 0 (lv_args 0 [.ref b, .int (nI p), .int (nI r)]) [] A (fun z B => z = .inl (some (.int (if yr_f (yo_w W p) (th9 p) (th9 (1 - p)) (yy_cn m n (1 - p)) r (yy_cn m n p) then 1 else 0))) ∧ B = A) := by
  rcases (show p = 0 ∨ p = 1 by omega) with pz | pz
  · subst pz
    have hr : r < m := hr
    refine xx_clv (lv2 := [(0, .ref b), (1, .int 0), (2, .int (nI r))]) rfl ?_
    refine xx_iload_n dX9_isDominated_0 rfl ?_
    refine xx_if_ne (tgt := 11) dX9_isDominated_1 (by decide) (fun h => absurd rfl h) (fun j1 => ?_)
    refine xx_aload_n dX9_isDominated_4 rfl ?_
    refine xx_get xx_c9 dX9_isDominated_5 wf_X9_120 (j := 4) (by decide) hb rfl ?_
    refine xx_goto (tgt := 15) dX9_isDominated_8 (by decide) ?_
    refine xx_istore_n dX9_isDominated_15 (by decide) ?_
    refine xx_clv (lv2 := [(0, .ref b), (1, .int 0), (2, .int (nI r)), (3, .int (nI m))]) rfl ?_
    refine xx_iload_n dX9_isDominated_16 rfl ?_
    refine xx_if_ne (tgt := 27) dX9_isDominated_17 (by decide) (fun h => absurd rfl h) (fun j17 => ?_)
    refine xx_aload_n dX9_isDominated_20 rfl ?_
    refine xx_get xx_c9 dX9_isDominated_21 wf_X9_123 (j := 5) (by decide) hb rfl ?_
    refine xx_goto (tgt := 31) dX9_isDominated_24 (by decide) ?_
    refine xx_istore dX9_isDominated_31 (by decide) ?_
    refine xx_clv (lv2 := [(0, .ref b), (1, .int 0), (2, .int (nI r)), (3, .int (nI m)), (4, .int (nI n))]) rfl ?_
    refine xx_iconst (v := 0) dX9_isDominated_33 (by decide) ?_
    refine xx_istore dX9_isDominated_34 (by decide) ?_
    refine xx_clv (lv2 := [(0, .ref b), (1, .int 0), (2, .int (nI r)), (3, .int (nI m)), (4, .int (nI n)), (5, .int 0)]) rfl ?_
    refine xx_clv (lv2 := [(0, .ref b), (1, .int 0), (2, .int (nI r)), (3, .int (nI m)), (4, .int (nI n)), (5, .int (nI 0))]) rfl ?_
    exact l_X9_io0 hb hP hm hn hT hr m 0 (by omega) rfl
  · subst pz
    have hr : r < n := hr
    refine xx_clv (lv2 := [(0, .ref b), (1, .int 1), (2, .int (nI r))]) rfl ?_
    refine xx_iload_n dX9_isDominated_0 rfl ?_
    refine xx_if_ne (tgt := 11) dX9_isDominated_1 (by decide) (fun j1 => ?_) (fun h => absurd h (by decide))
    refine xx_aload_n dX9_isDominated_11 rfl ?_
    refine xx_get xx_c9 dX9_isDominated_12 wf_X9_123 (j := 5) (by decide) hb rfl ?_
    refine xx_istore_n dX9_isDominated_15 (by decide) ?_
    refine xx_clv (lv2 := [(0, .ref b), (1, .int 1), (2, .int (nI r)), (3, .int (nI n))]) rfl ?_
    refine xx_iload_n dX9_isDominated_16 rfl ?_
    refine xx_if_ne (tgt := 27) dX9_isDominated_17 (by decide) (fun j17 => ?_) (fun h => absurd h (by decide))
    refine xx_aload_n dX9_isDominated_27 rfl ?_
    refine xx_get xx_c9 dX9_isDominated_28 wf_X9_120 (j := 4) (by decide) hb rfl ?_
    refine xx_istore dX9_isDominated_31 (by decide) ?_
    refine xx_clv (lv2 := [(0, .ref b), (1, .int 1), (2, .int (nI r)), (3, .int (nI n)), (4, .int (nI m))]) rfl ?_
    refine xx_iconst (v := 0) dX9_isDominated_33 (by decide) ?_
    refine xx_istore dX9_isDominated_34 (by decide) ?_
    refine xx_clv (lv2 := [(0, .ref b), (1, .int 1), (2, .int (nI r)), (3, .int (nI n)), (4, .int (nI m)), (5, .int 0)]) rfl ?_
    refine xx_clv (lv2 := [(0, .ref b), (1, .int 1), (2, .int (nI r)), (3, .int (nI n)), (4, .int (nI m)), (5, .int (nI 0))]) rfl ?_
    exact l_X9_io1 hb hP hm hn hT hr n 0 (by omega) rfl
theorem yb_d6 : ∀ i, i < 12 → nI i / 6 = nI (i / 6) := by decide +kernel
theorem yb_r6 : ∀ i, i < 12 → nI i - nI i / 6 * 6 = nI (i % 6) := by decide +kernel
theorem vp_nar1 : vp_nar .boolean 1 = 1 := rfl
theorem vp_nar0 : vp_nar .boolean 0 = 0 := rfl
/-- which go in this round -/
def yr_go (m n : Nat) (W : Nat → Nat → Nat → Int) (th9 : Nat → Nat) (S9 : Nat → Bool) (j : Nat) : Bool := decide (j % 6 < yy_cn m n (j / 6)) && S9 j && yr_f (yo_w W (j / 6)) (th9 (j / 6)) (th9 (1 - (j / 6))) (yy_cn m n (1 - (j / 6))) (j % 6) (yy_cn m n (j / 6))
def yr_n (g : Nat → Bool) : Nat → Nat
  | 0 => 0
  | n + 1 => yr_n g n + if g n then 1 else 0
set_option maxRecDepth 100000 in
theorem l_X9_r1 {G : xx_G} {l : Launch} {A : xx_H} {b : Nat} {th hr st hl en tu : Value} {m n : Nat} {W : Nat → Nat → Nat → Int} {le : Nat → Int} {mu th9 : Nat → Nat} {S9 : Nat → Bool} {Q : Option Value ⊕ String → xx_H → Prop} (hb : A.2 b = xx_o 9 (xx_mf b th (.int (nI m)) (.int (nI n)) hr st hl en tu)) (hP : xx_rp A b m n W le mu) (hm : m ≤ 6) (hn : n ≤ 6) (hT : xx_rth A b m n th9 S9) (hm1 : 1 ≤ m) (hn1 : 1 ≤ n) (kC : ∀ (B : xx_H) (g : Nat → Int32), (B.1 = A.1) → (B.2 (b + 21) = xx_z 12 g) → (∀ j, j < 12 → g j = if yr_go m n W th9 S9 j then 1 else 0) → (∀ q, q ≠ b + 21 → B.2 q = A.2 q) → xx_X G l mX9_round 2 0 0 91 [(0, .ref b), (1, .int 0)] [] B Q) :
    ∀ (v i : Nat), i + v = 12 → ∀ (B : xx_H) (g : Nat → Int32), (B.1 = A.1) → (B.2 (b + 21) = xx_z 12 g) → (∀ j, j < i → g j = if yr_go m n W th9 S9 j then 1 else 0) → (∀ q, q ≠ b + 21 → B.2 q = A.2 q) → xx_X G l mX9_round 2 0 0 29 [(0, .ref b), (1, .int 0), (2, .int (nI i))] [] B Q := by
  obtain ⟨⟨ft, t1, t2⟩, t3⟩ := id hT
  intro v
  induction v with
  | zero =>
    intro i h9i B g y1 y2 y3 y4
    have h9e : 12 = i := by omega
    subst h9e
    refine xx_clv (lv2 := [(0, .ref b), (1, .int 0), (2, .int 12)]) rfl ?_
    refine xx_iload_n dX9_round_29 rfl ?_
    refine xx_bipush (v := 12) dX9_round_30 (by decide) ?_
    refine xx_icmp_ge (tgt := 91) dX9_round_32 (by decide) (fun j32 => ?_) (fun h => absurd (by decide) h)
    refine xx_less [0, 1] ?_
    refine xx_clv (lv2 := [(0, .ref b), (1, .int 0)]) rfl ?_
    exact kC B g y1 y2 y3 y4
  | succ v ih =>
    intro i h9i B g y1 y2 y3 y4
    have hb2 := (y4 b (by omega)).trans hb
    refine xx_iload_n dX9_round_29 rfl ?_
    refine xx_bipush (v := 12) dX9_round_30 (by decide) ?_
    refine xx_icmp_ge (tgt := 91) dX9_round_32 (by decide) (fun h => absurd h (nI_ge (a := i) (b := 12) (by omega) (by omega))) (fun j32 => ?_)
    refine xx_aload_n dX9_round_35 rfl ?_
    refine xx_get xx_c9 dX9_round_36 wf_X9_77 (j := 28) (by decide) hb2 rfl ?_
    refine xx_iload_n dX9_round_39 rfl ?_
    refine xx_aload_n dX9_round_40 rfl ?_
    refine xx_iload_n dX9_round_41 rfl ?_
    refine xx_bipush (v := 6) dX9_round_42 (by decide) ?_
    refine xx_idiv dX9_round_44 (by decide) ?_
    refine xx_eqi (y := nI (i / 6)) (yb_d6 i (by omega)) ?_
    refine xx_iload_n dX9_round_45 rfl ?_
    refine xx_bipush (v := 6) dX9_round_46 (by decide) ?_
    refine xx_irem dX9_round_48 (by decide) ?_
    refine xx_eqi (y := nI (i % 6)) (yb_r6 i (by omega)) ?_
    refine xx_callV (N := mX9_hasPlayer) (vs := [.int (nI (i / 6)), .int (nI (i % 6))]) (b := b) (rest := [.int (nI i), .ref (b + 21)]) (d2 := 1) (c2 := 0) (s2 := 0) (c3 := 0) (s3 := 0) dX9_round_49 wm_X9_176 wi_X9_hasPlayer wv_X9_hasPlayer (k := 9) rfl (by decide) hb2 nX9_hasPlayer ⟨pX9_hasPlayer, Nat.le_of_ble_eq_true rfl, by decide, Nat.le_of_ble_eq_true rfl, by decide, by decide⟩ (c_X9_hasPlayer hb2 hm1 hm hn1 hn) (fun v9 B9 hC => ?_) (fun E9 B9 hC => by obtain ⟨_, ⟨_, h⟩ | ⟨_, h⟩⟩ := hC <;> cases h)
    obtain ⟨e9, ⟨hq9, hv9⟩ | ⟨hq9, hv9⟩⟩ := hC
    · cases hv9
      rw [e9]
      refine xx_cst (st2 := [.int 1, .int (nI i), .ref (b + 21)]) rfl ?_
      have lt9 : i % 6 < yy_cn m n (i / 6) := by obtain ⟨p9, a9, b9, ⟨r9, c9, d9⟩⟩ := hq9; have e1 := nI_inj2 (by omega) (by omega) b9; have e2 := nI_inj2 (by omega) (by have := yy_cn6 (p := p9) hm hn; omega) d9; rw [e1, e2]; exact c9
      refine xx_if_eq (tgt := 83) dX9_round_52 (by decide) (fun h => absurd h (by decide)) (fun j52 => ?_)
      refine xx_aload_n dX9_round_55 rfl ?_
      refine xx_get xx_c9 dX9_round_56 wf_X9_51 (j := 19) (by decide) hb2 rfl ?_
      refine xx_iload_n dX9_round_59 rfl ?_
      refine xx_zald dX9_round_60 ((y4 (b + 13) (by omega)).trans t1) (vp_in_nI (by omega) (by decide)) ?_
      refine xx_eqi (y := if S9 i then 1 else 0) (by rw [nI_clamp (by omega)]; exact t2 i (by omega)) ?_
      refine xx_if_eq (tgt := 83) dX9_round_61 (by decide) (fun j61 => ?_) (fun j61 => ?_)
      · refine xx_iconst (v := 0) dX9_round_83 (by decide) ?_
        refine xx_zast dX9_round_84 y2 (vp_in_nI (by omega) (by decide)) (xx_gu fun Eq1 zq1 hq1 oq1 => ?_)
        rw [nI_clamp (by omega), vp_nar0] at hq1
        have t9 : S9 i = false := by cases hz : S9 i; rfl; exact absurd (j61.symm.trans (if_pos hz)) (by decide)
        have go9 : yr_go m n W th9 S9 i = false := by show (decide (i % 6 < yy_cn m n (i / 6)) && S9 i && yr_f (yo_w W (i / 6)) (th9 (i / 6)) (th9 (1 - (i / 6))) (yy_cn m n (1 - (i / 6))) (i % 6) (yy_cn m n (i / 6))) = _; rw [t9, Bool.and_false]; rfl
        refine xx_iinc (v := nI (i + 1)) dX9_round_85 rfl (nI_1 i) (by decide) ?_
        refine xx_clv (lv2 := [(0, .ref b), (1, .int 0), (2, .int (nI (i + 1)))]) rfl ?_
        refine xx_goto (tgt := 29) dX9_round_88 (by decide) ?_
        refine xx_less [0, 1, 2] ?_
        refine xx_clv (lv2 := [(0, .ref b), (1, .int 0), (2, .int (nI (i + 1)))]) rfl ?_
        refine ih (i + 1) (by omega) Eq1 _ (by omega) hq1 (fun j hj => ?_) (fun q hq => (oq1 q hq).trans (y4 q hq))
        by_cases z : j = i
        · rw [z, pk_us, go9]; rfl
        · rw [pk_un z]; exact y3 j (by omega)
      · refine xx_aload_n dX9_round_64 rfl ?_
        refine xx_iload_n dX9_round_65 rfl ?_
        refine xx_bipush (v := 6) dX9_round_66 (by decide) ?_
        refine xx_idiv dX9_round_68 (by decide) ?_
        refine xx_eqi (y := nI (i / 6)) (yb_d6 i (by omega)) ?_
        refine xx_iload_n dX9_round_69 rfl ?_
        refine xx_bipush (v := 6) dX9_round_70 (by decide) ?_
        refine xx_irem dX9_round_72 (by decide) ?_
        refine xx_eqi (y := nI (i % 6)) (yb_r6 i (by omega)) ?_
        refine xx_callV (N := mX9_isDominated) (vs := [.int (nI (i / 6)), .int (nI (i % 6))]) (b := b) (rest := [.int (nI i), .ref (b + 21)]) (d2 := 0) (c2 := 0) (s2 := 0) (c3 := 0) (s3 := 0) dX9_round_73 wm_X9_226 wi_X9_isDominated wv_X9_isDominated (k := 9) rfl (by decide) hb2 nX9_isDominated ⟨pX9_isDominated, Nat.le_of_ble_eq_true rfl, by decide, Nat.le_of_ble_eq_true rfl, by decide, by decide⟩ (c_X9_isDominated (p := i / 6) (r := i % 6) hb2 (hP.to (y4 _ (by omega)) (y4 _ (by omega)) (y4 _ (by omega))) hm hn (hT.to (y4 _ (by omega))) (by omega) lt9) (fun v9 B9 hC => ?_) (fun E9 B9 hC => absurd hC.1 (by simp))
        obtain ⟨hv9, e8⟩ := hC
        cases hv9
        refine xx_cst (st2 := [.int (if yr_f (yo_w W (i / 6)) (th9 (i / 6)) (th9 (1 - (i / 6))) (yy_cn m n (1 - (i / 6))) (i % 6) (yy_cn m n (i / 6)) then 1 else 0), .int (nI i), .ref (b + 21)]) rfl ?_
        rw [e8]
        refine xx_if_eq (tgt := 83) dX9_round_76 (by decide) (fun j76 => ?_) (fun j76 => ?_)
        · refine xx_iconst (v := 0) dX9_round_83 (by decide) ?_
          refine xx_zast dX9_round_84 y2 (vp_in_nI (by omega) (by decide)) (xx_gu fun Eq1 zq1 hq1 oq1 => ?_)
          rw [nI_clamp (by omega), vp_nar0] at hq1
          have t9 : S9 i = true := Classical.byContradiction (fun z => j61 (if_neg z))
          have u9 : yr_f (yo_w W (i / 6)) (th9 (i / 6)) (th9 (1 - (i / 6))) (yy_cn m n (1 - (i / 6))) (i % 6) (yy_cn m n (i / 6)) = false := by cases hz : yr_f (yo_w W (i / 6)) (th9 (i / 6)) (th9 (1 - (i / 6))) (yy_cn m n (1 - (i / 6))) (i % 6) (yy_cn m n (i / 6)); rfl; exact absurd (j76.symm.trans (if_pos hz)) (by decide)
          have go9 : yr_go m n W th9 S9 i = false := by show (decide (i % 6 < yy_cn m n (i / 6)) && S9 i && yr_f (yo_w W (i / 6)) (th9 (i / 6)) (th9 (1 - (i / 6))) (yy_cn m n (1 - (i / 6))) (i % 6) (yy_cn m n (i / 6))) = _; rw [u9, Bool.and_false]
          refine xx_iinc (v := nI (i + 1)) dX9_round_85 rfl (nI_1 i) (by decide) ?_
          refine xx_clv (lv2 := [(0, .ref b), (1, .int 0), (2, .int (nI (i + 1)))]) rfl ?_
          refine xx_goto (tgt := 29) dX9_round_88 (by decide) ?_
          refine xx_less [0, 1, 2] ?_
          refine xx_clv (lv2 := [(0, .ref b), (1, .int 0), (2, .int (nI (i + 1)))]) rfl ?_
          refine ih (i + 1) (by omega) Eq1 _ (by omega) hq1 (fun j hj => ?_) (fun q hq => (oq1 q hq).trans (y4 q hq))
          by_cases z : j = i
          · rw [z, pk_us, go9]; rfl
          · rw [pk_un z]; exact y3 j (by omega)
        · refine xx_iconst (v := 1) dX9_round_79 (by decide) ?_
          refine xx_goto (tgt := 84) dX9_round_80 (by decide) ?_
          refine xx_zast dX9_round_84 y2 (vp_in_nI (by omega) (by decide)) (xx_gu fun Eq1 zq1 hq1 oq1 => ?_)
          rw [nI_clamp (by omega), vp_nar1] at hq1
          have t9 : S9 i = true := Classical.byContradiction (fun z => j61 (if_neg z))
          have u9 : yr_f (yo_w W (i / 6)) (th9 (i / 6)) (th9 (1 - (i / 6))) (yy_cn m n (1 - (i / 6))) (i % 6) (yy_cn m n (i / 6)) = true := Classical.byContradiction (fun z => j76 (if_neg z))
          have go9 : yr_go m n W th9 S9 i = true := by show (decide (i % 6 < yy_cn m n (i / 6)) && S9 i && yr_f (yo_w W (i / 6)) (th9 (i / 6)) (th9 (1 - (i / 6))) (yy_cn m n (1 - (i / 6))) (i % 6) (yy_cn m n (i / 6))) = _; rw [u9, t9, decide_eq_true lt9]; rfl
          refine xx_iinc (v := nI (i + 1)) dX9_round_85 rfl (nI_1 i) (by decide) ?_
          refine xx_clv (lv2 := [(0, .ref b), (1, .int 0), (2, .int (nI (i + 1)))]) rfl ?_
          refine xx_goto (tgt := 29) dX9_round_88 (by decide) ?_
          refine xx_less [0, 1, 2] ?_
          refine xx_clv (lv2 := [(0, .ref b), (1, .int 0), (2, .int (nI (i + 1)))]) rfl ?_
          refine ih (i + 1) (by omega) Eq1 _ (by omega) hq1 (fun j hj => ?_) (fun q hq => (oq1 q hq).trans (y4 q hq))
          by_cases z : j = i
          · rw [z, pk_us, go9]; rfl
          · rw [pk_un z]; exact y3 j (by omega)
    · cases hv9
      rw [e9]
      refine xx_cst (st2 := [.int 0, .int (nI i), .ref (b + 21)]) rfl ?_
      have lt9 : ¬ i % 6 < yy_cn m n (i / 6) := fun z => hq9 ⟨i / 6, by omega, rfl, i % 6, z, rfl⟩
      refine xx_if_eq (tgt := 83) dX9_round_52 (by decide) (fun j52 => ?_) (fun h => absurd (by decide) h)
      refine xx_iconst (v := 0) dX9_round_83 (by decide) ?_
      refine xx_zast dX9_round_84 y2 (vp_in_nI (by omega) (by decide)) (xx_gu fun Eq1 zq1 hq1 oq1 => ?_)
      rw [nI_clamp (by omega), vp_nar0] at hq1
      have go9 : yr_go m n W th9 S9 i = false := by show (decide (i % 6 < yy_cn m n (i / 6)) && S9 i && yr_f (yo_w W (i / 6)) (th9 (i / 6)) (th9 (1 - (i / 6))) (yy_cn m n (1 - (i / 6))) (i % 6) (yy_cn m n (i / 6))) = _; rw [decide_eq_false lt9]; rfl
      refine xx_iinc (v := nI (i + 1)) dX9_round_85 rfl (nI_1 i) (by decide) ?_
      refine xx_clv (lv2 := [(0, .ref b), (1, .int 0), (2, .int (nI (i + 1)))]) rfl ?_
      refine xx_goto (tgt := 29) dX9_round_88 (by decide) ?_
      refine xx_less [0, 1, 2] ?_
      refine xx_clv (lv2 := [(0, .ref b), (1, .int 0), (2, .int (nI (i + 1)))]) rfl ?_
      refine ih (i + 1) (by omega) Eq1 _ (by omega) hq1 (fun j hj => ?_) (fun q hq => (oq1 q hq).trans (y4 q hq))
      by_cases z : j = i
      · rw [z, pk_us, go9]; rfl
      · rw [pk_un z]; exact y3 j (by omega)
set_option maxRecDepth 100000 in
theorem l_X9_r2 {G : xx_G} {l : Launch} {A : xx_H} {b : Nat} {th hr st hl en tu : Value} {m n : Nat} {S9 : Nat → Bool} {g : Nat → Int32} {go9 : Nat → Bool} {Q : Option Value ⊕ String → xx_H → Prop} (hb : A.2 b = xx_o 9 (xx_mf b th (.int (nI m)) (.int (nI n)) hr st hl en tu)) (hg : A.2 (b + 21) = xx_z 12 g) (hg2 : ∀ j, j < 12 → g j = if go9 j then 1 else 0) (kC : ∀ (B : xx_H) (f : Nat → Int32), (B.1 = A.1) → (B.2 (b + 13) = xx_z 12 f) → (∀ j, j < 12 → f j = if (if j < 12 then S9 j && !go9 j else S9 j) then 1 else 0) → (∀ q, q ≠ b + 13 → B.2 q = A.2 q) → xx_X G l mX9_round 2 0 0 151 [(1, .int (nI (yr_n go9 12)))] [] B Q) :
    ∀ (v i : Nat), i + v = 12 → ∀ (B : xx_H) (f : Nat → Int32), (B.1 = A.1) → (B.2 (b + 13) = xx_z 12 f) → (∀ j, j < 12 → f j = if (if j < i then S9 j && !go9 j else S9 j) then 1 else 0) → (∀ q, q ≠ b + 13 → B.2 q = A.2 q) → xx_X G l mX9_round 2 0 0 93 [(0, .ref b), (1, .int (nI (yr_n go9 i))), (2, .int (nI i))] [] B Q := by
  intro v
  induction v with
  | zero =>
    intro i h9i B f y1 y2 y3 y4
    have h9e : 12 = i := by omega
    subst h9e
    refine xx_clv (lv2 := [(0, .ref b), (1, .int (nI (yr_n go9 12))), (2, .int 12)]) rfl ?_
    refine xx_iload_n dX9_round_93 rfl ?_
    refine xx_bipush (v := 12) dX9_round_94 (by decide) ?_
    refine xx_icmp_ge (tgt := 151) dX9_round_96 (by decide) (fun j96 => ?_) (fun h => absurd (by decide) h)
    refine xx_less [1] ?_
    refine xx_clv (lv2 := [(1, .int (nI (yr_n go9 12)))]) rfl ?_
    exact kC B f y1 y2 y3 y4
  | succ v ih =>
    intro i h9i B f y1 y2 y3 y4
    have hb2 := (y4 b (by omega)).trans hb
    refine xx_iload_n dX9_round_93 rfl ?_
    refine xx_bipush (v := 12) dX9_round_94 (by decide) ?_
    refine xx_icmp_ge (tgt := 151) dX9_round_96 (by decide) (fun h => absurd h (nI_ge (a := i) (b := 12) (by omega) (by omega))) (fun j96 => ?_)
    refine xx_aload_n dX9_round_99 rfl ?_
    refine xx_get xx_c9 dX9_round_100 wf_X9_51 (j := 19) (by decide) hb2 rfl ?_
    refine xx_iload_n dX9_round_103 rfl ?_
    refine xx_aload_n dX9_round_104 rfl ?_
    refine xx_get xx_c9 dX9_round_105 wf_X9_51 (j := 19) (by decide) hb2 rfl ?_
    refine xx_iload_n dX9_round_108 rfl ?_
    refine xx_zald dX9_round_109 y2 (vp_in_nI (by omega) (by decide)) ?_
    refine xx_eqi (y := if S9 i then 1 else 0) (by rw [nI_clamp (by omega), y3 i (by omega), if_neg (Nat.lt_irrefl i)]) ?_
    refine xx_if_eq (tgt := 126) dX9_round_110 (by decide) (fun j110 => ?_) (fun j110 => ?_)
    · refine xx_iconst (v := 0) dX9_round_126 (by decide) ?_
      refine xx_zast dX9_round_127 y2 (vp_in_nI (by omega) (by decide)) (xx_gu fun Eq1 zq1 hq1 oq1 => ?_)
      rw [nI_clamp (by omega), vp_nar0] at hq1
      have hb3 := (oq1 b (by omega)).trans hb2
      refine xx_iload_n dX9_round_128 rfl ?_
      refine xx_aload_n dX9_round_129 rfl ?_
      refine xx_get xx_c9 dX9_round_130 wf_X9_77 (j := 28) (by decide) hb3 rfl ?_
      refine xx_iload_n dX9_round_133 rfl ?_
      refine xx_zald dX9_round_134 ((oq1 (b + 21) (by omega)).trans ((y4 (b + 21) (by omega)).trans hg)) (vp_in_nI (by omega) (by decide)) ?_
      refine xx_eqi (y := if go9 i then 1 else 0) (by rw [nI_clamp (by omega)]; exact hg2 i (by omega)) ?_
      refine xx_if_eq (tgt := 142) dX9_round_135 (by decide) (fun j135 => ?_) (fun j135 => ?_)
      · refine xx_iconst (v := 0) dX9_round_142 (by decide) ?_
        refine xx_iadd dX9_round_143 ?_
        have u9 : go9 i = false := by cases hz : go9 i; rfl; exact absurd (j135.symm.trans (if_pos hz)) (by decide)
        refine xx_eqi (y := nI (yr_n go9 (i + 1))) (by show nI (yr_n go9 i) + nI 0 = nI (yr_n go9 i + if go9 i = true then 1 else 0); rw [u9]; exact nI_add _ 0) ?_
        refine xx_istore_n dX9_round_144 (by decide) ?_
        refine xx_clv (lv2 := [(0, .ref b), (1, .int (nI (yr_n go9 (i + 1)))), (2, .int (nI i))]) rfl ?_
        have s9 : S9 i = false := by cases hz : S9 i; rfl; exact absurd (j110.symm.trans (if_pos hz)) (by decide)
        have st9 : (S9 i && !go9 i) = false := by rw [s9]; rfl
        refine xx_iinc (v := nI (i + 1)) dX9_round_145 rfl (nI_1 i) (by decide) ?_
        refine xx_clv (lv2 := [(0, .ref b), (1, .int (nI (yr_n go9 (i + 1)))), (2, .int (nI (i + 1)))]) rfl ?_
        refine xx_goto (tgt := 93) dX9_round_148 (by decide) ?_
        refine xx_less [0, 1, 2] ?_
        refine xx_clv (lv2 := [(0, .ref b), (1, .int (nI (yr_n go9 (i + 1)))), (2, .int (nI (i + 1)))]) rfl ?_
        refine ih (i + 1) (by omega) Eq1 _ (by omega) hq1 (fun j hj => ?_) (fun q hq => (oq1 q hq).trans (y4 q hq))
        by_cases z : j = i
        · rw [z, pk_us, if_pos (show i < i + 1 by omega), st9]; rfl
        · rw [pk_un z, y3 j hj]
          by_cases y : j < i
          · rw [if_pos y, if_pos (show j < i + 1 by omega)]
          · rw [if_neg y, if_neg (show ¬ j < i + 1 by omega)]
      · refine xx_iconst (v := 1) dX9_round_138 (by decide) ?_
        refine xx_goto (tgt := 143) dX9_round_139 (by decide) ?_
        refine xx_iadd dX9_round_143 ?_
        have u9 : go9 i = true := Classical.byContradiction (fun z => j135 (if_neg z))
        refine xx_eqi (y := nI (yr_n go9 (i + 1))) (by show nI (yr_n go9 i) + nI 1 = nI (yr_n go9 i + if go9 i = true then 1 else 0); rw [u9]; exact nI_add _ 1) ?_
        refine xx_istore_n dX9_round_144 (by decide) ?_
        refine xx_clv (lv2 := [(0, .ref b), (1, .int (nI (yr_n go9 (i + 1)))), (2, .int (nI i))]) rfl ?_
        have s9 : S9 i = false := by cases hz : S9 i; rfl; exact absurd (j110.symm.trans (if_pos hz)) (by decide)
        have st9 : (S9 i && !go9 i) = false := by rw [s9]; rfl
        refine xx_iinc (v := nI (i + 1)) dX9_round_145 rfl (nI_1 i) (by decide) ?_
        refine xx_clv (lv2 := [(0, .ref b), (1, .int (nI (yr_n go9 (i + 1)))), (2, .int (nI (i + 1)))]) rfl ?_
        refine xx_goto (tgt := 93) dX9_round_148 (by decide) ?_
        refine xx_less [0, 1, 2] ?_
        refine xx_clv (lv2 := [(0, .ref b), (1, .int (nI (yr_n go9 (i + 1)))), (2, .int (nI (i + 1)))]) rfl ?_
        refine ih (i + 1) (by omega) Eq1 _ (by omega) hq1 (fun j hj => ?_) (fun q hq => (oq1 q hq).trans (y4 q hq))
        by_cases z : j = i
        · rw [z, pk_us, if_pos (show i < i + 1 by omega), st9]; rfl
        · rw [pk_un z, y3 j hj]
          by_cases y : j < i
          · rw [if_pos y, if_pos (show j < i + 1 by omega)]
          · rw [if_neg y, if_neg (show ¬ j < i + 1 by omega)]
    · refine xx_aload_n dX9_round_113 rfl ?_
      refine xx_get xx_c9 dX9_round_114 wf_X9_77 (j := 28) (by decide) hb2 rfl ?_
      refine xx_iload_n dX9_round_117 rfl ?_
      refine xx_zald dX9_round_118 ((y4 (b + 21) (by omega)).trans hg) (vp_in_nI (by omega) (by decide)) ?_
      refine xx_eqi (y := if go9 i then 1 else 0) (by rw [nI_clamp (by omega)]; exact hg2 i (by omega)) ?_
      refine xx_if_ne (tgt := 126) dX9_round_119 (by decide) (fun j119 => ?_) (fun j119 => ?_)
      · refine xx_iconst (v := 0) dX9_round_126 (by decide) ?_
        refine xx_zast dX9_round_127 y2 (vp_in_nI (by omega) (by decide)) (xx_gu fun Eq1 zq1 hq1 oq1 => ?_)
        rw [nI_clamp (by omega), vp_nar0] at hq1
        have hb3 := (oq1 b (by omega)).trans hb2
        refine xx_iload_n dX9_round_128 rfl ?_
        refine xx_aload_n dX9_round_129 rfl ?_
        refine xx_get xx_c9 dX9_round_130 wf_X9_77 (j := 28) (by decide) hb3 rfl ?_
        refine xx_iload_n dX9_round_133 rfl ?_
        refine xx_zald dX9_round_134 ((oq1 (b + 21) (by omega)).trans ((y4 (b + 21) (by omega)).trans hg)) (vp_in_nI (by omega) (by decide)) ?_
        refine xx_eqi (y := if go9 i then 1 else 0) (by rw [nI_clamp (by omega)]; exact hg2 i (by omega)) ?_
        refine xx_if_eq (tgt := 142) dX9_round_135 (by decide) (fun j135 => ?_) (fun j135 => ?_)
        · refine xx_iconst (v := 0) dX9_round_142 (by decide) ?_
          refine xx_iadd dX9_round_143 ?_
          have u9 : go9 i = false := by cases hz : go9 i; rfl; exact absurd (j135.symm.trans (if_pos hz)) (by decide)
          refine xx_eqi (y := nI (yr_n go9 (i + 1))) (by show nI (yr_n go9 i) + nI 0 = nI (yr_n go9 i + if go9 i = true then 1 else 0); rw [u9]; exact nI_add _ 0) ?_
          refine xx_istore_n dX9_round_144 (by decide) ?_
          refine xx_clv (lv2 := [(0, .ref b), (1, .int (nI (yr_n go9 (i + 1)))), (2, .int (nI i))]) rfl ?_
          have s9 : S9 i = true := Classical.byContradiction (fun z => j110 (if_neg z))
          have u8 : go9 i = true := Classical.byContradiction (fun z => j119 (if_neg z))
          have st9 : (S9 i && !go9 i) = false := by rw [s9, u8]; rfl
          refine xx_iinc (v := nI (i + 1)) dX9_round_145 rfl (nI_1 i) (by decide) ?_
          refine xx_clv (lv2 := [(0, .ref b), (1, .int (nI (yr_n go9 (i + 1)))), (2, .int (nI (i + 1)))]) rfl ?_
          refine xx_goto (tgt := 93) dX9_round_148 (by decide) ?_
          refine xx_less [0, 1, 2] ?_
          refine xx_clv (lv2 := [(0, .ref b), (1, .int (nI (yr_n go9 (i + 1)))), (2, .int (nI (i + 1)))]) rfl ?_
          refine ih (i + 1) (by omega) Eq1 _ (by omega) hq1 (fun j hj => ?_) (fun q hq => (oq1 q hq).trans (y4 q hq))
          by_cases z : j = i
          · rw [z, pk_us, if_pos (show i < i + 1 by omega), st9]; rfl
          · rw [pk_un z, y3 j hj]
            by_cases y : j < i
            · rw [if_pos y, if_pos (show j < i + 1 by omega)]
            · rw [if_neg y, if_neg (show ¬ j < i + 1 by omega)]
        · refine xx_iconst (v := 1) dX9_round_138 (by decide) ?_
          refine xx_goto (tgt := 143) dX9_round_139 (by decide) ?_
          refine xx_iadd dX9_round_143 ?_
          have u9 : go9 i = true := Classical.byContradiction (fun z => j135 (if_neg z))
          refine xx_eqi (y := nI (yr_n go9 (i + 1))) (by show nI (yr_n go9 i) + nI 1 = nI (yr_n go9 i + if go9 i = true then 1 else 0); rw [u9]; exact nI_add _ 1) ?_
          refine xx_istore_n dX9_round_144 (by decide) ?_
          refine xx_clv (lv2 := [(0, .ref b), (1, .int (nI (yr_n go9 (i + 1)))), (2, .int (nI i))]) rfl ?_
          have s9 : S9 i = true := Classical.byContradiction (fun z => j110 (if_neg z))
          have u8 : go9 i = true := Classical.byContradiction (fun z => j119 (if_neg z))
          have st9 : (S9 i && !go9 i) = false := by rw [s9, u8]; rfl
          refine xx_iinc (v := nI (i + 1)) dX9_round_145 rfl (nI_1 i) (by decide) ?_
          refine xx_clv (lv2 := [(0, .ref b), (1, .int (nI (yr_n go9 (i + 1)))), (2, .int (nI (i + 1)))]) rfl ?_
          refine xx_goto (tgt := 93) dX9_round_148 (by decide) ?_
          refine xx_less [0, 1, 2] ?_
          refine xx_clv (lv2 := [(0, .ref b), (1, .int (nI (yr_n go9 (i + 1)))), (2, .int (nI (i + 1)))]) rfl ?_
          refine ih (i + 1) (by omega) Eq1 _ (by omega) hq1 (fun j hj => ?_) (fun q hq => (oq1 q hq).trans (y4 q hq))
          by_cases z : j = i
          · rw [z, pk_us, if_pos (show i < i + 1 by omega), st9]; rfl
          · rw [pk_un z, y3 j hj]
            by_cases y : j < i
            · rw [if_pos y, if_pos (show j < i + 1 by omega)]
            · rw [if_neg y, if_neg (show ¬ j < i + 1 by omega)]
      · refine xx_iconst (v := 1) dX9_round_122 (by decide) ?_
        refine xx_goto (tgt := 127) dX9_round_123 (by decide) ?_
        refine xx_zast dX9_round_127 y2 (vp_in_nI (by omega) (by decide)) (xx_gu fun Eq1 zq1 hq1 oq1 => ?_)
        rw [nI_clamp (by omega), vp_nar1] at hq1
        have hb3 := (oq1 b (by omega)).trans hb2
        refine xx_iload_n dX9_round_128 rfl ?_
        refine xx_aload_n dX9_round_129 rfl ?_
        refine xx_get xx_c9 dX9_round_130 wf_X9_77 (j := 28) (by decide) hb3 rfl ?_
        refine xx_iload_n dX9_round_133 rfl ?_
        refine xx_zald dX9_round_134 ((oq1 (b + 21) (by omega)).trans ((y4 (b + 21) (by omega)).trans hg)) (vp_in_nI (by omega) (by decide)) ?_
        refine xx_eqi (y := if go9 i then 1 else 0) (by rw [nI_clamp (by omega)]; exact hg2 i (by omega)) ?_
        refine xx_if_eq (tgt := 142) dX9_round_135 (by decide) (fun j135 => ?_) (fun j135 => ?_)
        · refine xx_iconst (v := 0) dX9_round_142 (by decide) ?_
          refine xx_iadd dX9_round_143 ?_
          have u9 : go9 i = false := by cases hz : go9 i; rfl; exact absurd (j135.symm.trans (if_pos hz)) (by decide)
          refine xx_eqi (y := nI (yr_n go9 (i + 1))) (by show nI (yr_n go9 i) + nI 0 = nI (yr_n go9 i + if go9 i = true then 1 else 0); rw [u9]; exact nI_add _ 0) ?_
          refine xx_istore_n dX9_round_144 (by decide) ?_
          refine xx_clv (lv2 := [(0, .ref b), (1, .int (nI (yr_n go9 (i + 1)))), (2, .int (nI i))]) rfl ?_
          have s9 : S9 i = true := Classical.byContradiction (fun z => j110 (if_neg z))
          have u8 : go9 i = false := by cases hz : go9 i; rfl; exact absurd (if_pos hz) (fun z => absurd (j119.symm.trans z) (by decide))
          have st9 : (S9 i && !go9 i) = true := by rw [s9, u8]; rfl
          refine xx_iinc (v := nI (i + 1)) dX9_round_145 rfl (nI_1 i) (by decide) ?_
          refine xx_clv (lv2 := [(0, .ref b), (1, .int (nI (yr_n go9 (i + 1)))), (2, .int (nI (i + 1)))]) rfl ?_
          refine xx_goto (tgt := 93) dX9_round_148 (by decide) ?_
          refine xx_less [0, 1, 2] ?_
          refine xx_clv (lv2 := [(0, .ref b), (1, .int (nI (yr_n go9 (i + 1)))), (2, .int (nI (i + 1)))]) rfl ?_
          refine ih (i + 1) (by omega) Eq1 _ (by omega) hq1 (fun j hj => ?_) (fun q hq => (oq1 q hq).trans (y4 q hq))
          by_cases z : j = i
          · rw [z, pk_us, if_pos (show i < i + 1 by omega), st9]; rfl
          · rw [pk_un z, y3 j hj]
            by_cases y : j < i
            · rw [if_pos y, if_pos (show j < i + 1 by omega)]
            · rw [if_neg y, if_neg (show ¬ j < i + 1 by omega)]
        · refine xx_iconst (v := 1) dX9_round_138 (by decide) ?_
          refine xx_goto (tgt := 143) dX9_round_139 (by decide) ?_
          refine xx_iadd dX9_round_143 ?_
          have u9 : go9 i = true := Classical.byContradiction (fun z => j135 (if_neg z))
          refine xx_eqi (y := nI (yr_n go9 (i + 1))) (by show nI (yr_n go9 i) + nI 1 = nI (yr_n go9 i + if go9 i = true then 1 else 0); rw [u9]; exact nI_add _ 1) ?_
          refine xx_istore_n dX9_round_144 (by decide) ?_
          refine xx_clv (lv2 := [(0, .ref b), (1, .int (nI (yr_n go9 (i + 1)))), (2, .int (nI i))]) rfl ?_
          have s9 : S9 i = true := Classical.byContradiction (fun z => j110 (if_neg z))
          have u8 : go9 i = false := by cases hz : go9 i; rfl; exact absurd (if_pos hz) (fun z => absurd (j119.symm.trans z) (by decide))
          have st9 : (S9 i && !go9 i) = true := by rw [s9, u8]; rfl
          refine xx_iinc (v := nI (i + 1)) dX9_round_145 rfl (nI_1 i) (by decide) ?_
          refine xx_clv (lv2 := [(0, .ref b), (1, .int (nI (yr_n go9 (i + 1)))), (2, .int (nI (i + 1)))]) rfl ?_
          refine xx_goto (tgt := 93) dX9_round_148 (by decide) ?_
          refine xx_less [0, 1, 2] ?_
          refine xx_clv (lv2 := [(0, .ref b), (1, .int (nI (yr_n go9 (i + 1)))), (2, .int (nI (i + 1)))]) rfl ?_
          refine ih (i + 1) (by omega) Eq1 _ (by omega) hq1 (fun j hj => ?_) (fun q hq => (oq1 q hq).trans (y4 q hq))
          by_cases z : j = i
          · rw [z, pk_us, if_pos (show i < i + 1 by omega), st9]; rfl
          · rw [pk_un z, y3 j hj]
            by_cases y : j < i
            · rw [if_pos y, if_pos (show j < i + 1 by omega)]
            · rw [if_neg y, if_neg (show ¬ j < i + 1 by omega)]
set_option maxRecDepth 100000 in
theorem c_X9_round {G : xx_G} {l : Launch} {A : xx_H} {b : Nat} {th hr st hl en tu : Value} {m n : Nat} {W : Nat → Nat → Nat → Int} {le : Nat → Int} {mu th9 : Nat → Nat} {S9 : Nat → Bool} (hb : A.2 b = xx_o 9 (xx_mf b th (.int (nI m)) (.int (nI n)) hr st hl en tu)) (hP : xx_rp A b m n W le mu) (hm : m ≤ 6) (hn : n ≤ 6) (hT : xx_rth A b m n th9 S9) (hm1 : 1 ≤ m) (hn1 : 1 ≤ n) (hg : ∃ g, A.2 (b + 21) = xx_z 12 g) : xx_X G l mX9_round 2 0 0 0 (lv_args 0 [.ref b]) [] A (fun z B => z = .inl (some (.int (nI (yr_n (yr_go m n W th9 S9) 12)))) ∧ B.1 = A.1 ∧ B.2 b = xx_o 9 (xx_mf b (.int 0) (.int (nI m)) (.int (nI n)) hr st hl en tu) ∧ (∃ f, B.2 (b + 13) = xx_z 12 f ∧ ∀ j, j < 12 → f j = if (S9 j && !yr_go m n W th9 S9 j) then 1 else 0) ∧ (∃ g, B.2 (b + 21) = xx_z 12 g) ∧ ∀ q, q ≠ b → q ≠ b + 13 → q ≠ b + 21 → B.2 q = A.2 q) := by
  obtain ⟨g0, hg0⟩ := hg
  obtain ⟨⟨ft, t1, t2⟩, t3⟩ := id hT
  refine xx_clv (lv2 := [(0, .ref b)]) rfl ?_
  refine xx_aload_n dX9_round_0 rfl ?_
  refine xx_aload_n dX9_round_1 rfl ?_
  refine xx_get xx_c9 dX9_round_2 wf_X9_120 (j := 4) (by decide) hb rfl ?_
  refine xx_if_ne (tgt := 12) dX9_round_5 (by decide) (fun j5 => ?_) (fun h => absurd h (nI_ne0 (n := m) (by omega) (by omega)))
  refine xx_iconst (v := 0) dX9_round_12 (by decide) ?_
  refine xx_put xx_c9 dX9_round_13 wf_X9_84 (j := 0) (by decide) rfl rfl rfl hb (Nat.le_of_ble_eq_true rfl) (xx_gu fun Eq1 zq1 hbq1 oq1 => ?_)
  have hbq1 : Eq1.2 b = xx_o 9 (xx_mf b (.int 0) (.int (nI m)) (.int (nI n)) hr st hl en tu) := hbq1
  refine xx_aload_n dX9_round_16 rfl ?_
  refine xx_get xx_c9 dX9_round_17 wf_X9_84 (j := 0) (by decide) hbq1 rfl ?_
  refine xx_if_le (tgt := 25) dX9_round_20 (by decide) (fun j20 => ?_) (fun h => absurd (by decide) h)
  refine xx_iconst (v := 0) dX9_round_25 (by decide) ?_
  refine xx_istore_n dX9_round_26 (by decide) ?_
  refine xx_clv (lv2 := [(0, .ref b), (1, .int 0)]) rfl ?_
  refine xx_iconst (v := 0) dX9_round_27 (by decide) ?_
  refine xx_istore_n dX9_round_28 (by decide) ?_
  refine xx_clv (lv2 := [(0, .ref b), (1, .int 0), (2, .int 0)]) rfl ?_
  refine xx_clv (lv2 := [(0, .ref b), (1, .int 0), (2, .int (nI 0))]) rfl ?_
  refine l_X9_r1 (A := Eq1) hbq1 (hP.to (oq1 _ (by omega)) (oq1 _ (by omega)) (oq1 _ (by omega))) hm hn (hT.to (oq1 _ (by omega))) hm1 hn1 (fun B g y1 y2 y3 y4 => ?_) 12 0 (by omega) Eq1 g0 rfl ((oq1 _ (by omega)).trans hg0) (fun j hj => absurd hj (Nat.not_lt_zero j)) (fun q _ => rfl)
  refine xx_iconst (v := 0) dX9_round_91 (by decide) ?_
  refine xx_istore_n dX9_round_92 (by decide) ?_
  refine xx_clv (lv2 := [(0, .ref b), (1, .int 0), (2, .int 0)]) rfl ?_
  refine xx_clv (lv2 := [(0, .ref b), (1, .int (nI (yr_n (yr_go m n W th9 S9) 0))), (2, .int (nI 0))]) rfl ?_
  refine l_X9_r2 (A := B) (S9 := S9) (g := g) (go9 := yr_go m n W th9 S9) ((y4 b (by omega)).trans hbq1) y2 y3 (fun C f g1 g2 g3 g4 => ?_) 12 0 (by omega) B ft rfl ((y4 _ (by omega)).trans ((oq1 _ (by omega)).trans t1)) (fun j hj => by rw [if_neg (Nat.not_lt_zero j)]; exact t2 j hj) (fun q _ => rfl)
  refine xx_iload_n dX9_round_151 rfl ?_
  exact xx_iret dX9_round_152 rfl ⟨rfl, by omega, (g4 b (by omega)).trans ((y4 b (by omega)).trans hbq1), ⟨f, g2, fun j hj => by rw [g3 j hj, if_pos hj]⟩, ⟨g, (g4 _ (by omega)).trans y2⟩, fun q a0 a1 a2 => (g4 q a1).trans ((y4 q a2).trans (oq1 q a0))⟩
