/-! ===== what is dominated ===== -/
def yr_m (w : Nat → Nat → Int) (ob k r : Nat) : Nat → Bool
  | 0 => true
  | c + 1 => yr_m w ob k r c && (!Nat.testBit ob c || decide (w r c < w k c))
def yr_e (w : Nat → Nat → Int) (own ob ot r : Nat) : Nat → Bool
  | 0 => false
  | k + 1 => yr_e w own ob ot r k || (Nat.testBit own r && Nat.testBit own k && yr_m w ob k r ot)
def yr_b (w : Nat → Nat → Int) (own ob ow ot i : Nat) : Nat := yb_n (fun r => yr_e w own ob ot r ow) i
theorem yr_m_f {w : Nat → Nat → Int} {ob k r c : Nat} : ∀ {n : Nat}, c ≤ n → yr_m w ob k r c = false → yr_m w ob k r n = false
  | 0, h, e => by rw [show c = 0 by omega] at e; exact e
  | n + 1, h, e => by
    by_cases z : c = n + 1
    · rw [← z]; exact e
    · show (yr_m w ob k r n && _) = false
      rw [yr_m_f (n := n) (by omega) e]; rfl
theorem yb_two : ∀ own, own < 64 → ∀ r, r < 6 → ∀ k, k < 6 → ((nI own >>> (nI r &&& 31)) &&& (nI own >>> (nI k &&& 31))) &&& 1 = if (Nat.testBit own r && Nat.testBit own k) then 1 else 0 := by decide +kernel
theorem yb_or7 : ∀ k, k < 6 → ∀ a, a < 2 ^ k → nI (a + 2 ^ k) ||| ((1 : Int32) <<< (nI k &&& 31)) = nI (a + 2 ^ k) := by decide +kernel
theorem yb_ifo {k a : Nat} {f : Bool} (hk : k < 6) (ha : a < 2 ^ k) : nI (a + if f then 2 ^ k else 0) ||| ((1 : Int32) <<< (nI k &&& 31)) = nI (a + 2 ^ k) := by
  cases f
  · exact yb_or hk ha
  · exact yb_or7 k hk a ha
theorem iz_le {a c : Int} (ha : a.natAbs ≤ 277172280) (hc : c.natAbs ≤ 277172280) : iz a < iz c ↔ a < c := iz_lt (by omega) (by omega) (by omega) (by omega)
set_option maxRecDepth 100000 in
theorem l_X4_isMore {G : xx_G} {l : Launch} {A : xx_H} {p ow ot mu : Nat} {le : Int} {w : Nat → Nat → Int} {ob k9 r : Nat} (hp : xx_po A p ow ot mu le w) (hk : k9 < ow) (hr : r < ow) (h64 : ob < 64) :
    ∀ (v i : Nat), i + v = ot → yr_m w ob k9 r i = true → xx_X G l mX4_isMore 0 0 0 3 [(0, .ref p), (1, .int (nI k9)), (2, .int (nI r)), (3, .int (nI ob)), (4, .int (nI i))] [] A (fun z B => z = .inl (some (.int (if yr_m w ob k9 r ot then 1 else 0))) ∧ B = A) := by
  obtain ⟨ob9, o6, t6, ⟨f, f1, f2⟩, wb, lb⟩ := id hp
  intro v
  induction v with
  | zero =>
    intro i h9i y1
    have h9e : ot = i := by omega
    subst h9e
    refine xx_iload dX4_isMore_3 rfl ?_
    refine xx_aload_n dX4_isMore_5 rfl ?_
    refine xx_get xx_c4 dX4_isMore_6 wf_X4_15 (j := 1) (by decide) ob9 rfl ?_
    refine xx_icmp_ge (tgt := 56) dX4_isMore_9 (by decide) (fun j9 => ?_) (fun h => absurd (Int32.le_refl _) h)
    refine xx_iconst (v := 1) dX4_isMore_56 (by decide) ?_
    exact xx_zret dX4_isMore_57 rfl rfl ⟨by rw [if_pos y1], rfl⟩
  | succ v ih =>
    intro i h9i y1
    have b1 := wb k9 hk i (by omega)
    have b2 := wb r hr i (by omega)
    refine xx_iload dX4_isMore_3 rfl ?_
    refine xx_aload_n dX4_isMore_5 rfl ?_
    refine xx_get xx_c4 dX4_isMore_6 wf_X4_15 (j := 1) (by decide) ob9 rfl ?_
    refine xx_icmp_ge (tgt := 56) dX4_isMore_9 (by decide) (fun h => absurd h (nI_ge (a := i) (b := ot) (by omega) (by omega))) (fun j9 => ?_)
    refine xx_iload_n dX4_isMore_12 rfl ?_
    refine xx_iload dX4_isMore_13 rfl ?_
    refine xx_ishr dX4_isMore_15 ?_
    refine xx_iconst (v := 1) dX4_isMore_16 (by decide) ?_
    refine xx_iand dX4_isMore_17 ?_
    refine xx_eqi (y := if Nat.testBit ob i then 1 else 0) (yb_sh h64 (by omega)) ?_
    refine xx_if_eq (tgt := 50) dX4_isMore_18 (by decide) (fun j18 => ?_) (fun j18 => ?_)
    · have t9 : Nat.testBit ob i = false := by cases hz : Nat.testBit ob i; rfl; exact absurd (j18.symm.trans (if_pos hz)) (by decide)
      refine xx_iinc (v := nI (i + 1)) dX4_isMore_50 rfl (nI_1 i) (by decide) ?_
      refine xx_goto (tgt := 3) dX4_isMore_53 (by decide) ?_
      refine xx_clv (lv2 := [(0, .ref p), (1, .int (nI k9)), (2, .int (nI r)), (3, .int (nI ob)), (4, .int (nI (i + 1)))]) rfl ?_
      exact ih (i + 1) (by omega) (by show (yr_m w ob k9 r i && (!Nat.testBit ob i || decide (w r i < w k9 i))) = true; rw [y1, t9]; rfl)
    · refine xx_aload_n dX4_isMore_21 rfl ?_
      refine xx_get xx_c4 dX4_isMore_22 wf_X4_31 (j := 6) (by decide) ob9 rfl ?_
      refine xx_iload_n dX4_isMore_25 rfl ?_
      refine xx_bipush (v := 6) dX4_isMore_26 (by decide) ?_
      refine xx_imul dX4_isMore_28 ?_
      refine xx_eqi (y := nI (k9 * 6)) (pk_mul k9 6) ?_
      refine xx_iload dX4_isMore_29 rfl ?_
      refine xx_iadd dX4_isMore_31 ?_
      refine xx_eqi (y := nI (k9 * 6 + i)) (nI_add (k9 * 6) i) ?_
      refine xx_iald dX4_isMore_32 f1 (vp_in_nI (by omega) (by decide)) ?_
      refine xx_eqi (y := iz (w k9 i)) (by rw [nI_clamp (by omega)]; exact f2 k9 hk i (by omega)) ?_
      refine xx_aload_n dX4_isMore_33 rfl ?_
      refine xx_get xx_c4 dX4_isMore_34 wf_X4_31 (j := 6) (by decide) ob9 rfl ?_
      refine xx_iload_n dX4_isMore_37 rfl ?_
      refine xx_bipush (v := 6) dX4_isMore_38 (by decide) ?_
      refine xx_imul dX4_isMore_40 ?_
      refine xx_eqi (y := nI (r * 6)) (pk_mul r 6) ?_
      refine xx_iload dX4_isMore_41 rfl ?_
      refine xx_iadd dX4_isMore_43 ?_
      refine xx_eqi (y := nI (r * 6 + i)) (nI_add (r * 6) i) ?_
      refine xx_iald dX4_isMore_44 f1 (vp_in_nI (by omega) (by decide)) ?_
      refine xx_eqi (y := iz (w r i)) (by rw [nI_clamp (by omega)]; exact f2 r hr i (by omega)) ?_
      refine xx_icmp_gt (tgt := 50) dX4_isMore_45 (by decide) (fun j45 => ?_) (fun j45 => ?_)
      · have n9 : w r i < w k9 i := (iz_le b2 b1).mp j45
        refine xx_iinc (v := nI (i + 1)) dX4_isMore_50 rfl (nI_1 i) (by decide) ?_
        refine xx_goto (tgt := 3) dX4_isMore_53 (by decide) ?_
        refine xx_clv (lv2 := [(0, .ref p), (1, .int (nI k9)), (2, .int (nI r)), (3, .int (nI ob)), (4, .int (nI (i + 1)))]) rfl ?_
        exact ih (i + 1) (by omega) (by show (yr_m w ob k9 r i && (!Nat.testBit ob i || decide (w r i < w k9 i))) = true; rw [y1, decide_eq_true n9, Bool.or_true]; rfl)
      · refine xx_iconst (v := 0) dX4_isMore_48 (by decide) ?_
        have t9 : Nat.testBit ob i = true := Classical.byContradiction (fun z => j18 (if_neg z))
        have n9 : ¬ w r i < w k9 i := fun z => j45 ((iz_le b2 b1).mpr z)
        have m9 : yr_m w ob k9 r (i + 1) = false := by show (yr_m w ob k9 r i && (!Nat.testBit ob i || decide (w r i < w k9 i))) = false; rw [y1, t9, decide_eq_false n9]; rfl
        exact xx_zret dX4_isMore_49 rfl rfl ⟨by rw [yr_m_f (by omega) m9]; rfl, rfl⟩
set_option maxRecDepth 100000 in
theorem c_X4_isMore {G : xx_G} {l : Launch} {A : xx_H} {p ow ot mu : Nat} {le : Int} {w : Nat → Nat → Int} {ob k9 r : Nat} (hp : xx_po A p ow ot mu le w) (hk : k9 < ow) (hr : r < ow) (h64 : ob < 64) : xx_X G l mX4_isMore 0 0 0 0 (lv_args 0 [.ref p, .int (nI k9), .int (nI r), .int (nI ob)]) [] A (fun z B => z = .inl (some (.int (if yr_m w ob k9 r ot then 1 else 0))) ∧ B = A) := by
  refine xx_clv (lv2 := [(0, .ref p), (1, .int (nI k9)), (2, .int (nI r)), (3, .int (nI ob))]) rfl ?_
  refine xx_iconst (v := 0) dX4_isMore_0 (by decide) ?_
  refine xx_istore dX4_isMore_1 (by decide) ?_
  refine xx_clv (lv2 := [(0, .ref p), (1, .int (nI k9)), (2, .int (nI r)), (3, .int (nI ob)), (4, .int 0)]) rfl ?_
  refine xx_clv (lv2 := [(0, .ref p), (1, .int (nI k9)), (2, .int (nI r)), (3, .int (nI ob)), (4, .int (nI 0))]) rfl ?_
  exact l_X4_isMore hp hk hr h64 ot 0 (by omega) rfl
set_option maxRecDepth 100000 in
theorem l_X4_di {G : xx_G} {l : Launch} {A : xx_H} {p ow ot mu : Nat} {le : Int} {w : Nat → Nat → Int} {own ob r : Nat} {Q : Option Value ⊕ String → xx_H → Prop} (hp : xx_po A p ow ot mu le w) (h64 : own < 64) (h65 : ob < 64) (hr : r < ow) (kC : ∀ (B : xx_H), (B = A) → xx_X G l mX4_dominated 1 0 0 65 [(0, .ref p), (1, .int (nI own)), (2, .int (nI ob)), (3, .int (nI (yr_b w own ob ow ot r + if yr_e w own ob ot r ow then 2 ^ r else 0))), (4, .int (nI r))] [] B Q) :
    ∀ (v i : Nat), i + v = ow → ∀ (B : xx_H), (B = A) → xx_X G l mX4_dominated 1 0 0 17 [(0, .ref p), (1, .int (nI own)), (2, .int (nI ob)), (3, .int (nI (yr_b w own ob ow ot r + if yr_e w own ob ot r i then 2 ^ r else 0))), (4, .int (nI r)), (5, .int (nI i))] [] B Q := by
  obtain ⟨ob9, o6, t6, _⟩ := id hp
  intro v
  induction v with
  | zero =>
    intro i h9i B y1
    have h9e : ow = i := by omega
    subst h9e
    rw [y1]
    refine xx_clv (lv2 := [(0, .ref p), (1, .int (nI own)), (2, .int (nI ob)), (3, .int (nI (yr_b w own ob ow ot r + if yr_e w own ob ot r ow then 2 ^ r else 0))), (4, .int (nI r)), (5, .int (nI ow))]) rfl ?_
    refine xx_iload dX4_dominated_17 rfl ?_
    refine xx_aload_n dX4_dominated_19 rfl ?_
    refine xx_get xx_c4 dX4_dominated_20 wf_X4_9 (j := 0) (by decide) ob9 rfl ?_
    refine xx_icmp_ge (tgt := 65) dX4_dominated_23 (by decide) (fun j23 => ?_) (fun h => absurd (Int32.le_refl _) h)
    refine xx_less [0, 1, 2, 3, 4] ?_
    refine xx_clv (lv2 := [(0, .ref p), (1, .int (nI own)), (2, .int (nI ob)), (3, .int (nI (yr_b w own ob ow ot r + if yr_e w own ob ot r ow then 2 ^ r else 0))), (4, .int (nI r))]) rfl ?_
    exact kC A rfl
  | succ v ih =>
    intro i h9i B y1
    rw [y1]
    refine xx_iload dX4_dominated_17 rfl ?_
    refine xx_aload_n dX4_dominated_19 rfl ?_
    refine xx_get xx_c4 dX4_dominated_20 wf_X4_9 (j := 0) (by decide) ob9 rfl ?_
    refine xx_icmp_ge (tgt := 65) dX4_dominated_23 (by decide) (fun h => absurd h (nI_ge (a := i) (b := ow) (by omega) (by omega))) (fun j23 => ?_)
    refine xx_iload_n dX4_dominated_26 rfl ?_
    refine xx_iload dX4_dominated_27 rfl ?_
    refine xx_ishr dX4_dominated_29 ?_
    refine xx_iload_n dX4_dominated_30 rfl ?_
    refine xx_iload dX4_dominated_31 rfl ?_
    refine xx_ishr dX4_dominated_33 ?_
    refine xx_iand dX4_dominated_34 ?_
    refine xx_iconst (v := 1) dX4_dominated_35 (by decide) ?_
    refine xx_iand dX4_dominated_36 ?_
    refine xx_eqi (y := if (Nat.testBit own r && Nat.testBit own i) then 1 else 0) (yb_two own h64 r (by omega) i (by omega)) ?_
    refine xx_if_eq (tgt := 59) dX4_dominated_37 (by decide) (fun j37 => ?_) (fun j37 => ?_)
    · have t9 : (Nat.testBit own r && Nat.testBit own i) = false := by cases hz : (Nat.testBit own r && Nat.testBit own i); rfl; exact absurd (j37.symm.trans (if_pos hz)) (by decide)
      have e9 : yr_e w own ob ot r (i + 1) = yr_e w own ob ot r i := by show (yr_e w own ob ot r i || (Nat.testBit own r && Nat.testBit own i && yr_m w ob i r ot)) = _; rw [t9, Bool.false_and, Bool.or_false]
      rw [← e9]
      refine xx_iinc (v := nI (i + 1)) dX4_dominated_59 rfl (nI_1 i) (by decide) ?_
      refine xx_clv (lv2 := [(0, .ref p), (1, .int (nI own)), (2, .int (nI ob)), (3, .int (nI (yr_b w own ob ow ot r + if yr_e w own ob ot r (i + 1) then 2 ^ r else 0))), (4, .int (nI r)), (5, .int (nI (i + 1)))]) rfl ?_
      refine xx_goto (tgt := 17) dX4_dominated_62 (by decide) ?_
      refine xx_less [0, 1, 2, 3, 4, 5] ?_
      refine xx_clv (lv2 := [(0, .ref p), (1, .int (nI own)), (2, .int (nI ob)), (3, .int (nI (yr_b w own ob ow ot r + if yr_e w own ob ot r (i + 1) then 2 ^ r else 0))), (4, .int (nI r)), (5, .int (nI (i + 1)))]) rfl ?_
      refine ih (i + 1) (by omega) A rfl
    · refine xx_aload_n dX4_dominated_40 rfl ?_
      refine xx_iload dX4_dominated_41 rfl ?_
      refine xx_iload dX4_dominated_43 rfl ?_
      refine xx_iload_n dX4_dominated_45 rfl ?_
      refine xx_callV (N := mX4_isMore) (vs := [.int (nI i), .int (nI r), .int (nI ob)]) (b := p) (rest := []) (d2 := 0) (c2 := 0) (s2 := 0) (c3 := 0) (s3 := 0) dX4_dominated_46 wm_X4_72 wi_X4_isMore wv_X4_isMore (k := 4) rfl (by decide) ob9 nX4_isMore ⟨pX4_isMore, Nat.le_of_ble_eq_true rfl, by decide, Nat.le_of_ble_eq_true rfl, by decide, by decide⟩ (c_X4_isMore (k9 := i) (r := r) (ob := ob) hp (by omega) hr h65) (fun v9 B9 hC => ?_) (fun E9 B9 hC => absurd hC.1 (by simp))
      obtain ⟨hv9, e9⟩ := hC
      cases hv9
      refine xx_cst (st2 := [.int (if yr_m w ob i r ot then 1 else 0)]) rfl ?_
      rw [e9]
      refine xx_if_eq (tgt := 59) dX4_dominated_49 (by decide) (fun j49 => ?_) (fun j49 => ?_)
      · have t9 : yr_m w ob i r ot = false := by cases hz : yr_m w ob i r ot; rfl; exact absurd (j49.symm.trans (if_pos hz)) (by decide)
        have e9 : yr_e w own ob ot r (i + 1) = yr_e w own ob ot r i := by show (yr_e w own ob ot r i || (Nat.testBit own r && Nat.testBit own i && yr_m w ob i r ot)) = _; rw [t9, Bool.and_false, Bool.or_false]
        rw [← e9]
        refine xx_iinc (v := nI (i + 1)) dX4_dominated_59 rfl (nI_1 i) (by decide) ?_
        refine xx_clv (lv2 := [(0, .ref p), (1, .int (nI own)), (2, .int (nI ob)), (3, .int (nI (yr_b w own ob ow ot r + if yr_e w own ob ot r (i + 1) then 2 ^ r else 0))), (4, .int (nI r)), (5, .int (nI (i + 1)))]) rfl ?_
        refine xx_goto (tgt := 17) dX4_dominated_62 (by decide) ?_
        refine xx_less [0, 1, 2, 3, 4, 5] ?_
        refine xx_clv (lv2 := [(0, .ref p), (1, .int (nI own)), (2, .int (nI ob)), (3, .int (nI (yr_b w own ob ow ot r + if yr_e w own ob ot r (i + 1) then 2 ^ r else 0))), (4, .int (nI r)), (5, .int (nI (i + 1)))]) rfl ?_
        refine ih (i + 1) (by omega) A rfl
      · refine xx_iload_n dX4_dominated_52 rfl ?_
        refine xx_iconst (v := 1) dX4_dominated_53 (by decide) ?_
        refine xx_iload dX4_dominated_54 rfl ?_
        refine xx_ishl dX4_dominated_56 ?_
        refine xx_ior dX4_dominated_57 ?_
        refine xx_eqi (y := nI (yr_b w own ob ow ot r + 2 ^ r)) (yb_ifo (by omega) (yb_lt _ r)) ?_
        refine xx_istore_n dX4_dominated_58 (by decide) ?_
        refine xx_clv (lv2 := [(0, .ref p), (1, .int (nI own)), (2, .int (nI ob)), (3, .int (nI (yr_b w own ob ow ot r + 2 ^ r))), (4, .int (nI r)), (5, .int (nI i))]) rfl ?_
        have t9 : (Nat.testBit own r && Nat.testBit own i) = true := Classical.byContradiction (fun z => j37 (if_neg z))
        have t8 : yr_m w ob i r ot = true := Classical.byContradiction (fun z => j49 (if_neg z))
        have e9 : yr_e w own ob ot r (i + 1) = true := by show (yr_e w own ob ot r i || (Nat.testBit own r && Nat.testBit own i && yr_m w ob i r ot)) = true; rw [t9, t8, Bool.and_true, Bool.or_true]
        refine xx_clv (lv2 := [(0, .ref p), (1, .int (nI own)), (2, .int (nI ob)), (3, .int (nI (yr_b w own ob ow ot r + if yr_e w own ob ot r (i + 1) then 2 ^ r else 0))), (4, .int (nI r)), (5, .int (nI i))]) (by rw [e9]; rfl) ?_
        refine xx_iinc (v := nI (i + 1)) dX4_dominated_59 rfl (nI_1 i) (by decide) ?_
        refine xx_clv (lv2 := [(0, .ref p), (1, .int (nI own)), (2, .int (nI ob)), (3, .int (nI (yr_b w own ob ow ot r + if yr_e w own ob ot r (i + 1) then 2 ^ r else 0))), (4, .int (nI r)), (5, .int (nI (i + 1)))]) rfl ?_
        refine xx_goto (tgt := 17) dX4_dominated_62 (by decide) ?_
        refine xx_less [0, 1, 2, 3, 4, 5] ?_
        refine xx_clv (lv2 := [(0, .ref p), (1, .int (nI own)), (2, .int (nI ob)), (3, .int (nI (yr_b w own ob ow ot r + if yr_e w own ob ot r (i + 1) then 2 ^ r else 0))), (4, .int (nI r)), (5, .int (nI (i + 1)))]) rfl ?_
        refine ih (i + 1) (by omega) A rfl
set_option maxRecDepth 100000 in
theorem l_X4_do {G : xx_G} {l : Launch} {A : xx_H} {p ow ot mu : Nat} {le : Int} {w : Nat → Nat → Int} {own ob : Nat} {Q : Option Value ⊕ String → xx_H → Prop} (hp : xx_po A p ow ot mu le w) (h64 : own < 64) (h65 : ob < 64) (kC : ∀ (B : xx_H), (B = A) → xx_X G l mX4_dominated 1 0 0 71 [(3, .int (nI (yr_b w own ob ow ot ow)))] [] B Q) :
    ∀ (v i : Nat), i + v = ow → ∀ (B : xx_H), (B = A) → xx_X G l mX4_dominated 1 0 0 5 [(0, .ref p), (1, .int (nI own)), (2, .int (nI ob)), (3, .int (nI (yr_b w own ob ow ot i))), (4, .int (nI i))] [] B Q := by
  obtain ⟨ob9, o6, t6, _⟩ := id hp
  intro v
  induction v with
  | zero =>
    intro i h9i B y1
    have h9e : ow = i := by omega
    subst h9e
    rw [y1]
    refine xx_clv (lv2 := [(0, .ref p), (1, .int (nI own)), (2, .int (nI ob)), (3, .int (nI (yr_b w own ob ow ot ow))), (4, .int (nI ow))]) rfl ?_
    refine xx_iload dX4_dominated_5 rfl ?_
    refine xx_aload_n dX4_dominated_7 rfl ?_
    refine xx_get xx_c4 dX4_dominated_8 wf_X4_9 (j := 0) (by decide) ob9 rfl ?_
    refine xx_icmp_ge (tgt := 71) dX4_dominated_11 (by decide) (fun j11 => ?_) (fun h => absurd (Int32.le_refl _) h)
    refine xx_less [3] ?_
    refine xx_clv (lv2 := [(3, .int (nI (yr_b w own ob ow ot ow)))]) rfl ?_
    exact kC A rfl
  | succ v ih =>
    intro i h9i B y1
    rw [y1]
    refine xx_iload dX4_dominated_5 rfl ?_
    refine xx_aload_n dX4_dominated_7 rfl ?_
    refine xx_get xx_c4 dX4_dominated_8 wf_X4_9 (j := 0) (by decide) ob9 rfl ?_
    refine xx_icmp_ge (tgt := 71) dX4_dominated_11 (by decide) (fun h => absurd h (nI_ge (a := i) (b := ow) (by omega) (by omega))) (fun j11 => ?_)
    refine xx_iconst (v := 0) dX4_dominated_14 (by decide) ?_
    refine xx_istore dX4_dominated_15 (by decide) ?_
    refine xx_clv (lv2 := [(0, .ref p), (1, .int (nI own)), (2, .int (nI ob)), (3, .int (nI (yr_b w own ob ow ot i))), (4, .int (nI i)), (5, .int 0)]) rfl ?_
    refine xx_clv (lv2 := [(0, .ref p), (1, .int (nI own)), (2, .int (nI ob)), (3, .int (nI (yr_b w own ob ow ot i + if yr_e w own ob ot i 0 then 2 ^ i else 0))), (4, .int (nI i)), (5, .int (nI 0))]) rfl ?_
    refine l_X4_di (r := i) hp h64 h65 (by omega) (fun B2 y2 => ?_) ow 0 (by omega) A rfl
    rw [y2]
    refine xx_iinc (v := nI (i + 1)) dX4_dominated_65 rfl (nI_1 i) (by decide) ?_
    refine xx_clv (lv2 := [(0, .ref p), (1, .int (nI own)), (2, .int (nI ob)), (3, .int (nI (yr_b w own ob ow ot (i + 1)))), (4, .int (nI (i + 1)))]) rfl ?_
    refine xx_goto (tgt := 5) dX4_dominated_68 (by decide) ?_
    refine xx_less [0, 1, 2, 3, 4] ?_
    refine xx_clv (lv2 := [(0, .ref p), (1, .int (nI own)), (2, .int (nI ob)), (3, .int (nI (yr_b w own ob ow ot (i + 1)))), (4, .int (nI (i + 1)))]) rfl ?_
    refine ih (i + 1) (by omega) A rfl
set_option maxRecDepth 100000 in
theorem c_X4_dominated {G : xx_G} {l : Launch} {A : xx_H} {p ow ot mu : Nat} {le : Int} {w : Nat → Nat → Int} {own ob : Nat} (hp : xx_po A p ow ot mu le w) (h64 : own < 64) (h65 : ob < 64) : xx_X G l mX4_dominated 1 0 0 0 (lv_args 0 [.ref p, .int (nI own), .int (nI ob)]) [] A (fun z B => z = .inl (some (.int (nI (yr_b w own ob ow ot ow)))) ∧ B = A) := by
  refine xx_clv (lv2 := [(0, .ref p), (1, .int (nI own)), (2, .int (nI ob))]) rfl ?_
  refine xx_iconst (v := 0) dX4_dominated_0 (by decide) ?_
  refine xx_istore_n dX4_dominated_1 (by decide) ?_
  refine xx_clv (lv2 := [(0, .ref p), (1, .int (nI own)), (2, .int (nI ob)), (3, .int 0)]) rfl ?_
  refine xx_iconst (v := 0) dX4_dominated_2 (by decide) ?_
  refine xx_istore dX4_dominated_3 (by decide) ?_
  refine xx_clv (lv2 := [(0, .ref p), (1, .int (nI own)), (2, .int (nI ob)), (3, .int 0), (4, .int 0)]) rfl ?_
  refine xx_clv (lv2 := [(0, .ref p), (1, .int (nI own)), (2, .int (nI ob)), (3, .int (nI (yr_b w own ob ow ot 0))), (4, .int (nI 0))]) rfl ?_
  refine l_X4_do hp h64 h65 (fun B y1 => ?_) ow 0 (by omega) A rfl
  rw [y1]
  refine xx_iload_n dX4_dominated_71 rfl ?_
  exact xx_iret dX4_dominated_72 rfl ⟨rfl, rfl⟩
/-- what goes, what stays -/
def yr_g (m n : Nat) (W : Nat → Nat → Nat → Int) (th9 : Nat → Nat) (p : Nat) : Nat := yr_b (yo_w W p) (th9 p) (th9 (1 - p)) (yy_cn m n p) (yy_cn m n (1 - p)) (yy_cn m n p)
def yr_tn (m n : Nat) (W : Nat → Nat → Nat → Int) (th9 : Nat → Nat) (p : Nat) : Nat := yb_n (fun k => Nat.testBit (th9 p) k && !Nat.testBit (yr_g m n W th9 p) k) 6
theorem yb_dif : ∀ a, a < 64 → ∀ d, d < 64 → nI a &&& (nI d ^^^ -1) = nI (yb_n (fun k => Nat.testBit a k && !Nat.testBit d k) 6) := by decide +kernel
theorem yr_g64 {m n p : Nat} {W : Nat → Nat → Nat → Int} {th9 : Nat → Nat} (hm : m ≤ 6) (hn : n ≤ 6) : yr_g m n W th9 p < 64 := Nat.lt_of_lt_of_le (yb_lt _ _) (Nat.pow_le_pow_right (by decide) (yy_cn6 hm hn))
set_option maxRecDepth 100000 in
theorem c_X8_round {G : xx_G} {l : Launch} {A : xx_H} {b m n : Nat} {u6 u7 u8 u10 u11 : Value} {fc : Nat → Int32} {W : Nat → Nat → Nat → Int} {le : Nat → Int} {mu th9 : Nat → Nat} (hb : A.2 b = xx_o 8 [.ref (b + 1), .ref (b + 2), .ref (b + 11), .ref (b + 18), .ref (b + 19), .ref (b + 226), u6, u7, u8, .ref (b + 230), u10, u11, .ref (b + 233), .ref (b + 266), .ref (b + 279), .ref (b + 281), .ref (b + 283), .ref (b + 288)]) (hc : A.2 (b + 1) = xx_i 2 fc) (hc2 : ∀ p, p < 2 → fc p = nI (yy_cn m n p)) (hm1 : 1 ≤ m) (hm : m ≤ 6) (hn1 : 1 ≤ n) (hn : n ≤ 6) (P : xx_pys A b m n W le mu) (H : ∃ f, A.2 (b + 18) = xx_i 2 f ∧ ∀ p, p < 2 → f p = nI (th9 p)) (h64 : ∀ p, p < 2 → th9 p < 64) : xx_X G l mX8_round 7 0 0 0 (lv_args 0 [.ref b]) [] A (fun z B => z = .inl (some (.int (nI (yb_c (yr_g m n W th9 0) + yb_c (yr_g m n W th9 1))))) ∧ B.1 = A.1 ∧ (∃ f, B.2 (b + 18) = xx_i 2 f ∧ ∀ p, p < 2 → f p = nI (yr_tn m n W th9 p)) ∧ ∀ q, q ≠ b + 18 → B.2 q = A.2 q) := by
  obtain ⟨f, f1, f2⟩ := H
  obtain ⟨⟨hpa, pa1, pa2⟩, po⟩ := id P
  have po0 := po 0 (by decide)
  have po1 := po 1 (by decide)
  have g0 := yr_g64 (W := W) (th9 := th9) (p := 0) hm hn
  have g1 := yr_g64 (W := W) (th9 := th9) (p := 1) hm hn
  refine xx_clv (lv2 := [(0, .ref b)]) rfl ?_
  refine xx_aload_n dX8_round_0 rfl ?_
  refine xx_callV (N := mX8_needGame) (vs := []) (b := b) (rest := []) (d2 := 6) (c2 := 0) (s2 := 0) (c3 := 0) (s3 := 0) dX8_round_1 wm_X8_118 wi_X8_needGame wv_X8_needGame (k := 8) rfl (by decide) hb nX8_needGame ⟨pX8_needGame, Nat.le_of_ble_eq_true rfl, by decide, Nat.le_of_ble_eq_true rfl, by decide, by decide⟩ (c_X8_needGame hb hc hc2 hm1 hm) (fun v9 B9 hC => ?_) (fun E9 B9 hC => absurd hC.1 (by simp))
  obtain ⟨hv9, e9⟩ := hC
  cases hv9
  refine xx_cst (st2 := []) rfl ?_
  rw [e9]
  refine xx_aload_n dX8_round_4 rfl ?_
  refine xx_get xx_c8 dX8_round_5 wf_X8_16 (j := 1) (by decide) hb rfl ?_
  refine xx_iconst (v := 0) dX8_round_8 (by decide) ?_
  refine xx_aald (kd := 14) (b := b + 3) dX8_round_9 (by decide) rfl pa1 (by unfold vp_in; decide) (pa2 0 (by decide)) ?_
  refine xx_aload_n dX8_round_10 rfl ?_
  refine xx_get xx_c8 dX8_round_11 wf_X8_27 (j := 3) (by decide) hb rfl ?_
  refine xx_iconst (v := 0) dX8_round_14 (by decide) ?_
  refine xx_iald dX8_round_15 f1 (by unfold vp_in; decide) ?_
  refine xx_eqi (y := nI (th9 0)) (f2 0 (by decide)) ?_
  refine xx_aload_n dX8_round_16 rfl ?_
  refine xx_get xx_c8 dX8_round_17 wf_X8_27 (j := 3) (by decide) hb rfl ?_
  refine xx_iconst (v := 1) dX8_round_20 (by decide) ?_
  refine xx_iald dX8_round_21 f1 (by unfold vp_in; decide) ?_
  refine xx_eqi (y := nI (th9 1)) (f2 1 (by decide)) ?_
  refine xx_callV (N := mX4_dominated) (vs := [.int (nI (th9 0)), .int (nI (th9 1))]) (b := (b + 3)) (rest := []) (d2 := 1) (c2 := 0) (s2 := 0) (c3 := 0) (s3 := 0) dX8_round_22 wm_X8_247 wi_X4_dominated wv_X4_dominated (k := 4) rfl (by decide) po0.1 nX4_dominated ⟨pX4_dominated, Nat.le_of_ble_eq_true rfl, by decide, Nat.le_of_ble_eq_true rfl, by decide, by decide⟩ (c_X4_dominated (own := th9 0) (ob := th9 1) po0 (h64 0 (by decide)) (h64 1 (by decide))) (fun v9 B9 hC => ?_) (fun E9 B9 hC => absurd hC.1 (by simp))
  obtain ⟨hv9, e9⟩ := hC
  cases hv9
  refine xx_cst (st2 := [.int (nI (yr_g m n W th9 0))]) rfl ?_
  rw [e9]
  refine xx_istore_n dX8_round_25 (by decide) ?_
  refine xx_clv (lv2 := [(0, .ref b), (1, .int (nI (yr_g m n W th9 0)))]) rfl ?_
  refine xx_aload_n dX8_round_26 rfl ?_
  refine xx_get xx_c8 dX8_round_27 wf_X8_16 (j := 1) (by decide) hb rfl ?_
  refine xx_iconst (v := 1) dX8_round_30 (by decide) ?_
  refine xx_aald (kd := 14) (b := b + 7) dX8_round_31 (by decide) rfl pa1 (by unfold vp_in; decide) (pa2 1 (by decide)) ?_
  refine xx_aload_n dX8_round_32 rfl ?_
  refine xx_get xx_c8 dX8_round_33 wf_X8_27 (j := 3) (by decide) hb rfl ?_
  refine xx_iconst (v := 1) dX8_round_36 (by decide) ?_
  refine xx_iald dX8_round_37 f1 (by unfold vp_in; decide) ?_
  refine xx_eqi (y := nI (th9 1)) (f2 1 (by decide)) ?_
  refine xx_aload_n dX8_round_38 rfl ?_
  refine xx_get xx_c8 dX8_round_39 wf_X8_27 (j := 3) (by decide) hb rfl ?_
  refine xx_iconst (v := 0) dX8_round_42 (by decide) ?_
  refine xx_iald dX8_round_43 f1 (by unfold vp_in; decide) ?_
  refine xx_eqi (y := nI (th9 0)) (f2 0 (by decide)) ?_
  refine xx_callV (N := mX4_dominated) (vs := [.int (nI (th9 1)), .int (nI (th9 0))]) (b := (b + 7)) (rest := []) (d2 := 1) (c2 := 0) (s2 := 0) (c3 := 0) (s3 := 0) dX8_round_44 wm_X8_247 wi_X4_dominated wv_X4_dominated (k := 4) rfl (by decide) po1.1 nX4_dominated ⟨pX4_dominated, Nat.le_of_ble_eq_true rfl, by decide, Nat.le_of_ble_eq_true rfl, by decide, by decide⟩ (c_X4_dominated (own := th9 1) (ob := th9 0) po1 (h64 1 (by decide)) (h64 0 (by decide))) (fun v9 B9 hC => ?_) (fun E9 B9 hC => absurd hC.1 (by simp))
  obtain ⟨hv9, e9⟩ := hC
  cases hv9
  refine xx_cst (st2 := [.int (nI (yr_g m n W th9 1))]) rfl ?_
  rw [e9]
  refine xx_istore_n dX8_round_47 (by decide) ?_
  refine xx_clv (lv2 := [(0, .ref b), (1, .int (nI (yr_g m n W th9 0))), (2, .int (nI (yr_g m n W th9 1)))]) rfl ?_
  refine xx_aload_n dX8_round_48 rfl ?_
  refine xx_get xx_c8 dX8_round_49 wf_X8_27 (j := 3) (by decide) hb rfl ?_
  refine xx_iconst (v := 0) dX8_round_52 (by decide) ?_
  refine xx_dup2_11 dX8_round_53 rfl rfl ?_
  refine xx_iald dX8_round_54 f1 (by unfold vp_in; decide) ?_
  refine xx_eqi (y := nI (th9 0)) (f2 0 (by decide)) ?_
  refine xx_iload_n dX8_round_55 rfl ?_
  refine xx_iconst (v := (-1)) dX8_round_56 (by decide) ?_
  refine xx_ixor dX8_round_57 ?_
  refine xx_iand dX8_round_58 ?_
  refine xx_eqi (y := nI (yr_tn m n W th9 0)) (yb_dif _ (h64 0 (by decide)) _ g0) ?_
  refine xx_iast dX8_round_59 f1 (by unfold vp_in; decide) (xx_gu fun Eq1 z1 h1 o1 => ?_)
  have h1 : Eq1.2 (b + 18) = xx_i 2 (upd f 0 (nI (yr_tn m n W th9 0))) := h1
  have hb2 := (o1 b (by omega)).trans hb
  refine xx_aload_n dX8_round_60 rfl ?_
  refine xx_get xx_c8 dX8_round_61 wf_X8_27 (j := 3) (by decide) hb2 rfl ?_
  refine xx_iconst (v := 1) dX8_round_64 (by decide) ?_
  refine xx_dup2_11 dX8_round_65 rfl rfl ?_
  refine xx_iald dX8_round_66 h1 (by unfold vp_in; decide) ?_
  refine xx_eqi (y := nI (th9 1)) ((pk_un (by decide)).trans (f2 1 (by decide))) ?_
  refine xx_iload_n dX8_round_67 rfl ?_
  refine xx_iconst (v := (-1)) dX8_round_68 (by decide) ?_
  refine xx_ixor dX8_round_69 ?_
  refine xx_iand dX8_round_70 ?_
  refine xx_eqi (y := nI (yr_tn m n W th9 1)) (yb_dif _ (h64 1 (by decide)) _ g1) ?_
  refine xx_iast dX8_round_71 h1 (by unfold vp_in; decide) (xx_gu fun Eq2 z2 h2 o2 => ?_)
  have h2 : Eq2.2 (b + 18) = xx_i 2 (upd (upd f 0 (nI (yr_tn m n W th9 0))) 1 (nI (yr_tn m n W th9 1))) := h2
  refine xx_iload_n dX8_round_72 rfl ?_
  refine xx_callS (N := mJ6_bitCount) (vs := [.int (nI (yr_g m n W th9 0))]) (rest := []) (d2 := 0) (c2 := 0) (s2 := 0) (c3 := 0) (s3 := 0) dX8_round_73 wm_X8_244 ws_J6_bitCount wz_J6 (by decide) nJ6_bitCount ⟨pJ6_bitCount, Nat.le_of_ble_eq_true rfl, by decide, Nat.le_of_ble_eq_true rfl, by decide, by decide⟩ (c_J6_bitCount g0) (fun v9 B9 hC => ?_) (fun E9 B9 hC => absurd hC.1 (by simp))
  obtain ⟨hv9, e9⟩ := hC
  cases hv9
  refine xx_cst (st2 := [.int (nI (yb_c (yr_g m n W th9 0)))]) rfl ?_
  rw [e9]
  refine xx_iload_n dX8_round_76 rfl ?_
  refine xx_callS (N := mJ6_bitCount) (vs := [.int (nI (yr_g m n W th9 1))]) (rest := [.int (nI (yb_c (yr_g m n W th9 0)))]) (d2 := 0) (c2 := 0) (s2 := 0) (c3 := 0) (s3 := 0) dX8_round_77 wm_X8_244 ws_J6_bitCount wz_J6 (by decide) nJ6_bitCount ⟨pJ6_bitCount, Nat.le_of_ble_eq_true rfl, by decide, Nat.le_of_ble_eq_true rfl, by decide, by decide⟩ (c_J6_bitCount g1) (fun v9 B9 hC => ?_) (fun E9 B9 hC => absurd hC.1 (by simp))
  obtain ⟨hv9, e9⟩ := hC
  cases hv9
  refine xx_cst (st2 := [.int (nI (yb_c (yr_g m n W th9 1))), .int (nI (yb_c (yr_g m n W th9 0)))]) rfl ?_
  rw [e9]
  refine xx_iadd dX8_round_80 ?_
  refine xx_eqi (y := nI (yb_c (yr_g m n W th9 0) + (yb_c (yr_g m n W th9 1)))) (nI_add (yb_c (yr_g m n W th9 0)) (yb_c (yr_g m n W th9 1))) ?_
  refine xx_iret dX8_round_81 rfl ⟨rfl, by omega, ⟨_, h2, fun p hp => ?_⟩, fun q hq => (o2 q hq).trans (o1 q hq)⟩
  rcases (show p = 0 ∨ p = 1 by omega) with z | z
  · rw [z, pk_un (by decide), pk_us]
  · rw [z, pk_us]
