/-! ===== Payoffs.lifted, Table.start ===== -/
/-- a Payoffs at p: its wholes are w, the least le -/
def xx_po (B : xx_H) (p ow ot mu : Nat) (le : Int) (w : Nat → Nat → Int) : Prop := B.2 p = xx_o 4 [.int (nI ow), .int (nI ot), .int (nI mu), .int (iz le), .ref (p + 1), .ref (p + 2), .ref (p + 3)] ∧ ow ≤ 6 ∧ ot ≤ 6 ∧ (∃ f, B.2 (p + 3) = xx_i 36 f ∧ ∀ i, i < ow → ∀ j, j < ot → f (i * 6 + j) = iz (w i j)) ∧ (∀ i, i < ow → ∀ j, j < ot → (w i j).natAbs ≤ 277172280) ∧ le.natAbs ≤ 277172280
theorem xx_po.to {B C : xx_H} {p ow ot mu : Nat} {le : Int} {w : Nat → Nat → Int} (h : xx_po B p ow ot mu le w) (h0 : C.2 p = B.2 p) (h3 : C.2 (p + 3) = B.2 (p + 3)) : xx_po C p ow ot mu le w := by
  obtain ⟨a1, a2, a3, ⟨f, a4, a5⟩, a6⟩ := h
  exact ⟨h0.trans a1, a2, a3, ⟨f, h3.trans a4, a5⟩, a6⟩
set_option maxRecDepth 100000 in
theorem c_X4_lifted {G : xx_G} {l : Launch} {A : xx_H} {p ow ot mu i j : Nat} {le : Int} {w : Nat → Nat → Int} (h : xx_po A p ow ot mu le w) (hi : i < ow) (hj : j < ot) : xx_X G l mX4_lifted 0 0 0 0 (lv_args 0 [.ref p, .int (nI i), .int (nI j)]) [] A (fun z B => z = .inl (some (.int (iz (1 + w i j - le)))) ∧ B = A) := by
  obtain ⟨ob, o6, t6, ⟨f, f1, f2⟩, wb, lb⟩ := h
  refine xx_clv (lv2 := [(0, .ref p), (1, .int (nI i)), (2, .int (nI j))]) rfl ?_
  refine xx_iconst (v := 1) dX4_lifted_0 (by decide) ?_
  refine xx_aload_n dX4_lifted_1 rfl ?_
  refine xx_get xx_c4 dX4_lifted_2 wf_X4_31 (j := 6) (by decide) ob rfl ?_
  refine xx_iload_n dX4_lifted_5 rfl ?_
  refine xx_bipush (v := 6) dX4_lifted_6 (by decide) ?_
  refine xx_imul dX4_lifted_8 ?_
  refine xx_eqi (y := nI (i * 6)) (pk_mul i 6) ?_
  refine xx_iload_n dX4_lifted_9 rfl ?_
  refine xx_iadd dX4_lifted_10 ?_
  refine xx_eqi (y := nI (i * 6 + j)) (nI_add (i * 6) j) ?_
  refine xx_iald dX4_lifted_11 f1 (vp_in_nI (by omega) (by decide)) ?_
  refine xx_eqi (y := iz (w i j)) (by rw [nI_clamp (by omega)]; exact f2 i hi j hj) ?_
  refine xx_iadd dX4_lifted_12 ?_
  refine xx_eqi (y := iz (1 + w i j)) (iz_add 1 (w i j)) ?_
  refine xx_aload_n dX4_lifted_13 rfl ?_
  refine xx_get xx_c4 dX4_lifted_14 wf_X4_21 (j := 3) (by decide) ob rfl ?_
  refine xx_isub dX4_lifted_17 ?_
  refine xx_eqi (y := iz (1 + w i j - le)) (iz_sub _ _) ?_
  exact xx_iret dX4_lifted_18 rfl ⟨rfl, rfl⟩
/-- a Table whose labels are being laid -/
def xx_tm (B : xx_H) (t R C fl : Nat) (P : Nat → Nat) (V : Nat → Int) (f g : Nat → Int32) : Prop := B.2 t = xx_o 5 [.int (nI R), .int (nI C), .int (nI fl), .ref (t + 1), .ref (t + 2), .ref (t + 3), .ref (P 42), .ref (t + 90), .ref (t + 92), .ref (t + 94)] ∧ B.2 (t + 1) = xx_i 6 f ∧ B.2 (t + 2) = xx_i 6 g ∧ (∃ h, B.2 (t + 3) = xx_r 10 42 h ∧ ∀ i, i < 42 → h i = some (P i)) ∧ (∀ i, i < 43 → t + 4 ≤ P i ∧ P i < t + 90 ∧ (P i + t) % 2 = 0) ∧ (∀ i j, i < 43 → j < 43 → P i = P j → i = j) ∧ (∀ i, i < 43 → xx_bg B (P i) (V i)) ∧ (∃ s, xx_bg B (t + 90) s) ∧ (∃ s, xx_bg B (t + 92) s) ∧ ∃ c, xx_dw B (t + 94) c
theorem xx_tm.cell {A B : xx_H} {t R C fl : Nat} {P : Nat → Nat} {V : Nat → Int} {f g : Nat → Int32} (H : xx_tm A t R C fl P V f g) {k : Nat} {v : Int} (hk : k < 43) (hv : xx_bg B (P k) v) (hq : ∀ q, q ≠ P k → q ≠ P k + 1 → B.2 q = A.2 q) : xx_tm B t R C fl P (yy_un V k v) f g := by
  obtain ⟨ob, h1, h2, ⟨hc, hc1, hc2⟩, rng, inj, big, ⟨ls, lef⟩, ⟨rs, rig⟩, ⟨dc, dvd⟩⟩ := H
  obtain ⟨b1, b2, b3⟩ := rng k hk
  refine ⟨(hq _ (by omega) (by omega)).trans ob, (hq _ (by omega) (by omega)).trans h1, (hq _ (by omega) (by omega)).trans h2, ⟨hc, (hq _ (by omega) (by omega)).trans hc1, hc2⟩, rng, inj, fun i hi => ?_, ⟨ls, lef.to (hq _ (by omega) (by omega)) (hq _ (by omega) (by omega))⟩, ⟨rs, rig.to (hq _ (by omega) (by omega)) (hq _ (by omega) (by omega))⟩, ⟨dc, dvd.to (fun q a1 a2 => hq q (by omega) (by omega))⟩⟩
  by_cases e : i = k
  · subst e; rw [yy_un_s]; exact hv
  · rw [yy_un_n e]
    obtain ⟨a1, a2, a3⟩ := rng i hi
    have hne : P i ≠ P k := fun q => e (inj i k hi hk q)
    exact (big i hi).to (hq _ hne (by omega)) (hq _ (by omega) (by omega))
theorem xx_tm.row {A B : xx_H} {t R C fl : Nat} {P : Nat → Nat} {V : Nat → Int} {f g f2 g2 : Nat → Int32} (H : xx_tm A t R C fl P V f g) (h1 : B.2 (t + 1) = xx_i 6 f2) (h2 : B.2 (t + 2) = xx_i 6 g2) (hq : ∀ q, q ≠ t + 1 → q ≠ t + 2 → B.2 q = A.2 q) : xx_tm B t R C fl P V f2 g2 := by
  obtain ⟨ob, _, _, ⟨hc, hc1, hc2⟩, rng, inj, big, ⟨ls, lef⟩, ⟨rs, rig⟩, ⟨dc, dvd⟩⟩ := H
  refine ⟨(hq _ (by omega) (by omega)).trans ob, h1, h2, ⟨hc, (hq _ (by omega) (by omega)).trans hc1, hc2⟩, rng, inj, fun i hi => ?_, ⟨ls, lef.to (hq _ (by omega) (by omega)) (hq _ (by omega) (by omega))⟩, ⟨rs, rig.to (hq _ (by omega) (by omega)) (hq _ (by omega) (by omega))⟩, ⟨dc, dvd.to (fun q a1 a2 => hq q (by omega) (by omega))⟩⟩
  obtain ⟨a1, a2, a3⟩ := rng i hi
  exact (big i hi).to (hq _ (by omega) (by omega)) (hq _ (by omega) (by omega))
theorem yy_l200 {v : Int} (h : v.natAbs ≤ 2147483648) : v.natAbs < 2 ^ 200 := Nat.lt_of_le_of_lt h (by decide +kernel)
set_option maxRecDepth 100000 in
theorem l_X5_si {G : xx_G} {l : Launch} {A : xx_H} {t p ow ot mu RL CL : Nat} {le : Int} {w : Nat → Nat → Int} {P : Nat → Nat} {i : Nat} {f g : Nat → Int32} {Q : Option Value ⊕ String → xx_H → Prop} (hp : xx_po A p ow ot mu le w) (dj : p + 4 ≤ t ∨ t + 103 ≤ p) (hi : i < ow) (k : ∀ (B : xx_H) (V : Nat → Int), B.1 = A.1 → xx_tm B t ow ot RL P V f g → (∀ k, k < i → ∀ c, c < ot → V (k * 7 + c) = 1 + w k c - le) → (∀ k, k < i → V (k * 7 + 6) = 1) → V 42 = 1 → (∀ i, i < 43 → (V i).natAbs < 2 ^ 200) → (∀ c, c < ot → V (i * 7 + c) = 1 + w i c - le) → (∀ z, (z < t ∨ t + 103 ≤ z) → B.2 z = A.2 z) → xx_X G l mX5_start 3 0 0 95 [(0, .ref t), (1, .ref p), (2, .int (nI RL)), (3, .int (nI CL)), (4, .int (nI i))] [] B Q) :
    ∀ (n j : Nat), j + n = ot → ∀ (B : xx_H) (V : Nat → Int), B.1 = A.1 → xx_tm B t ow ot RL P V f g → (∀ k, k < i → ∀ c, c < ot → V (k * 7 + c) = 1 + w k c - le) → (∀ k, k < i → V (k * 7 + 6) = 1) → V 42 = 1 → (∀ i, i < 43 → (V i).natAbs < 2 ^ 200) → (∀ c, c < j → V (i * 7 + c) = 1 + w i c - le) → (∀ z, (z < t ∨ t + 103 ≤ z) → B.2 z = A.2 z) → xx_X G l mX5_start 3 0 0 55 [(0, .ref t), (1, .ref p), (2, .int (nI RL)), (3, .int (nI CL)), (4, .int (nI i)), (5, .int (nI j))] [] B Q := by
  intro n
  have o6 := hp.2.1
  have t6 := hp.2.2.1
  induction n with
  | zero =>
    intro j hj B V y1 H y3 y4 y5 y6 y7 y8
    have : j = ot := by omega
    subst this
    obtain ⟨ob, h1, h2, ⟨hc, hc1, hc2⟩, rng, inj, big, lef, rig, dvd⟩ := id H
    refine xx_iload dX5_start_55 rfl ?_
    refine xx_aload_n dX5_start_57 rfl ?_
    refine xx_get xx_c5 dX5_start_58 wf_X5_15 (j := 1) (by decide) ob rfl ?_
    refine xx_icmp_ge (tgt := 95) dX5_start_61 (by decide) (fun j61 => ?_) (fun h => absurd (Int32.le_refl _) h)
    refine xx_less [0, 1, 2, 3, 4] ?_
    refine xx_clv (lv2 := [(0, .ref t), (1, .ref p), (2, .int (nI RL)), (3, .int (nI CL)), (4, .int (nI i))]) rfl ?_
    exact k B V y1 H y3 y4 y5 y6 y7 y8
  | succ n ih =>
    intro j hj B V y1 H y3 y4 y5 y6 y7 y8
    obtain ⟨ob, h1, h2, ⟨hc, hc1, hc2⟩, rng, inj, big, lef, rig, dvd⟩ := id H
    have hp2 := hp.to (y8 p (by omega)) (y8 (p + 3) (by omega))
    have wb := hp.2.2.2.2.1 i hi j (by omega)
    have lb := hp.2.2.2.2.2
    obtain ⟨ra, rb, rc⟩ := rng (i * 7 + j) (by omega)
    obtain ⟨fb, lb2, bo, _⟩ := id (big (i * 7 + j) (by omega))
    obtain ⟨po, _⟩ := id hp2
    refine xx_iload dX5_start_55 rfl ?_
    refine xx_aload_n dX5_start_57 rfl ?_
    refine xx_get xx_c5 dX5_start_58 wf_X5_15 (j := 1) (by decide) ob rfl ?_
    refine xx_icmp_ge (tgt := 95) dX5_start_61 (by decide) (fun h => absurd h (nI_ge (by omega) (by omega))) (fun j61 => ?_)
    refine xx_aload_n dX5_start_64 rfl ?_
    refine xx_get xx_c5 dX5_start_65 wf_X5_32 (j := 5) (by decide) ob rfl ?_
    refine xx_iload dX5_start_68 rfl ?_
    refine xx_bipush (v := 7) dX5_start_70 (by decide) ?_
    refine xx_imul dX5_start_72 ?_
    refine xx_eqi (y := nI (i * 7)) (pk_mul i 7) ?_
    refine xx_iload dX5_start_73 rfl ?_
    refine xx_iadd dX5_start_75 ?_
    refine xx_eqi (y := nI (i * 7 + j)) (nI_add (i * 7) j) ?_
    refine xx_aald (kd := 10) (b := P (i * 7 + j)) dX5_start_76 (by decide) rfl hc1 (vp_in_nI (by omega) (by decide)) (by rw [nI_clamp (by omega)]; exact hc2 _ (by omega)) ?_
    refine xx_aload_n dX5_start_77 rfl ?_
    refine xx_iload dX5_start_78 rfl ?_
    refine xx_iload dX5_start_80 rfl ?_
    refine xx_callV (N := mX4_lifted) (vs := [.int (nI i), .int (nI j)]) (b := p) (rest := [.ref (P (i * 7 + j))]) (d2 := 0) (c2 := 0) (s2 := 0) (c3 := 0) (s3 := 0) dX5_start_82 wm_X5_68 wi_X4_lifted wv_X4_lifted (k := 4) rfl (by decide) po nX4_lifted ⟨pX4_lifted, Nat.le_of_ble_eq_true rfl, by decide, Nat.le_of_ble_eq_true rfl, by decide, by decide⟩ (c_X4_lifted hp2 hi (show j < ot by omega)) (fun v9 B9 hC => ?_) (fun E9 B9 hC => absurd hC.1 (by simp))
    obtain ⟨hv9, e9⟩ := hC
    cases hv9
    refine xx_cst (st2 := [.int (iz (1 + w i j - le)), .ref (P (i * 7 + j))]) rfl ?_
    rw [e9]
    refine xx_i2l dX5_start_85 ?_
    refine xx_eql (y := lz (1 + w i j - le)) (iz_l (by omega) (by omega)) ?_
    refine xx_callV (N := mX0_setTo) (vs := [.long (lz (1 + w i j - le))]) (b := (P (i * 7 + j))) (rest := []) (d2 := 1) (c2 := 0) (s2 := 0) (c3 := 0) (s3 := 0) dX5_start_86 wm_X5_64 wi_X0_setTo wv_X0_setTo (k := 0) rfl (by decide) bo nX0_setTo ⟨pX0_setTo, Nat.le_of_ble_eq_true rfl, by decide, Nat.le_of_ble_eq_true rfl, by decide, by decide⟩ (c_setTo (v := 1 + w i j - le) (big (i * 7 + j) (by omega)) (by omega) (by omega)) (fun v9 D hC => ?_) (fun E9 B9 hC => absurd hC.1 (by simp))
    obtain ⟨hv8, k1, k2, k3⟩ := hC
    cases hv8
    refine xx_cst (st2 := []) rfl ?_
    refine xx_iinc (v := nI (j + 1)) dX5_start_89 rfl (nI_1 j) (by decide) ?_
    refine xx_goto (tgt := 55) dX5_start_92 (by decide) ?_
    refine xx_clv (lv2 := [(0, .ref t), (1, .ref p), (2, .int (nI RL)), (3, .int (nI CL)), (4, .int (nI i)), (5, .int (nI (j + 1)))]) rfl ?_
    refine ih (j + 1) (by omega) D _ (by omega) (H.cell (by omega) k2 k3) (fun k9 a c b9 => (yy_un_n (by omega)).trans (y3 k9 a c b9)) (fun k9 a => (yy_un_n (by omega)).trans (y4 k9 a)) ((yy_un_n (by omega)).trans y5) (fun q hq => ?_) (fun c hc9 => ?_) (fun z hz => (k3 z (by omega) (by omega)).trans (y8 z hz))
    · by_cases e : q = i * 7 + j
      · rw [e, yy_un_s]; exact yy_l200 (by omega)
      · rw [yy_un_n e]; exact y6 q hq
    · by_cases e : c = j
      · rw [e, yy_un_s]
      · rw [yy_un_n (by omega)]; exact y7 c (by omega)
set_option maxRecDepth 100000 in
theorem l_X5_so {G : xx_G} {l : Launch} {A : xx_H} {t p ow ot mu RL CL : Nat} {le : Int} {w : Nat → Nat → Int} {P : Nat → Nat} {g : Nat → Int32} {Q : Option Value ⊕ String → xx_H → Prop} (hp : xx_po A p ow ot mu le w) (dj : p + 4 ≤ t ∨ t + 103 ≤ p) (hRL : RL < 90) (k : ∀ (B : xx_H) (V : Nat → Int) (f : Nat → Int32), B.1 = A.1 → xx_tm B t ow ot RL P V f g → (∀ k, k < ow → ∀ c, c < ot → V (k * 7 + c) = 1 + w k c - le) → (∀ k, k < ow → V (k * 7 + 6) = 1) → V 42 = 1 → (∀ i, i < 43 → (V i).natAbs < 2 ^ 200) → (∀ j, j < ow → f j = nI (RL + j)) → (∀ z, (z < t ∨ t + 103 ≤ z) → B.2 z = A.2 z) → xx_X G l mX5_start 3 0 0 118 [(0, .ref t), (3, .int (nI CL))] [] B Q) :
    ∀ (n i : Nat), i + n = ow → ∀ (B : xx_H) (V : Nat → Int) (f : Nat → Int32), B.1 = A.1 → xx_tm B t ow ot RL P V f g → (∀ k, k < i → ∀ c, c < ot → V (k * 7 + c) = 1 + w k c - le) → (∀ k, k < i → V (k * 7 + 6) = 1) → V 42 = 1 → (∀ i, i < 43 → (V i).natAbs < 2 ^ 200) → (∀ j, j < i → f j = nI (RL + j)) → (∀ z, (z < t ∨ t + 103 ≤ z) → B.2 z = A.2 z) → xx_X G l mX5_start 3 0 0 32 [(0, .ref t), (1, .ref p), (2, .int (nI RL)), (3, .int (nI CL)), (4, .int (nI i))] [] B Q := by
  intro n
  have o6 := hp.2.1
  have t6 := hp.2.2.1
  induction n with
  | zero =>
    intro i hi B V f y1 H y3 y4 y5 y6 y7 y8
    have : i = ow := by omega
    subst this
    obtain ⟨ob, h1, h2, ⟨hc, hc1, hc2⟩, rng, inj, big, lef, rig, dvd⟩ := id H
    refine xx_iload dX5_start_32 rfl ?_
    refine xx_aload_n dX5_start_34 rfl ?_
    refine xx_get xx_c5 dX5_start_35 wf_X5_9 (j := 0) (by decide) ob rfl ?_
    refine xx_icmp_ge (tgt := 118) dX5_start_38 (by decide) (fun j38 => ?_) (fun h => absurd (Int32.le_refl _) h)
    refine xx_less [0, 3] ?_
    refine xx_clv (lv2 := [(0, .ref t), (3, .int (nI CL))]) rfl ?_
    exact k B V f y1 H y3 y4 y5 y6 y7 y8
  | succ n ih =>
    intro i hi B V f y1 H y3 y4 y5 y6 y7 y8
    obtain ⟨ob, h1, h2, ⟨hc, hc1, hc2⟩, rng, inj, big, lef, rig, dvd⟩ := id H
    refine xx_iload dX5_start_32 rfl ?_
    refine xx_aload_n dX5_start_34 rfl ?_
    refine xx_get xx_c5 dX5_start_35 wf_X5_9 (j := 0) (by decide) ob rfl ?_
    refine xx_icmp_ge (tgt := 118) dX5_start_38 (by decide) (fun h => absurd h (nI_ge (by omega) (by omega))) (fun j38 => ?_)
    refine xx_aload_n dX5_start_41 rfl ?_
    refine xx_get xx_c5 dX5_start_42 wf_X5_21 (j := 3) (by decide) ob rfl ?_
    refine xx_iload dX5_start_45 rfl ?_
    refine xx_iload_n dX5_start_47 rfl ?_
    refine xx_iload dX5_start_48 rfl ?_
    refine xx_iadd dX5_start_50 ?_
    refine xx_eqi (y := nI (RL + i)) (nI_add RL i) ?_
    refine xx_iast dX5_start_51 h1 (vp_in_nI (by omega) (by decide)) (xx_gu fun D z1 w1 o1 => ?_)
    rw [nI_clamp (by omega)] at w1
    refine xx_iconst (v := 0) dX5_start_52 (by decide) ?_
    refine xx_istore dX5_start_53 (by decide) ?_
    refine xx_clv (lv2 := [(0, .ref t), (1, .ref p), (2, .int (nI RL)), (3, .int (nI CL)), (4, .int (nI i)), (5, .int 0)]) rfl ?_
    refine xx_clv (lv2 := [(0, .ref t), (1, .ref p), (2, .int (nI RL)), (3, .int (nI CL)), (4, .int (nI i)), (5, .int (nI 0))]) rfl ?_
    refine l_X5_si (g := g) hp dj (show i < ow by omega) (fun E V2 u1 H2 u3 u4 u5 u6 u7 u8 => ?_) ot 0 (by omega) D V (by omega) (H.row w1 ((o1 _ (by omega)).trans h2) (fun q a1 a2 => o1 q a1)) y3 y4 y5 y6 (fun c hc9 => absurd hc9 (Nat.not_lt_zero c)) (fun z hz => (o1 z (by omega)).trans (y8 z hz))
    obtain ⟨ob2, h1b, h2b, ⟨hc, hc1b, hc2b⟩, rngb, injb, big2, lef2, rig2, dvd2⟩ := id H2
    obtain ⟨ra, rb, rc⟩ := rngb (i * 7 + 6) (by omega)
    obtain ⟨fb, lb2, bo, _⟩ := id (big2 (i * 7 + 6) (by omega))
    refine xx_aload_n dX5_start_95 rfl ?_
    refine xx_get xx_c5 dX5_start_96 wf_X5_32 (j := 5) (by decide) ob2 rfl ?_
    refine xx_iload dX5_start_99 rfl ?_
    refine xx_bipush (v := 7) dX5_start_101 (by decide) ?_
    refine xx_imul dX5_start_103 ?_
    refine xx_eqi (y := nI (i * 7)) (pk_mul i 7) ?_
    refine xx_bipush (v := 6) dX5_start_104 (by decide) ?_
    refine xx_iadd dX5_start_106 ?_
    refine xx_eqi (y := nI (i * 7 + 6)) (nI_add (i * 7) 6) ?_
    refine xx_aald (kd := 10) (b := P (i * 7 + 6)) dX5_start_107 (by decide) rfl hc1b (vp_in_nI (by omega) (by decide)) (by rw [nI_clamp (by omega)]; exact hc2b _ (by omega)) ?_
    refine xx_lconst (v := 1) dX5_start_108 (by decide) ?_
    refine xx_eql (y := lz 1) (by decide) ?_
    refine xx_callV (N := mX0_setTo) (vs := [.long (lz 1)]) (b := (P (i * 7 + 6))) (rest := []) (d2 := 1) (c2 := 0) (s2 := 0) (c3 := 0) (s3 := 0) dX5_start_109 wm_X5_64 wi_X0_setTo wv_X0_setTo (k := 0) rfl (by decide) bo nX0_setTo ⟨pX0_setTo, Nat.le_of_ble_eq_true rfl, by decide, Nat.le_of_ble_eq_true rfl, by decide, by decide⟩ (c_setTo (v := 1) (big2 (i * 7 + 6) (by omega)) (by decide) (by decide)) (fun v9 F hC => ?_) (fun E9 B9 hC => absurd hC.1 (by simp))
    obtain ⟨hv8, k1, k2, k3⟩ := hC
    cases hv8
    refine xx_cst (st2 := []) rfl ?_
    refine xx_iinc (v := nI (i + 1)) dX5_start_112 rfl (nI_1 i) (by decide) ?_
    refine xx_goto (tgt := 32) dX5_start_115 (by decide) ?_
    refine xx_less [0, 1, 2, 3, 4] ?_
    refine xx_clv (lv2 := [(0, .ref t), (1, .ref p), (2, .int (nI RL)), (3, .int (nI CL)), (4, .int (nI (i + 1)))]) rfl ?_
    refine ih (i + 1) (by omega) F _ _ (by omega) (H2.cell (by omega) k2 k3) (fun k9 a c b9 => ?_) (fun k9 a => ?_) ((yy_un_n (by omega)).trans u5) (fun q hq => ?_) (fun j hj => ?_) (fun z hz => (k3 z (by omega) (by omega)).trans (u8 z hz))
    · rw [yy_un_n (by omega)]
      by_cases e : k9 = i
      · subst e; exact u7 c b9
      · exact u3 k9 (by omega) c b9
    · by_cases e : k9 = i
      · subst e; rw [yy_un_s]
      · rw [yy_un_n (by omega)]; exact u4 k9 (by omega)
    · by_cases e : q = i * 7 + 6
      · rw [e, yy_un_s]; exact yy_l200 (by decide)
      · rw [yy_un_n e]; exact u6 q hq
    · by_cases e : j = i
      · subst e; rw [pk_us]
      · rw [pk_un e]; exact y7 j (by omega)
set_option maxRecDepth 100000 in
theorem l_X5_sc {G : xx_G} {l : Launch} {A : xx_H} {t ow ot RL CL : Nat} {P : Nat → Nat} {V : Nat → Int} {f : Nat → Int32} {Q : Option Value ⊕ String → xx_H → Prop} (ho : ot ≤ 6) (k : ∀ (B : xx_H) (g : Nat → Int32), B.1 = A.1 → xx_tm B t ow ot RL P V f g → (∀ j, j < ot → g j = nI (CL + j)) → (∀ z, z ≠ t + 2 → B.2 z = A.2 z) → Q (.inl none) B) :
    ∀ (n i : Nat), i + n = ot → ∀ (B : xx_H) (g : Nat → Int32), B.1 = A.1 → xx_tm B t ow ot RL P V f g → (∀ j, j < i → g j = nI (CL + j)) → (∀ z, z ≠ t + 2 → B.2 z = A.2 z) → xx_X G l mX5_start 3 0 0 121 [(0, .ref t), (3, .int (nI CL)), (4, .int (nI i))] [] B Q := by
  intro n
  induction n with
  | zero =>
    intro i hi B g y1 H y3 y4
    have : i = ot := by omega
    subst this
    obtain ⟨ob, h1, h2, ⟨hc, hc1, hc2⟩, rng, inj, big, lef, rig, dvd⟩ := id H
    refine xx_iload dX5_start_121 rfl ?_
    refine xx_aload_n dX5_start_123 rfl ?_
    refine xx_get xx_c5 dX5_start_124 wf_X5_15 (j := 1) (by decide) ob rfl ?_
    refine xx_icmp_ge (tgt := 147) dX5_start_127 (by decide) (fun j127 => ?_) (fun h => absurd (Int32.le_refl _) h)
    exact xx_vret dX5_start_147 rfl (k B g y1 H y3 y4)
  | succ n ih =>
    intro i hi B g y1 H y3 y4
    obtain ⟨ob, h1, h2, ⟨hc, hc1, hc2⟩, rng, inj, big, lef, rig, dvd⟩ := id H
    refine xx_iload dX5_start_121 rfl ?_
    refine xx_aload_n dX5_start_123 rfl ?_
    refine xx_get xx_c5 dX5_start_124 wf_X5_15 (j := 1) (by decide) ob rfl ?_
    refine xx_icmp_ge (tgt := 147) dX5_start_127 (by decide) (fun h => absurd h (nI_ge (by omega) (by omega))) (fun j127 => ?_)
    refine xx_aload_n dX5_start_130 rfl ?_
    refine xx_get xx_c5 dX5_start_131 wf_X5_25 (j := 4) (by decide) ob rfl ?_
    refine xx_iload dX5_start_134 rfl ?_
    refine xx_iload_n dX5_start_136 rfl ?_
    refine xx_iload dX5_start_137 rfl ?_
    refine xx_iadd dX5_start_139 ?_
    refine xx_eqi (y := nI (CL + i)) (nI_add CL i) ?_
    refine xx_iast dX5_start_140 h2 (vp_in_nI (by omega) (by decide)) (xx_gu fun D z1 w1 o1 => ?_)
    rw [nI_clamp (by omega)] at w1
    refine xx_iinc (v := nI (i + 1)) dX5_start_141 rfl (nI_1 i) (by decide) ?_
    refine xx_goto (tgt := 121) dX5_start_144 (by decide) ?_
    refine xx_clv (lv2 := [(0, .ref t), (3, .int (nI CL)), (4, .int (nI (i + 1)))]) rfl ?_
    refine ih (i + 1) (by omega) D _ (by omega) (H.row ((o1 _ (by omega)).trans h1) w1 (fun q a1 a2 => o1 q a2)) (fun j hj => ?_) (fun z hz => (o1 z hz).trans (y4 z hz))
    by_cases e : j = i
    · subst e; rw [pk_us]
    · rw [pk_un e]; exact y3 j (by omega)
set_option maxRecDepth 100000 in
theorem c_X5_start {G : xx_G} {l : Launch} {A : xx_H} {t p ow ot mu RL CL : Nat} {le : Int} {w : Nat → Nat → Int} {P : Nat → Nat} {R C fl : Nat} {rl cl : Nat → Nat} {V : Nat → Int} (H : xx_tb A t R C fl rl cl P V) (hV : ∀ i, i < 43 → (V i).natAbs < 2 ^ 200) (hp : xx_po A p ow ot mu le w) (dj : p + 4 ≤ t ∨ t + 103 ≤ p) (hRL : RL < 90) (hCL : CL < 90) : xx_X G l mX5_start 3 0 0 0 (lv_args 0 [.ref t, .ref p, .int (nI RL), .int (nI CL)]) [] A (fun z B => z = .inl none ∧ B.1 = A.1 ∧ (∃ V2, xx_tb B t ow ot RL (fun i => RL + i) (fun i => CL + i) P V2 ∧ (∀ k, k < ow → ∀ c, c < ot → V2 (k * 7 + c) = 1 + w k c - le) ∧ (∀ k, k < ow → V2 (k * 7 + 6) = 1) ∧ V2 42 = 1 ∧ ∀ i, i < 43 → (V2 i).natAbs < 2 ^ 200) ∧ (∀ z, (z < t ∨ t + 103 ≤ z) → B.2 z = A.2 z)) := by
  obtain ⟨ob, r6, c6, ⟨rf, rl1, rl2⟩, ⟨cf, cl1, cl2⟩, rll, cll, fll, ⟨hc, hc1, hc2⟩, rng, inj, big, ⟨ls, lef⟩, ⟨rs, rig⟩, ⟨dc, dvd⟩⟩ := id H
  have o6 := hp.2.1
  have t6 := hp.2.2.1
  obtain ⟨po, _⟩ := id hp
  obtain ⟨ra, rb, rc⟩ := rng 42 (by decide)
  obtain ⟨fb, lb2, bo, _⟩ := id (big 42 (by decide))
  refine xx_clv (lv2 := [(0, .ref t), (1, .ref p), (2, .int (nI RL)), (3, .int (nI CL))]) rfl ?_
  refine xx_aload_n dX5_start_0 rfl ?_
  refine xx_aload_n dX5_start_1 rfl ?_
  refine xx_get xx_c4 dX5_start_2 wf_X5_56 (j := 0) (by decide) po rfl ?_
  refine xx_put xx_c5 dX5_start_5 wf_X5_9 (j := 0) (by decide) rfl rfl rfl ob (Nat.le_of_ble_eq_true rfl) (xx_gu fun A1 z1 h1 o1 => ?_)
  have h1 : A1.2 t = xx_o 5 [.int (nI ow), .int (nI C), .int (nI fl), .ref (t + 1), .ref (t + 2), .ref (t + 3), .ref (P 42), .ref (t + 90), .ref (t + 92), .ref (t + 94)] := h1
  have po_1 := (o1 p (by omega)).trans po
  have bo_1 := (o1 (P 42) (by omega)).trans bo
  refine xx_aload_n dX5_start_8 rfl ?_
  refine xx_aload_n dX5_start_9 rfl ?_
  refine xx_get xx_c4 dX5_start_10 wf_X5_61 (j := 1) (by decide) po_1 rfl ?_
  refine xx_put xx_c5 dX5_start_13 wf_X5_15 (j := 1) (by decide) rfl rfl rfl h1 (Nat.le_of_ble_eq_true rfl) (xx_gu fun A2 z2 h2 o2 => ?_)
  have h2 : A2.2 t = xx_o 5 [.int (nI ow), .int (nI ot), .int (nI fl), .ref (t + 1), .ref (t + 2), .ref (t + 3), .ref (P 42), .ref (t + 90), .ref (t + 92), .ref (t + 94)] := h2
  have po_2 := (o2 p (by omega)).trans po_1
  have bo_2 := (o2 (P 42) (by omega)).trans bo_1
  refine xx_aload_n dX5_start_16 rfl ?_
  refine xx_iload_n dX5_start_17 rfl ?_
  refine xx_put xx_c5 dX5_start_18 wf_X5_18 (j := 2) (by decide) rfl rfl rfl h2 (Nat.le_of_ble_eq_true rfl) (xx_gu fun A3 z3 h3 o3 => ?_)
  have h3 : A3.2 t = xx_o 5 [.int (nI ow), .int (nI ot), .int (nI RL), .ref (t + 1), .ref (t + 2), .ref (t + 3), .ref (P 42), .ref (t + 90), .ref (t + 92), .ref (t + 94)] := h3
  have po_3 := (o3 p (by omega)).trans po_2
  have bo_3 := (o3 (P 42) (by omega)).trans bo_2
  refine xx_aload_n dX5_start_21 rfl ?_
  refine xx_get xx_c5 dX5_start_22 wf_X5_39 (j := 6) (by decide) h3 rfl ?_
  refine xx_lconst (v := 1) dX5_start_25 (by decide) ?_
  refine xx_eql (y := lz 1) (by decide) ?_
  have fr : ∀ z, z ≠ t → A3.2 z = A.2 z := fun z hz => (o3 z hz).trans ((o2 z hz).trans (o1 z hz))
  have big3 : ∀ i, i < 43 → xx_bg A3 (P i) (V i) := fun i hi => by
    obtain ⟨a1, a2, a3⟩ := rng i hi
    exact (big i hi).to (fr _ (by omega)) (fr _ (by omega))
  have tm : xx_tm A3 t ow ot RL P V rf cf := ⟨h3, (fr _ (by omega)).trans rl1, (fr _ (by omega)).trans cl1, ⟨hc, (fr _ (by omega)).trans hc1, hc2⟩, rng, inj, big3, ⟨ls, lef.to (fr _ (by omega)) (fr _ (by omega))⟩, ⟨rs, rig.to (fr _ (by omega)) (fr _ (by omega))⟩, ⟨dc, dvd.to (fun q a1 a2 => fr q (by omega))⟩⟩
  refine xx_callV (N := mX0_setTo) (vs := [.long (lz 1)]) (b := (P 42)) (rest := []) (d2 := 1) (c2 := 0) (s2 := 0) (c3 := 0) (s3 := 0) dX5_start_26 wm_X5_64 wi_X0_setTo wv_X0_setTo (k := 0) rfl (by decide) bo_3 nX0_setTo ⟨pX0_setTo, Nat.le_of_ble_eq_true rfl, by decide, Nat.le_of_ble_eq_true rfl, by decide, by decide⟩ (c_setTo (v := 1) (big3 42 (by decide)) (by decide) (by decide)) (fun v9 D hC => ?_) (fun E9 B9 hC => absurd hC.1 (by simp))
  obtain ⟨hv8, k1, k2, k3⟩ := hC
  cases hv8
  refine xx_cst (st2 := []) rfl ?_
  refine xx_iconst (v := 0) dX5_start_29 (by decide) ?_
  refine xx_istore dX5_start_30 (by decide) ?_
  refine xx_clv (lv2 := [(0, .ref t), (1, .ref p), (2, .int (nI RL)), (3, .int (nI CL)), (4, .int 0)]) rfl ?_
  have fd : ∀ z, (z < t ∨ t + 103 ≤ z) → D.2 z = A.2 z := fun z hz => (k3 z (by omega) (by omega)).trans (fr z (by omega))
  refine xx_clv (lv2 := [(0, .ref t), (1, .ref p), (2, .int (nI RL)), (3, .int (nI CL)), (4, .int (nI 0))]) rfl ?_
  refine l_X5_so (g := cf) hp dj hRL (fun E V2 f2 u1 H2 u3 u4 u5 u6 u7 u8 => ?_) ow 0 (by omega) D _ rf (by omega) (tm.cell (by decide) k2 k3) (fun k9 a => absurd a (Nat.not_lt_zero k9)) (fun k9 a => absurd a (Nat.not_lt_zero k9)) yy_un_s (fun q hq => ?_) (fun j hj => absurd hj (Nat.not_lt_zero j)) fd
  rotate_left
  · by_cases e : q = 42
    · rw [e, yy_un_s]; exact yy_l200 (by decide)
    · rw [yy_un_n e]; exact hV q hq
  refine xx_iconst (v := 0) dX5_start_118 (by decide) ?_
  refine xx_istore dX5_start_119 (by decide) ?_
  refine xx_clv (lv2 := [(0, .ref t), (3, .int (nI CL)), (4, .int 0)]) rfl ?_
  refine xx_clv (lv2 := [(0, .ref t), (3, .int (nI CL)), (4, .int (nI 0))]) rfl ?_
  refine l_X5_sc (A := E) (V := V2) (f := f2) t6 (fun F g2 v1 H3 v3 v4 => ?_) ot 0 (by omega) E cf rfl H2 (fun j hj => absurd hj (Nat.not_lt_zero j)) (fun z _ => rfl)
  obtain ⟨ob9, r9, c9, hc9, rng9, inj9, big9, lef9, rig9, dvd9⟩ := H3
  exact ⟨rfl, by omega, ⟨V2, ⟨ob9, o6, t6, ⟨f2, r9, u7⟩, ⟨g2, c9, v3⟩, fun i hi => by show RL + i < 100; omega, fun i hi => by show CL + i < 100; omega, by omega, hc9, rng9, inj9, big9, lef9, rig9, dvd9⟩, u3, u4, u5, u6⟩, fun z hz => (v4 z (by omega)).trans (u8 z hz)⟩
