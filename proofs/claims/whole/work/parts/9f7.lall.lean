/-! ===== the list: its order ===== -/
abbrev yn_S : Type := Nat × (Nat → Nat) × (Nat → Nat)
def yn_push (st : yn_S) (S U : Nat) : yn_S := (st.1 + 1, yy_u2 st.2.1 st.1 S, yy_u2 st.2.2 st.1 U)
def yn_step (E : Nat → Nat → Bool) (k S : Nat) (st : yn_S) (U : Nat) : yn_S := if st.1 < 100 ∧ yb_c U = k ∧ E S U = true then yn_push st S U else st
def yn_row (E : Nat → Nat → Bool) (k S : Nat) (st : yn_S) : Nat → yn_S
  | 0 => st
  | U + 1 => yn_step E k S (yn_row E k S st U) U
def yn_size (E : Nat → Nat → Bool) (n k : Nat) (st : yn_S) : Nat → yn_S
  | 0 => st
  | S + 1 => if yb_c S = k then yn_row E k S (yn_size E n k st S) (2 ^ n) else yn_size E n k st S
def yn_all (E : Nat → Nat → Bool) (m n : Nat) (st : yn_S) : Nat → yn_S
  | 0 => st
  | k + 1 => yn_size E n (k + 1) (yn_all E m n st k) (2 ^ m)
theorem yn_row_full {E : Nat → Nat → Bool} {k S i : Nat} {st : yn_S} : ∀ {j : Nat}, i ≤ j → 100 ≤ (yn_row E k S st i).1 → yn_row E k S st j = yn_row E k S st i
  | 0, h, _ => by rw [show i = 0 by omega]
  | j + 1, h, hf => by
    by_cases e : i = j + 1
    · rw [e]
    · have ih := yn_row_full (E := E) (k := k) (S := S) (st := st) (j := j) (by omega) hf
      show yn_step E k S (yn_row E k S st j) j = _
      rw [ih]
      exact if_neg (fun q => by omega)
/-- what may be said of every entry -/
def yn_ok (m n : Nat) (E : Nat → Nat → Bool) (st : yn_S) : Prop := st.1 ≤ 100 ∧ ∀ e, e < st.1 → st.2.1 e < 2 ^ m ∧ st.2.2 e < 2 ^ n ∧ yb_c (st.2.2 e) = yb_c (st.2.1 e) ∧ 0 < yb_c (st.2.1 e) ∧ E (st.2.1 e) (st.2.2 e) = true
theorem yn_step_ok {m n k S U : Nat} {E : Nat → Nat → Bool} {st : yn_S} (h : yn_ok m n E st) (hS : S < 2 ^ m) (hk : yb_c S = k) (k0 : 0 < k) (hU : U < 2 ^ n) : yn_ok m n E (yn_step E k S st U) := by
  unfold yn_step
  by_cases z : st.1 < 100 ∧ yb_c U = k ∧ E S U = true
  · rw [if_pos z]
    refine ⟨by show st.1 + 1 ≤ 100; omega, fun e he => ?_⟩
    have he : e < st.1 + 1 := he
    show yy_u2 st.2.1 st.1 S e < 2 ^ m ∧ yy_u2 st.2.2 st.1 U e < 2 ^ n ∧ yb_c (yy_u2 st.2.2 st.1 U e) = yb_c (yy_u2 st.2.1 st.1 S e) ∧ 0 < yb_c (yy_u2 st.2.1 st.1 S e) ∧ E (yy_u2 st.2.1 st.1 S e) (yy_u2 st.2.2 st.1 U e) = true
    unfold yy_u2
    by_cases y : e = st.1
    · rw [if_pos y, if_pos y]; exact ⟨hS, hU, by omega, by omega, z.2.2⟩
    · rw [if_neg y, if_neg y]; exact h.2 e (by omega)
  · rw [if_neg z]; exact h
theorem yn_row_ok {m n k S : Nat} {E : Nat → Nat → Bool} {st : yn_S} (h : yn_ok m n E st) (hS : S < 2 ^ m) (hk : yb_c S = k) (k0 : 0 < k) : ∀ U, U ≤ 2 ^ n → yn_ok m n E (yn_row E k S st U)
  | 0, _ => h
  | U + 1, hU => yn_step_ok (yn_row_ok h hS hk k0 U (by omega)) hS hk k0 (by omega)
theorem yn_size_ok {m n k : Nat} {E : Nat → Nat → Bool} {st : yn_S} (h : yn_ok m n E st) (k0 : 0 < k) : ∀ S, S ≤ 2 ^ m → yn_ok m n E (yn_size E n k st S)
  | 0, _ => h
  | S + 1, hS => by
    show yn_ok m n E (if yb_c S = k then _ else _)
    split
    · rename_i e; exact yn_row_ok (yn_size_ok h k0 S (by omega)) (by omega) e k0 _ (Nat.le_refl _)
    · exact yn_size_ok h k0 S (by omega)
theorem yn_all_ok {m n : Nat} {E : Nat → Nat → Bool} {st : yn_S} (h : yn_ok m n E st) : ∀ k, yn_ok m n E (yn_all E m n st k)
  | 0 => h
  | k + 1 => yn_size_ok (yn_all_ok h k) (by omega) _ (Nat.le_refl _)
/-! ===== what the class keeps of it ===== -/
def yn_a (W : Nat → Nat → Nat → Int) (le : Nat → Int) (p i j : Nat) : Int := 1 + yo_w W p i j - le p
theorem xx_mno.up {B C : xx_H} {p py : Nat} {H9 : (Nat → Int32) → Prop} (h : xx_mno B p py H9) (h3 : ∃ f, C.2 (p + 3) = xx_i 36 f) (h4 : ∃ f, C.2 (p + 4) = xx_i 6 f) (hq : ∀ q, q ≠ p + 3 → q ≠ p + 4 → C.2 q = B.2 q) : xx_mno C p py H9 := by
  obtain ⟨h1, ⟨f, h2, h5⟩, ⟨g, h6, h7⟩, _, _⟩ := h
  exact ⟨(hq _ (by omega) (by omega)).trans h1, ⟨f, (hq _ (by omega) (by omega)).trans h2, h5⟩, ⟨g, (hq _ (by omega) (by omega)).trans h6, h7⟩, h3, h4⟩
/-- both Minors -/
def xx_mns (B : xx_H) (z b : Nat) (H0 H1 : (Nat → Int32) → Prop) : Prop := (∃ h, B.2 z = xx_r 13 2 h ∧ h 0 = some (z + 1) ∧ h 1 = some (z + 7)) ∧ xx_mno B (z + 1) (b + 3) H0 ∧ xx_mno B (z + 7) (b + 7) H1
theorem xx_mns.to {B C : xx_H} {z b : Nat} {H0 H1 : (Nat → Int32) → Prop} (h : xx_mns B z b H0 H1) (hq : ∀ q, z ≤ q → q < z + 12 → C.2 q = B.2 q) : xx_mns C z b H0 H1 := by
  obtain ⟨⟨g, a1, a2⟩, a3, a4⟩ := h
  exact ⟨⟨g, (hq _ (by omega) (by omega)).trans a1, a2⟩, a3.to (fun q c d => hq q (by omega) (by omega)), a4.to (fun q c d => hq q (by omega) (by omega))⟩
def xx_ent (B : xx_H) (b : Nat) (st : yn_S) : Prop := (∃ h, B.2 (b + 230) = xx_r 5 2 h ∧ h 0 = some (b + 231) ∧ h 1 = some (b + 232)) ∧ (∃ f, B.2 (b + 231) = xx_i 100 f ∧ ∀ e, e < st.1 → f e = nI (st.2.1 e)) ∧ ∃ f, B.2 (b + 232) = xx_i 100 f ∧ ∀ e, e < st.1 → f e = nI (st.2.2 e)
theorem xx_ent.to {B C : xx_H} {b : Nat} {st : yn_S} (h : xx_ent B b st) (hq : ∀ q, b + 230 ≤ q → q < b + 233 → C.2 q = B.2 q) : xx_ent C b st := by
  obtain ⟨⟨g, a1, a2⟩, ⟨f, a3, a4⟩, ⟨f2, a5, a6⟩⟩ := h
  exact ⟨⟨g, (hq _ (by omega) (by omega)).trans a1, a2⟩, ⟨f, (hq _ (by omega) (by omega)).trans a3, a4⟩, ⟨f2, (hq _ (by omega) (by omega)).trans a5, a6⟩⟩
theorem yn_a_b {m n : Nat} {W : Nat → Nat → Nat → Int} {le : Nat → Int} (hg : yg_ok m n W le) {p : Nat} (hp : p < 2) : ∀ i, i < yy_cn m n p → ∀ j, j < yy_cn m n (1 - p) → 1 ≤ yn_a W le p i j ∧ (yn_a W le p i j).natAbs ≤ 554344561 := by
  intro i hi j hj
  unfold yn_a yo_w
  have l1 := hg.2.2.2.2.2 p hp
  rcases (show p = 0 ∨ p = 1 by omega) with z | z
  · subst z
    have w1 := hg.2.2.2.2.1 0 (by decide) i hi j hj
    rw [if_pos rfl]; omega
  · subst z
    have w1 := hg.2.2.2.2.1 1 (by decide) j hj i hi
    rw [if_neg (by decide)]; omega
set_option maxRecDepth 100000 in
theorem l_X8_la {G : xx_G} {l : Launch} {A : xx_H} {b z m n : Nat} {u6 u7 u11 : Value} {fc : Nat → Int32} {W : Nat → Nat → Nat → Int} {le : Nat → Int} {mu : Nat → Nat} {E : Nat → Nat → Bool} {S k9 : Nat} {st : yn_S} {Q : Option Value ⊕ String → xx_H → Prop} (hc : A.2 (b + 1) = xx_i 2 fc) (hc2 : ∀ p, p < 2 → fc p = nI (yy_cn m n p)) (hg : yg_ok m n W le) (P : xx_pys A b m n W le mu) (hz : b + 297 ≤ z) (hE : ∀ S, S < 2 ^ m → ∀ U, U < 2 ^ n → yb_c U = yb_c S → (E S U = true ↔ yk_h (yn_a W le 0) m S U ∧ yk_h (yn_a W le 1) n U S)) (hS : S < 2 ^ m) (hk : yb_c S = k9) (k0 : 0 < k9) (hok : yn_ok m n E st) (kC : ∀ (B : xx_H), (B.1 = A.1) → (1 ≤ (2 ^ n)) → (B.2 b = xx_o 8 [.ref (b + 1), .ref (b + 2), .ref (b + 11), .ref (b + 18), .ref (b + 19), .ref (b + 226), u6, u7, .ref z, .ref (b + 230), .int (nI ((yn_row E k9 S st (2 ^ n)).1)), u11, .ref (b + 233), .ref (b + 266), .ref (b + 279), .ref (b + 281), .ref (b + 283), .ref (b + 288)]) → (xx_mns B z b (yk_H (yn_a W le 0) m n) (yk_H (yn_a W le 1) n m)) → (xx_ent B b (yn_row E k9 S st (2 ^ n))) → (∀ q, q ≠ b → q ≠ b + 231 → q ≠ b + 232 → q ≠ z + 4 → q ≠ z + 5 → q ≠ z + 10 → q ≠ z + 11 → B.2 q = A.2 q) → xx_X G l mX8_listAllWith 4 0 0 99 [(0, .ref b)] [] B Q) :
    ∀ (v i : Nat), i + v = 2 ^ n → ∀ (B : xx_H), (B.1 = A.1) → (1 ≤ i) → (B.2 b = xx_o 8 [.ref (b + 1), .ref (b + 2), .ref (b + 11), .ref (b + 18), .ref (b + 19), .ref (b + 226), u6, u7, .ref z, .ref (b + 230), .int (nI ((yn_row E k9 S st i).1)), u11, .ref (b + 233), .ref (b + 266), .ref (b + 279), .ref (b + 281), .ref (b + 283), .ref (b + 288)]) → (xx_mns B z b (yk_H (yn_a W le 0) m n) (yk_H (yn_a W le 1) n m)) → (xx_ent B b (yn_row E k9 S st i)) → (∀ q, q ≠ b → q ≠ b + 231 → q ≠ b + 232 → q ≠ z + 4 → q ≠ z + 5 → q ≠ z + 10 → q ≠ z + 11 → B.2 q = A.2 q) → xx_X G l mX8_listAllWith 4 0 0 2 [(0, .ref b), (1, .int (nI S)), (2, .int (nI k9)), (3, .int (nI i))] [] B Q := by
  have hm1 := hg.1
  have hm := hg.2.1
  have hn1 := hg.2.2.1
  have hn := hg.2.2.2.1
  have mw := yk_pw hm
  have nw := yk_pw hn
  have n1 : 1 ≤ 2 ^ n := Nat.two_pow_pos n
  obtain ⟨⟨hpa, pa1, pa2⟩, po⟩ := id P
  have po0 : xx_po A (b + 3) m n (mu 0) (le 0) (yo_w W 0) := po 0 (by decide)
  have po1 : xx_po A (b + 7) n m (mu 1) (le 1) (yo_w W 1) := po 1 (by decide)
  have ab0 : ∀ i, i < m → ∀ j, j < n → 0 ≤ yn_a W le 0 i j ∧ (yn_a W le 0 i j).natAbs ≤ 554344561 := fun i hi j hj => by have := yn_a_b hg (p := 0) (by decide) i hi j hj; omega
  have ab1 : ∀ i, i < n → ∀ j, j < m → 0 ≤ yn_a W le 1 i j ∧ (yn_a W le 1 i j).natAbs ≤ 554344561 := fun i hi j hj => by have := yn_a_b hg (p := 1) (by decide) i hi j hj; omega
  intro v
  induction v with
  | zero =>
    intro i h9i B y1 y0 yb yM yE y4
    have h9e : 2 ^ n = i := by omega
    subst h9e
    refine xx_clv (lv2 := [(0, .ref b), (1, .int (nI S)), (2, .int (nI k9)), (3, .int (nI (2 ^ n)))]) rfl ?_
    refine xx_iload_n dX8_listAllWith_2 rfl ?_
    refine xx_iconst (v := 1) dX8_listAllWith_3 (by decide) ?_
    refine xx_aload_n dX8_listAllWith_4 rfl ?_
    refine xx_get xx_c8 dX8_listAllWith_5 wf_X8_7 (j := 0) (by decide) yb rfl ?_
    refine xx_iconst (v := 1) dX8_listAllWith_8 (by decide) ?_
    refine xx_iald dX8_listAllWith_9 ((y4 (b + 1) (by omega) (by omega) (by omega) (by omega) (by omega) (by omega) (by omega)).trans hc) (by unfold vp_in; decide) ?_
    refine xx_eqi (y := nI n) (hc2 1 (by decide)) ?_
    refine xx_ishl dX8_listAllWith_10 ?_
    refine xx_eqi (y := nI (2 ^ n)) (yb_1s6 n (by omega)) ?_
    refine xx_icmp_ge (tgt := 99) dX8_listAllWith_11 (by decide) (fun j11 => ?_) (fun h => absurd (Int32.le_refl _) h)
    refine xx_less [0] ?_
    refine xx_clv (lv2 := [(0, .ref b)]) rfl ?_
    exact kC B y1 y0 yb yM yE y4
  | succ v ih =>
    intro i h9i B y1 y0 yb yM yE y4
    have ok9 := yn_row_ok hok hS hk k0 i (by omega)
    have c100 := ok9.1
    refine xx_iload_n dX8_listAllWith_2 rfl ?_
    refine xx_iconst (v := 1) dX8_listAllWith_3 (by decide) ?_
    refine xx_aload_n dX8_listAllWith_4 rfl ?_
    refine xx_get xx_c8 dX8_listAllWith_5 wf_X8_7 (j := 0) (by decide) yb rfl ?_
    refine xx_iconst (v := 1) dX8_listAllWith_8 (by decide) ?_
    refine xx_iald dX8_listAllWith_9 ((y4 (b + 1) (by omega) (by omega) (by omega) (by omega) (by omega) (by omega) (by omega)).trans hc) (by unfold vp_in; decide) ?_
    refine xx_eqi (y := nI n) (hc2 1 (by decide)) ?_
    refine xx_ishl dX8_listAllWith_10 ?_
    refine xx_eqi (y := nI (2 ^ n)) (yb_1s6 n (by omega)) ?_
    refine xx_icmp_ge (tgt := 99) dX8_listAllWith_11 (by decide) (fun h => absurd h (nI_ge (a := i) (b := 2 ^ n) (by omega) (by omega))) (fun j11 => ?_)
    refine xx_aload_n dX8_listAllWith_14 rfl ?_
    refine xx_get xx_c8 dX8_listAllWith_15 wf_X8_56 (j := 10) (by decide) yb rfl ?_
    refine xx_bipush (v := 100) dX8_listAllWith_18 (by decide) ?_
    refine xx_icmp_ge (tgt := 99) dX8_listAllWith_20 (by decide) (fun j20 => ?_) (fun j20 => ?_)
    · have j20 : 100 ≤ (yn_row E k9 S st i).1 := (nI_leI (a := 100) (b := (yn_row E k9 S st i).1) (by omega) (by omega)).mp j20
      have ff : yn_row E k9 S st (2 ^ n) = yn_row E k9 S st i := yn_row_full (by omega) j20
      rw [← ff] at yb yE
      refine xx_less [0] ?_
      refine xx_clv (lv2 := [(0, .ref b)]) rfl ?_
      exact kC B y1 n1 yb yM yE y4
    · have j20 : ¬ 100 ≤ (yn_row E k9 S st i).1 := fun hq9 => j20 ((nI_leI (a := 100) (b := (yn_row E k9 S st i).1) (by omega) (by omega)).mpr hq9)
      refine xx_iload_n dX8_listAllWith_23 rfl ?_
      refine xx_callS (N := mJ6_bitCount) (vs := [.int (nI i)]) (rest := []) (d2 := 0) (c2 := 0) (s2 := 0) (c3 := 0) (s3 := 0) dX8_listAllWith_24 wm_X8_244 ws_J6_bitCount wz_J6 (by decide) nJ6_bitCount ⟨pJ6_bitCount, Nat.le_of_ble_eq_true rfl, by decide, Nat.le_of_ble_eq_true rfl, by decide, by decide⟩ (c_J6_bitCount (a := i) (by omega)) (fun v9 B9 hC => ?_) (fun E9 B9 hC => absurd hC.1 (by simp))
      obtain ⟨hv9, e9⟩ := hC
      cases hv9
      refine xx_cst (st2 := [.int (nI (yb_c i))]) rfl ?_
      rw [e9]
      have ci := yb_c6 i (by omega)
      have cS := yb_c6 S (by omega)
      refine xx_iload_n dX8_listAllWith_27 rfl ?_
      refine xx_icmp_ne (tgt := 93) dX8_listAllWith_28 (by decide) (fun j28 => ?_) (fun j28 => ?_)
      · have j28 : ¬ yb_c i = k9 := fun hq9 => j28 ((nI_eq (a := yb_c i) (b := k9) (by omega) (by omega)).mpr hq9)
        have st9 : yn_row E k9 S st (i + 1) = yn_row E k9 S st i := if_neg (fun q => j28 q.2.1)
        rw [← st9] at yb yE
        refine xx_iinc (v := nI (i + 1)) dX8_listAllWith_93 rfl (nI_1 i) (by decide) ?_
        refine xx_clv (lv2 := [(0, .ref b), (1, .int (nI S)), (2, .int (nI k9)), (3, .int (nI (i + 1)))]) rfl ?_
        refine xx_goto (tgt := 2) dX8_listAllWith_96 (by decide) ?_
        refine xx_less [0, 1, 2, 3] ?_
        refine xx_clv (lv2 := [(0, .ref b), (1, .int (nI S)), (2, .int (nI k9)), (3, .int (nI (i + 1)))]) rfl ?_
        refine ih (i + 1) (by omega) B y1 (by omega) yb yM yE y4
      · have j28 : yb_c i = k9 := (nI_eq (a := yb_c i) (b := k9) (by omega) (by omega)).mp j28
        refine xx_aload_n dX8_listAllWith_31 rfl ?_
        refine xx_get xx_c8 dX8_listAllWith_32 wf_X8_49 (j := 8) (by decide) yb rfl ?_
        refine xx_iconst (v := 0) dX8_listAllWith_35 (by decide) ?_
        obtain ⟨⟨hm9, mA, mB, mC⟩, H0, H1⟩ := id yM
        refine xx_aald (kd := 13) (b := z + 1) dX8_listAllWith_36 (by decide) rfl mA (by unfold vp_in; decide) (mB) ?_
        refine xx_iload_n dX8_listAllWith_37 rfl ?_
        refine xx_iload_n dX8_listAllWith_38 rfl ?_
        have obj0 := H0.1
        refine xx_callV (N := mX3_holds) (vs := [.int (nI S), .int (nI i)]) (b := (z + 1)) (rest := []) (d2 := 3) (c2 := 0) (s2 := 0) (c3 := 0) (s3 := 0) dX8_listAllWith_39 wm_X8_288 wi_X3_holds wv_X3_holds (k := 3) rfl (by decide) obj0 nX3_holds ⟨pX3_holds, Nat.le_of_ble_eq_true rfl, by decide, Nat.le_of_ble_eq_true rfl, by decide, by decide⟩ (c_X3_holds (S := S) (U := i) H0 hm hn hS (by omega) (by omega) (po0.to (y4 _ (by omega) (by omega) (by omega) (by omega) (by omega) (by omega) (by omega)) (y4 _ (by omega) (by omega) (by omega) (by omega) (by omega) (by omega) (by omega))) (fun _ _ _ _ => rfl) (by omega) ab0) (fun v9 Eq0 hC => ?_) (fun E9 B9 hC => by obtain ⟨_, _, _, _, ⟨_, h⟩ | ⟨_, h⟩⟩ := hC <;> cases h)
        obtain ⟨zq0, sq0, xq0, fq0, ⟨hq0, hv9⟩ | ⟨hq0, hv9⟩⟩ := hC
        · cases hv9
          refine xx_cst (st2 := [.int 1]) rfl ?_
          have H0b := H0.up sq0 xq0 fq0
          have ybb := (fq0 b (by omega) (by omega)).trans yb
          have H1b := H1.to (fun q9 a9 b9 => fq0 q9 (by omega) (by omega))
          refine xx_if_eq (tgt := 93) dX8_listAllWith_42 (by decide) (fun h => absurd h (by decide)) (fun j42 => ?_)
          refine xx_aload_n dX8_listAllWith_45 rfl ?_
          refine xx_get xx_c8 dX8_listAllWith_46 wf_X8_49 (j := 8) (by decide) ybb rfl ?_
          refine xx_iconst (v := 1) dX8_listAllWith_49 (by decide) ?_
          refine xx_aald (kd := 13) (b := z + 7) dX8_listAllWith_50 (by decide) rfl ((fq0 z (by omega) (by omega)).trans mA) (by unfold vp_in; decide) (mC) ?_
          refine xx_iload_n dX8_listAllWith_51 rfl ?_
          refine xx_iload_n dX8_listAllWith_52 rfl ?_
          have H1 := H1b
          have obj1 := H1.1
          refine xx_callV (N := mX3_holds) (vs := [.int (nI i), .int (nI S)]) (b := (z + 7)) (rest := []) (d2 := 3) (c2 := 0) (s2 := 0) (c3 := 0) (s3 := 0) dX8_listAllWith_53 wm_X8_288 wi_X3_holds wv_X3_holds (k := 3) rfl (by decide) obj1 nX3_holds ⟨pX3_holds, Nat.le_of_ble_eq_true rfl, by decide, Nat.le_of_ble_eq_true rfl, by decide, by decide⟩ (c_X3_holds (S := i) (U := S) H1 hn hm (by omega) hS (by omega) (po1.to ((fq0 _ (by omega) (by omega)).trans (y4 _ (by omega) (by omega) (by omega) (by omega) (by omega) (by omega) (by omega))) ((fq0 _ (by omega) (by omega)).trans (y4 _ (by omega) (by omega) (by omega) (by omega) (by omega) (by omega) (by omega)))) (fun _ _ _ _ => rfl) (by omega) ab1) (fun v9 Eq1 hC => ?_) (fun E9 B9 hC => by obtain ⟨_, _, _, _, ⟨_, h⟩ | ⟨_, h⟩⟩ := hC <;> cases h)
          obtain ⟨zq1, sq1, xq1, fq1, ⟨hq1, hv9⟩ | ⟨hq1, hv9⟩⟩ := hC
          · cases hv9
            refine xx_cst (st2 := [.int 1]) rfl ?_
            have H1c := H1.up sq1 xq1 fq1
            have H0c := H0b.to (fun q9 a9 b9 => fq1 q9 (by omega) (by omega))
            have ybc := (fq1 b (by omega) (by omega)).trans ybb
            have fr1 : ∀ q, q ≠ z + 4 → q ≠ z + 5 → q ≠ z + 10 → q ≠ z + 11 → Eq1.2 q = B.2 q := fun q a1 a2 a3 a4 => (fq1 q a3 a4).trans (fq0 q a1 a2)
            refine xx_if_eq (tgt := 93) dX8_listAllWith_56 (by decide) (fun h => absurd h (by decide)) (fun j56 => ?_)
            refine xx_aload_n dX8_listAllWith_59 rfl ?_
            refine xx_get xx_c8 dX8_listAllWith_60 wf_X8_53 (j := 9) (by decide) ybc rfl ?_
            refine xx_iconst (v := 0) dX8_listAllWith_63 (by decide) ?_
            obtain ⟨⟨he9, eA, eB, eC⟩, ⟨f0, eD, eF⟩, ⟨f1, eG, eH⟩⟩ := id yE
            refine xx_aald (kd := 5) (b := b + 231) dX8_listAllWith_64 (by decide) rfl ((fr1 _ (by omega) (by omega) (by omega) (by omega)).trans eA) (by unfold vp_in; decide) (eB) ?_
            refine xx_aload_n dX8_listAllWith_65 rfl ?_
            refine xx_get xx_c8 dX8_listAllWith_66 wf_X8_56 (j := 10) (by decide) ybc rfl ?_
            refine xx_iload_n dX8_listAllWith_69 rfl ?_
            refine xx_iast dX8_listAllWith_70 ((fr1 _ (by omega) (by omega) (by omega) (by omega)).trans eD) (vp_in_nI (by omega) (by decide)) (xx_gu fun Eq2 z2 h2 o2 => ?_)
            rw [nI_clamp (by omega)] at h2
            have ybd := (o2 b (by omega)).trans ybc
            refine xx_aload_n dX8_listAllWith_71 rfl ?_
            refine xx_get xx_c8 dX8_listAllWith_72 wf_X8_53 (j := 9) (by decide) ybd rfl ?_
            refine xx_iconst (v := 1) dX8_listAllWith_75 (by decide) ?_
            refine xx_aald (kd := 5) (b := b + 232) dX8_listAllWith_76 (by decide) rfl ((o2 _ (by omega)).trans ((fr1 _ (by omega) (by omega) (by omega) (by omega)).trans eA)) (by unfold vp_in; decide) (eC) ?_
            refine xx_aload_n dX8_listAllWith_77 rfl ?_
            refine xx_get xx_c8 dX8_listAllWith_78 wf_X8_56 (j := 10) (by decide) ybd rfl ?_
            refine xx_iload_n dX8_listAllWith_81 rfl ?_
            refine xx_iast dX8_listAllWith_82 ((o2 _ (by omega)).trans ((fr1 _ (by omega) (by omega) (by omega) (by omega)).trans eG)) (vp_in_nI (by omega) (by decide)) (xx_gu fun Eq3 z3 h3 o3 => ?_)
            rw [nI_clamp (by omega)] at h3
            have ybe := (o3 b (by omega)).trans ybd
            refine xx_aload_n dX8_listAllWith_83 rfl ?_
            refine xx_dup dX8_listAllWith_84 rfl ?_
            refine xx_get xx_c8 dX8_listAllWith_85 wf_X8_56 (j := 10) (by decide) ybe rfl ?_
            refine xx_iconst (v := 1) dX8_listAllWith_88 (by decide) ?_
            refine xx_iadd dX8_listAllWith_89 ?_
            refine xx_eqi (y := nI ((yn_row E k9 S st i).1 + 1)) (nI_add ((yn_row E k9 S st i).1) 1) ?_
            refine xx_put xx_c8 dX8_listAllWith_90 wf_X8_56 (j := 10) (by decide) rfl rfl rfl ybe (Nat.le_of_ble_eq_true rfl) (xx_gu fun Eq4 z4 h4 o4 => ?_)
            have h4 : Eq4.2 b = xx_o 8 [.ref (b + 1), .ref (b + 2), .ref (b + 11), .ref (b + 18), .ref (b + 19), .ref (b + 226), u6, u7, .ref z, .ref (b + 230), .int (nI ((yn_row E k9 S st i).1 + 1)), u11, .ref (b + 233), .ref (b + 266), .ref (b + 279), .ref (b + 281), .ref (b + 283), .ref (b + 288)] := h4
            have ee : E S i = true := (hE S hS i (by omega) (by omega)).mpr ⟨hq0, hq1⟩
            have st9 : yn_row E k9 S st (i + 1) = yn_push (yn_row E k9 S st i) S i := if_pos ⟨by omega, j28, ee⟩
            have f4 : ∀ q, q ≠ b → q ≠ b + 231 → q ≠ b + 232 → q ≠ z + 4 → q ≠ z + 5 → q ≠ z + 10 → q ≠ z + 11 → Eq4.2 q = B.2 q := fun q a0 a1 a2 a3 a4 a5 a6 => (o4 q a0).trans ((o3 q a2).trans ((o2 q a1).trans (fr1 q a3 a4 a5 a6)))
            refine xx_iinc (v := nI (i + 1)) dX8_listAllWith_93 rfl (nI_1 i) (by decide) ?_
            refine xx_clv (lv2 := [(0, .ref b), (1, .int (nI S)), (2, .int (nI k9)), (3, .int (nI (i + 1)))]) rfl ?_
            refine xx_goto (tgt := 2) dX8_listAllWith_96 (by decide) ?_
            refine xx_less [0, 1, 2, 3] ?_
            refine xx_clv (lv2 := [(0, .ref b), (1, .int (nI S)), (2, .int (nI k9)), (3, .int (nI (i + 1)))]) rfl ?_
            refine ih (i + 1) (by omega) Eq4 (by omega) (by omega) (by rw [st9]; exact h4) ⟨⟨hm9, (f4 _ (by omega) (by omega) (by omega) (by omega) (by omega) (by omega) (by omega)).trans mA, mB, mC⟩, H0c.to (fun q9 a9 b9 => (o4 q9 (by omega)).trans ((o3 q9 (by omega)).trans (o2 q9 (by omega)))), H1c.to (fun q9 a9 b9 => (o4 q9 (by omega)).trans ((o3 q9 (by omega)).trans (o2 q9 (by omega))))⟩ ?_ (fun q a0 a1 a2 a3 a4 a5 a6 => (f4 q a0 a1 a2 a3 a4 a5 a6).trans (y4 q a0 a1 a2 a3 a4 a5 a6))
            rw [st9]
            refine ⟨⟨he9, (f4 _ (by omega) (by omega) (by omega) (by omega) (by omega) (by omega) (by omega)).trans eA, eB, eC⟩, ⟨_, (o4 _ (by omega)).trans ((o3 _ (by omega)).trans h2), fun e he => ?_⟩, ⟨_, (o4 _ (by omega)).trans h3, fun e he => ?_⟩⟩
            · have he : e < (yn_row E k9 S st i).1 + 1 := he
              show _ = nI (yy_u2 _ _ _ e)
              unfold yy_u2
              by_cases y : e = (yn_row E k9 S st i).1
              · rw [if_pos y, y, pk_us]
              · rw [if_neg y, pk_un y]; exact eF e (by omega)
            · have he : e < (yn_row E k9 S st i).1 + 1 := he
              show _ = nI (yy_u2 _ _ _ e)
              unfold yy_u2
              by_cases y : e = (yn_row E k9 S st i).1
              · rw [if_pos y, y, pk_us]
              · rw [if_neg y, pk_un y]; exact eH e (by omega)
          · cases hv9
            refine xx_cst (st2 := [.int 0]) rfl ?_
            have H1c := H1.up sq1 xq1 fq1
            have H0c := H0b.to (fun q9 a9 b9 => fq1 q9 (by omega) (by omega))
            have ybc := (fq1 b (by omega) (by omega)).trans ybb
            have fr1 : ∀ q, q ≠ z + 4 → q ≠ z + 5 → q ≠ z + 10 → q ≠ z + 11 → Eq1.2 q = B.2 q := fun q a1 a2 a3 a4 => (fq1 q a3 a4).trans (fq0 q a1 a2)
            refine xx_if_eq (tgt := 93) dX8_listAllWith_56 (by decide) (fun j56 => ?_) (fun h => absurd (by decide) h)
            have st9 : yn_row E k9 S st (i + 1) = yn_row E k9 S st i := if_neg (fun q => hq1 ((hE S hS i (by omega) (by omega)).mp q.2.2).2)
            rw [← st9] at ybc yE
            refine xx_iinc (v := nI (i + 1)) dX8_listAllWith_93 rfl (nI_1 i) (by decide) ?_
            refine xx_clv (lv2 := [(0, .ref b), (1, .int (nI S)), (2, .int (nI k9)), (3, .int (nI (i + 1)))]) rfl ?_
            refine xx_goto (tgt := 2) dX8_listAllWith_96 (by decide) ?_
            refine xx_less [0, 1, 2, 3] ?_
            refine xx_clv (lv2 := [(0, .ref b), (1, .int (nI S)), (2, .int (nI k9)), (3, .int (nI (i + 1)))]) rfl ?_
            refine ih (i + 1) (by omega) Eq1 (by omega) (by omega) ybc ⟨⟨hm9, (fr1 _ (by omega) (by omega) (by omega) (by omega)).trans mA, mB, mC⟩, H0c, H1c⟩ (yE.to (fun q9 a9 b9 => fr1 q9 (by omega) (by omega) (by omega) (by omega))) (fun q a0 a1 a2 a3 a4 a5 a6 => (fr1 q a3 a4 a5 a6).trans (y4 q a0 a1 a2 a3 a4 a5 a6))
        · cases hv9
          refine xx_cst (st2 := [.int 0]) rfl ?_
          have H0b := H0.up sq0 xq0 fq0
          have ybb := (fq0 b (by omega) (by omega)).trans yb
          have H1b := H1.to (fun q9 a9 b9 => fq0 q9 (by omega) (by omega))
          refine xx_if_eq (tgt := 93) dX8_listAllWith_42 (by decide) (fun j42 => ?_) (fun h => absurd (by decide) h)
          have st9 : yn_row E k9 S st (i + 1) = yn_row E k9 S st i := if_neg (fun q => hq0 ((hE S hS i (by omega) (by omega)).mp q.2.2).1)
          rw [← st9] at ybb yE
          refine xx_iinc (v := nI (i + 1)) dX8_listAllWith_93 rfl (nI_1 i) (by decide) ?_
          refine xx_clv (lv2 := [(0, .ref b), (1, .int (nI S)), (2, .int (nI k9)), (3, .int (nI (i + 1)))]) rfl ?_
          refine xx_goto (tgt := 2) dX8_listAllWith_96 (by decide) ?_
          refine xx_less [0, 1, 2, 3] ?_
          refine xx_clv (lv2 := [(0, .ref b), (1, .int (nI S)), (2, .int (nI k9)), (3, .int (nI (i + 1)))]) rfl ?_
          refine ih (i + 1) (by omega) Eq0 (by omega) (by omega) ybb ⟨⟨hm9, (fq0 _ (by omega) (by omega)).trans mA, mB, mC⟩, H0b, H1b⟩ (yE.to (fun q9 a9 b9 => fq0 q9 (by omega) (by omega))) (fun q a0 a1 a2 a3 a4 a5 a6 => (fq0 q a3 a4).trans (y4 q a0 a1 a2 a3 a4 a5 a6))
set_option maxRecDepth 100000 in
theorem c_X8_listAllWith {G : xx_G} {l : Launch} {A : xx_H} {b z m n : Nat} {u6 u7 u11 : Value} {fc : Nat → Int32} {W : Nat → Nat → Nat → Int} {le : Nat → Int} {mu : Nat → Nat} {E : Nat → Nat → Bool} {S k9 : Nat} {st : yn_S} (hb : A.2 b = xx_o 8 [.ref (b + 1), .ref (b + 2), .ref (b + 11), .ref (b + 18), .ref (b + 19), .ref (b + 226), u6, u7, .ref z, .ref (b + 230), .int (nI st.1), u11, .ref (b + 233), .ref (b + 266), .ref (b + 279), .ref (b + 281), .ref (b + 283), .ref (b + 288)]) (hc : A.2 (b + 1) = xx_i 2 fc) (hc2 : ∀ p, p < 2 → fc p = nI (yy_cn m n p)) (hg : yg_ok m n W le) (P : xx_pys A b m n W le mu) (hz : b + 297 ≤ z) (hE : ∀ S, S < 2 ^ m → ∀ U, U < 2 ^ n → yb_c U = yb_c S → (E S U = true ↔ yk_h (yn_a W le 0) m S U ∧ yk_h (yn_a W le 1) n U S)) (M9 : xx_mns A z b (yk_H (yn_a W le 0) m n) (yk_H (yn_a W le 1) n m)) (En : xx_ent A b st) (hS : S < 2 ^ m) (hk : yb_c S = k9) (k0 : 0 < k9) (hok : yn_ok m n E st) : xx_X G l mX8_listAllWith 4 0 0 0 (lv_args 0 [.ref b, .int (nI S), .int (nI k9)]) [] A (fun q9 B => q9 = .inl none ∧ B.1 = A.1 ∧ B.2 b = xx_o 8 [.ref (b + 1), .ref (b + 2), .ref (b + 11), .ref (b + 18), .ref (b + 19), .ref (b + 226), u6, u7, .ref z, .ref (b + 230), .int (nI ((yn_row E k9 S st (2 ^ n)).1)), u11, .ref (b + 233), .ref (b + 266), .ref (b + 279), .ref (b + 281), .ref (b + 283), .ref (b + 288)] ∧ xx_mns B z b (yk_H (yn_a W le 0) m n) (yk_H (yn_a W le 1) n m) ∧ xx_ent B b (yn_row E k9 S st (2 ^ n)) ∧ ∀ q, q ≠ b → q ≠ b + 231 → q ≠ b + 232 → q ≠ z + 4 → q ≠ z + 5 → q ≠ z + 10 → q ≠ z + 11 → B.2 q = A.2 q) := by
  have n1 : 1 ≤ 2 ^ n := Nat.two_pow_pos n
  have st1 : yn_row E k9 S st 1 = st := if_neg (fun q => by have := q.2.1; rw [show yb_c 0 = 0 from rfl] at this; omega)
  refine xx_clv (lv2 := [(0, .ref b), (1, .int (nI S)), (2, .int (nI k9))]) rfl ?_
  refine xx_iconst (v := 1) dX8_listAllWith_0 (by decide) ?_
  refine xx_istore_n dX8_listAllWith_1 (by decide) ?_
  refine xx_clv (lv2 := [(0, .ref b), (1, .int (nI S)), (2, .int (nI k9)), (3, .int 1)]) rfl ?_
  refine xx_clv (lv2 := [(0, .ref b), (1, .int (nI S)), (2, .int (nI k9)), (3, .int (nI 1))]) rfl ?_
  refine l_X8_la hc hc2 hg P hz hE hS hk k0 hok (fun B y1 y0 yb yM yE y4 => ?_) (2 ^ n - 1) 1 (by omega) A rfl (Nat.le_refl _) (by rw [st1]; exact hb) M9 (by rw [st1]; exact En) (fun q _ _ _ _ _ _ _ => rfl)
  exact xx_vret dX8_listAllWith_99 rfl ⟨rfl, y1, yb, yM, yE, y4⟩
