/-! ===== the reference's cross, toHand ===== -/
/-- the registers and the two arrays that divide uses -/
def xx_rw (B : xx_H) (b : Nat) (N : Nat → Int) : Prop := xx_rg B b N ∧ (∃ f, B.2 (b + 17) = xx_i 42 f) ∧ (∃ f, B.2 (b + 18) = xx_i 42 f)
theorem xx_rw.to {B C : xx_H} {b : Nat} {N : Nat → Int} (H : xx_rw B b N) (h1 : C.2 (b + 1) = B.2 (b + 1)) (h2 : C.2 (b + 2) = B.2 (b + 2)) (h3 : C.2 (b + 3) = B.2 (b + 3)) (h4 : C.2 (b + 17) = B.2 (b + 17)) (h5 : C.2 (b + 18) = B.2 (b + 18)) : xx_rw C b N := by
  obtain ⟨a, ⟨f, c⟩, ⟨g, d⟩⟩ := H
  exact ⟨a.to h1 h2 h3, ⟨f, h4.trans c⟩, ⟨g, h5.trans d⟩⟩
theorem xx_rw.set {B C : xx_H} {b : Nat} {N N' : Nat → Int} (H : xx_rw B b N) (h : xx_rg C b N') (hq : ∀ q, q ≠ b + 1 → q ≠ b + 2 → q ≠ b + 3 → C.2 q = B.2 q) : xx_rw C b N' := by
  obtain ⟨a, ⟨f, c⟩, ⟨g, d⟩⟩ := H
  exact ⟨h, ⟨f, (hq _ (by omega) (by omega) (by omega)).trans c⟩, ⟨g, (hq _ (by omega) (by omega) (by omega)).trans d⟩⟩
theorem xx_rw.ext {B : xx_H} {b : Nat} {N N' : Nat → Int} (H : xx_rw B b N) (h : ∀ r, r < 1740 → N r = N' r) : xx_rw B b N' := ⟨H.1.ext h, H.2⟩
theorem yy_p38 {a b : Int} (ha : a.natAbs < 65536 ^ 19) (hb : b.natAbs < 65536 ^ 19) : (a * b).natAbs < 65536 ^ 39 := by
  rw [Int.natAbs_mul]
  have h1 : a.natAbs * b.natAbs < 65536 ^ 19 * 65536 ^ 19 := Nat.mul_lt_mul'' ha hb
  exact Nat.lt_of_lt_of_le h1 (by decide +kernel)
theorem yy_p19 {n : Nat} (h : n < 65536 ^ 19) : n < 65536 ^ 20 := Nat.lt_of_lt_of_le h (by decide +kernel)
set_option maxRecDepth 100000 in
theorem c_X9_cross {G : xx_G} {l : Launch} {A : xx_H} {b : Nat} {th m n hr st hl en tu : Value} {x y e f g c : Nat} {N : Nat → Int} (hb : A.2 b = xx_o 9 (xx_mf b th m n hr st hl en tu)) (hN : xx_rw A b N) (hx : x < 1740) (hy : y < 1740) (he : e < 1740) (hf : f < 1740) (hg : g < 1740) (hc : c < 1740) (x5 : 5 ≤ x) (y5 : 5 ≤ y) (e5 : 5 ≤ e) (f5 : 5 ≤ f) (g5 : 5 ≤ g) (c5 : 5 ≤ c) (bx : (N x).natAbs < 65536 ^ 19) (by0 : (N y).natAbs < 65536 ^ 19) (be : (N e).natAbs < 65536 ^ 19) (bf : (N f).natAbs < 65536 ^ 19) (h0 : N g ≠ 0) : xx_X G l mX9_cross 3 0 0 0 (lv_args 0 [.ref b, .int (nI x), .int (nI y), .int (nI e), .int (nI f), .int (nI g), .int (nI c)]) [] A (fun q B => q = .inl none ∧ B.1 = A.1 ∧ (∃ N2, xx_rw B b N2 ∧ N2 c = yy_qt (N x * N y - N e * N f) (N g) ∧ ∀ r, 5 ≤ r → r ≠ c → N2 r = N r) ∧ ∀ q, q ≠ b + 1 → q ≠ b + 2 → q ≠ b + 3 → q ≠ b + 17 → q ≠ b + 18 → B.2 q = A.2 q) := by
  refine xx_clv (lv2 := [(0, .ref b), (1, .int (nI x)), (2, .int (nI y)), (3, .int (nI e)), (4, .int (nI f)), (5, .int (nI g)), (6, .int (nI c))]) rfl ?_
  refine xx_aload_n dX9_cross_0 rfl ?_
  refine xx_iload_n dX9_cross_1 rfl ?_
  refine xx_iload_n dX9_cross_2 rfl ?_
  refine xx_iconst (v := 0) dX9_cross_3 (by decide) ?_
  refine xx_cst (st2 := [.int (nI 0), .int (nI y), .int (nI x), .ref b]) rfl ?_
  refine xx_callV (N := mX9_times) (vs := [.int (nI x), .int (nI y), .int (nI 0)]) (b := b) (rest := []) (d2 := 1) (c2 := 0) (s2 := 0) (c3 := 0) (s3 := 0) dX9_cross_4 wm_X9_104 wi_X9_times wv_X9_times (k := 9) rfl (by decide) hb nX9_times ⟨pX9_times, Nat.le_of_ble_eq_true rfl, by decide, Nat.le_of_ble_eq_true rfl, by decide, by decide⟩ (c_X9_times hb hN.1 hx hy (by decide) (by omega) (by omega) ⟨20, 20, rfl, yy_p19 bx, yy_p19 by0⟩) (fun v9 B hC => ?_) (fun E9 B9 hC => absurd hC.1 (by simp))
  obtain ⟨hv9, k1, k2, k3⟩ := hC
  cases hv9
  refine xx_cst (st2 := []) rfl ?_
  have hb2 := (k3 b (by omega) (by omega) (by omega)).trans hb
  have w2 := hN.set k2 k3
  refine xx_aload_n dX9_cross_7 rfl ?_
  refine xx_iload_n dX9_cross_8 rfl ?_
  refine xx_iload dX9_cross_9 rfl ?_
  refine xx_iconst (v := 1) dX9_cross_11 (by decide) ?_
  refine xx_cst (st2 := [.int (nI 1), .int (nI f), .int (nI e), .ref b]) rfl ?_
  have ea : yy_un N 0 (N x * N y) e = N e := yy_un_n (by omega)
  have fa : yy_un N 0 (N x * N y) f = N f := yy_un_n (by omega)
  refine xx_callV (N := mX9_times) (vs := [.int (nI e), .int (nI f), .int (nI 1)]) (b := b) (rest := []) (d2 := 1) (c2 := 0) (s2 := 0) (c3 := 0) (s3 := 0) dX9_cross_12 wm_X9_104 wi_X9_times wv_X9_times (k := 9) rfl (by decide) hb2 nX9_times ⟨pX9_times, Nat.le_of_ble_eq_true rfl, by decide, Nat.le_of_ble_eq_true rfl, by decide, by decide⟩ (c_X9_times hb2 k2 he hf (by decide) (by omega) (by omega) (by rw [ea, fa]; exact ⟨20, 20, rfl, yy_p19 be, yy_p19 bf⟩)) (fun v9 C hC => ?_) (fun E9 B9 hC => absurd hC.1 (by simp))
  obtain ⟨hv8, m1, m2, m3⟩ := hC
  cases hv8
  refine xx_cst (st2 := []) rfl ?_
  have hb3 := (m3 b (by omega) (by omega) (by omega)).trans hb2
  rw [ea, fa] at m2
  have w3 := w2.set m2 m3
  refine xx_aload_n dX9_cross_15 rfl ?_
  refine xx_iconst (v := 0) dX9_cross_16 (by decide) ?_
  refine xx_iconst (v := 1) dX9_cross_17 (by decide) ?_
  refine xx_iconst (v := 1) dX9_cross_18 (by decide) ?_
  refine xx_iconst (v := 2) dX9_cross_19 (by decide) ?_
  refine xx_cst (st2 := [.int (nI 2), .int (if true then 1 else 0), .int (nI 1), .int (nI 0), .ref b]) rfl ?_
  have r0 : yy_un (yy_un N 0 (N x * N y)) 1 (N e * N f) 0 = N x * N y := (yy_un_n (by decide)).trans yy_un_s
  have r1 : yy_un (yy_un N 0 (N x * N y)) 1 (N e * N f) 1 = N e * N f := yy_un_s
  have ca := c_X9_add (G := G) (l := l) (x := 0) (y := 1) (c := 2) (mn := true) hb3 m2 (by decide) (by decide) (by decide) (by rw [r0]; exact yy_p38 bx by0) (by rw [r1]; exact yy_p38 be bf)
  have e7 : (N x * N y + if true = true then - (N e * N f) else N e * N f) = N x * N y - N e * N f := by rw [if_pos rfl]; omega
  rw [r0, r1, e7] at ca
  refine xx_callV (N := mX9_add) (vs := [.int (nI 0), .int (nI 1), .int (if true then 1 else 0), .int (nI 2)]) (b := b) (rest := []) (d2 := 2) (c2 := 0) (s2 := 0) (c3 := 0) (s3 := 0) dX9_cross_20 wm_X9_108 wi_X9_add wv_X9_add (k := 9) rfl (by decide) hb3 nX9_add ⟨pX9_add, Nat.le_of_ble_eq_true rfl, by decide, Nat.le_of_ble_eq_true rfl, by decide, by decide⟩ (ca) (fun v9 D hC => ?_) (fun E9 B9 hC => absurd hC.1 (by simp))
  obtain ⟨hv7, p1, p2, p3⟩ := hC
  cases hv7
  refine xx_cst (st2 := []) rfl ?_
  have hb4 := (p3 b (by omega) (by omega) (by omega)).trans hb3
  have w4 := w3.set p2 p3
  obtain ⟨N4, hN4⟩ : ∃ N4, N4 = yy_un (yy_un (yy_un N 0 (N x * N y)) 1 (N e * N f)) 2 (N x * N y - N e * N f) := ⟨_, rfl⟩
  rw [← hN4] at w4 p2
  have s4 : N4 2 = N x * N y - N e * N f := by rw [hN4]; exact yy_un_s
  have o4 : ∀ r, 3 ≤ r → N4 r = N r := fun r hr => by rw [hN4, yy_un_n (by omega), yy_un_n (by omega), yy_un_n (by omega)]
  obtain ⟨f9, g9, h9, q1, q2, q3, q4⟩ := id p2
  have q5 := (q4 2 (by decide)).1
  rw [s4] at q5
  refine xx_aload_n dX9_cross_23 rfl ?_
  refine xx_get xx_c9 dX9_cross_24 wf_X9_17 (j := 3) (by decide) hb4 rfl ?_
  refine xx_iconst (v := 2) dX9_cross_27 (by decide) ?_
  refine xx_iald dX9_cross_28 q3 (vp_in_nI (n := 2) (by decide) (by decide)) ?_
  refine xx_eqi (y := iz (N x * N y - N e * N f).sign) q5 ?_
  refine xx_if_ne (tgt := 42) dX9_cross_29 (by decide) (fun j29 => ?_) (fun j29 => ?_)
  · refine xx_aload_n dX9_cross_42 rfl ?_
    refine xx_iconst (v := 2) dX9_cross_43 (by decide) ?_
    refine xx_iload dX9_cross_44 rfl ?_
    refine xx_iconst (v := 3) dX9_cross_46 (by decide) ?_
    refine xx_iconst (v := 4) dX9_cross_47 (by decide) ?_
    refine xx_cst (st2 := [.int (nI 4), .int (nI 3), .int (nI g), .int (nI 2), .ref b]) rfl ?_
    have cd := c_X9_divide (G := G) (l := l) (x := 2) (y := g) (c := 3) (d := 4) hb4 p2 w4.2.1 w4.2.2 (by decide) hg (by decide) (by decide) (by decide) (by omega) (by decide) (by omega) (by decide) (by rw [o4 g (by omega)]; exact h0)
    rw [s4, o4 g (by omega)] at cd
    refine xx_callV (N := mX9_divide) (vs := [.int (nI 2), .int (nI g), .int (nI 3), .int (nI 4)]) (b := b) (rest := []) (d2 := 1) (c2 := 0) (s2 := 0) (c3 := 0) (s3 := 0) dX9_cross_48 wm_X9_112 wi_X9_divide wv_X9_divide (k := 9) rfl (by decide) hb4 nX9_divide ⟨pX9_divide, Nat.le_of_ble_eq_true rfl, by decide, Nat.le_of_ble_eq_true rfl, by decide, by decide⟩ (cd) (fun v9 E hC => ?_) (fun E9 B9 hC => absurd hC.1 (by simp))
    obtain ⟨hv6, v1, v2, v4, v5, v3⟩ := hC
    cases hv6
    refine xx_cst (st2 := []) rfl ?_
    have hb5 := (v3 b (by omega) (by omega) (by omega) (by omega) (by omega)).trans hb4
    refine xx_aload_n dX9_cross_51 rfl ?_
    refine xx_iconst (v := 3) dX9_cross_52 (by decide) ?_
    refine xx_iload dX9_cross_53 rfl ?_
    refine xx_cst (st2 := [.int (nI c), .int (nI 3), .ref b]) rfl ?_
    refine xx_callV (N := mX9_copy) (vs := [.int (nI 3), .int (nI c)]) (b := b) (rest := []) (d2 := 0) (c2 := 0) (s2 := 0) (c3 := 0) (s3 := 0) dX9_cross_55 wm_X9_98 wi_X9_copy wv_X9_copy (k := 9) rfl (by decide) hb5 nX9_copy ⟨pX9_copy, Nat.le_of_ble_eq_true rfl, by decide, Nat.le_of_ble_eq_true rfl, by decide, by decide⟩ (c_X9_copy (x := 3) hb5 v2 (by decide) hc (by omega)) (fun v9 F hC => ?_) (fun E9 B9 hC => absurd hC.1 (by simp))
    obtain ⟨hv5, t1, t2, t3⟩ := hC
    cases hv5
    refine xx_cst (st2 := []) rfl ?_
    refine xx_vret dX9_cross_58 rfl ⟨rfl, by omega, ⟨_, xx_rw.set ⟨v2, v4, v5⟩ t2 t3, ?_, fun r h1 h2 => ?_⟩, fun q a1 a2 a3 a4 a5 => (t3 q a1 a2 a3).trans ((v3 q a1 a2 a3 a4 a5).trans ((p3 q a1 a2 a3).trans ((m3 q a1 a2 a3).trans (k3 q a1 a2 a3))))⟩
    · rw [yy_un_s, yy_un_n (show (3 : Nat) ≠ 4 by decide), yy_un_s]
    · rw [yy_un_n h2, yy_un_n (by omega), yy_un_n (by omega)]; exact o4 r (by omega)
  · refine xx_aload_n dX9_cross_32 rfl ?_
    refine xx_iload dX9_cross_33 rfl ?_
    refine xx_lconst (v := 0) dX9_cross_35 (by decide) ?_
    refine xx_eql (y := lz 0) (by decide) ?_
    refine xx_callV (N := mX9_set) (vs := [.int (nI c), .long (lz 0)]) (b := b) (rest := []) (d2 := 0) (c2 := 0) (s2 := 0) (c3 := 0) (s3 := 0) dX9_cross_36 wm_X9_80 wi_X9_set wv_X9_set (k := 9) rfl (by decide) hb4 nX9_set ⟨pX9_set, Nat.le_of_ble_eq_true rfl, by decide, Nat.le_of_ble_eq_true rfl, by decide, by decide⟩ (c_X9_set (v := 0) hb4 p2 hc (by decide) (by decide)) (fun v9 E hC => ?_) (fun E9 B9 hC => absurd hC.1 (by simp))
    obtain ⟨hv6, v1, v2, v3⟩ := hC
    cases hv6
    refine xx_cst (st2 := []) rfl ?_
    refine xx_goto (tgt := 58) dX9_cross_39 (by decide) ?_
    have ez : N x * N y - N e * N f = 0 := Int.sign_eq_zero_iff_zero.mp ((yy_s_z _).mp j29)
    refine xx_vret dX9_cross_58 rfl ⟨rfl, by omega, ⟨_, w4.set v2 v3, ?_, fun r h1 h2 => ?_⟩, fun q a1 a2 a3 a4 a5 => (v3 q a1 a2 a3).trans ((p3 q a1 a2 a3).trans ((m3 q a1 a2 a3).trans (k3 q a1 a2 a3)))⟩
    · rw [yy_un_s, ez]; exact (yy_q0 0 (N g) (Or.inl (by simp))).1.symm
    · rw [yy_un_n h2]; exact o4 r (by omega)
theorem yy_gcdstep {X : Int} {Y : Nat} : Nat.gcd Y (X.natAbs % Y) = Nat.gcd X.natAbs Y := by
  rw [Nat.gcd_comm Y, ← Nat.gcd_rec, Nat.gcd_comm]
set_option maxRecDepth 100000 in
theorem l_X9_th {G : xx_G} {l : Launch} {A : xx_H} {b : Nat} {th m n hr st hl en tu : Value} {x y gg : Nat} {N : Nat → Int} {Q : Option Value ⊕ String → xx_H → Prop} (hb : A.2 b = xx_o 9 (xx_mf b th m n hr st hl en tu)) (k : ∀ (B : xx_H) (N2 : Nat → Int), B.1 = A.1 → xx_rw B b N2 → N2 5 = (gg : Int) → (∀ r, (r < 5 ∨ 9 ≤ r) → N2 r = N r) → (∀ q, q ≠ b + 1 → q ≠ b + 2 → q ≠ b + 3 → q ≠ b + 17 → q ≠ b + 18 → B.2 q = A.2 q) → xx_X G l mX9_toHand 2 0 0 77 [(0, .ref b), (1, .int (nI x)), (2, .int (nI y))] [] B Q) :
    ∀ (v : Nat) (B : xx_H) (N2 : Nat → Int), B.1 = A.1 → xx_rw B b N2 → N2 6 = (v : Int) → Nat.gcd (N2 5).natAbs v = gg → (v = 0 → 0 ≤ N2 5) → (∀ r, (r < 5 ∨ 9 ≤ r) → N2 r = N r) → (∀ q, q ≠ b + 1 → q ≠ b + 2 → q ≠ b + 3 → q ≠ b + 17 → q ≠ b + 18 → B.2 q = A.2 q) → xx_X G l mX9_toHand 2 0 0 38 [(0, .ref b), (1, .int (nI x)), (2, .int (nI y))] [] B Q := by
  intro v
  induction v using Nat.strongRecOn with
  | ind v ih =>
    intro B N2 y1 y2 y3 y4 y5 y6 y7
    have hb2 := (y7 b (by omega) (by omega) (by omega) (by omega) (by omega)).trans hb
    obtain ⟨f9, g9, h9, q1, q2, q3, q4⟩ := id y2.1
    have q5 := (q4 6 (by decide)).1
    rw [y3] at q5
    refine xx_aload_n dX9_toHand_38 rfl ?_
    refine xx_get xx_c9 dX9_toHand_39 wf_X9_17 (j := 3) (by decide) hb2 rfl ?_
    refine xx_bipush (v := 6) dX9_toHand_42 (by decide) ?_
    refine xx_iald dX9_toHand_44 q3 (vp_in_nI (n := 6) (by decide) (by decide)) ?_
    refine xx_eqi (y := iz ((v : Nat) : Int).sign) q5 ?_
    refine xx_if_eq (tgt := 77) dX9_toHand_45 (by decide) (fun j45 => ?_) (fun j45 => ?_)
    · have hv0 : v = 0 := yy_sg0 v j45
      subst hv0
      rw [Nat.gcd_zero_right] at y4
      exact k B N2 y1 y2 (by have := y5 rfl; omega) y6 y7
    · refine xx_aload_n dX9_toHand_48 rfl ?_
      refine xx_iconst (v := 5) dX9_toHand_49 (by decide) ?_
      refine xx_bipush (v := 6) dX9_toHand_50 (by decide) ?_
      refine xx_bipush (v := 7) dX9_toHand_52 (by decide) ?_
      refine xx_bipush (v := 8) dX9_toHand_54 (by decide) ?_
      have hv0 : v ≠ 0 := by intro q; subst q; exact j45 rfl
      refine xx_cst (st2 := [.int (nI 8), .int (nI 7), .int (nI 6), .int (nI 5), .ref b]) rfl ?_
      have cd := c_X9_divide (G := G) (l := l) (x := 5) (y := 6) (c := 7) (d := 8) hb2 y2.1 y2.2.1 y2.2.2 (by decide) (by decide) (by decide) (by decide) (by decide) (by decide) (by decide) (by decide) (by decide) (by rw [y3]; omega)
      rw [y3, Int.natAbs_natCast] at cd
      refine xx_callV (N := mX9_divide) (vs := [.int (nI 5), .int (nI 6), .int (nI 7), .int (nI 8)]) (b := b) (rest := []) (d2 := 1) (c2 := 0) (s2 := 0) (c3 := 0) (s3 := 0) dX9_toHand_56 wm_X9_112 wi_X9_divide wv_X9_divide (k := 9) rfl (by decide) hb2 nX9_divide ⟨pX9_divide, Nat.le_of_ble_eq_true rfl, by decide, Nat.le_of_ble_eq_true rfl, by decide, by decide⟩ (cd) (fun v9 C hC => ?_) (fun E9 B9 hC => absurd hC.1 (by simp))
      obtain ⟨hv9, k1, k2, k4, k5, k3⟩ := hC
      cases hv9
      refine xx_cst (st2 := []) rfl ?_
      have hb3 := (k3 b (by omega) (by omega) (by omega) (by omega) (by omega)).trans hb2
      have w3 : xx_rw C b _ := ⟨k2, k4, k5⟩
      refine xx_aload_n dX9_toHand_59 rfl ?_
      refine xx_bipush (v := 6) dX9_toHand_60 (by decide) ?_
      refine xx_iconst (v := 5) dX9_toHand_62 (by decide) ?_
      refine xx_cst (st2 := [.int (nI 5), .int (nI 6), .ref b]) rfl ?_
      refine xx_callV (N := mX9_copy) (vs := [.int (nI 6), .int (nI 5)]) (b := b) (rest := []) (d2 := 0) (c2 := 0) (s2 := 0) (c3 := 0) (s3 := 0) dX9_toHand_63 wm_X9_98 wi_X9_copy wv_X9_copy (k := 9) rfl (by decide) hb3 nX9_copy ⟨pX9_copy, Nat.le_of_ble_eq_true rfl, by decide, Nat.le_of_ble_eq_true rfl, by decide, by decide⟩ (c_X9_copy (x := 6) (a := 5) hb3 k2 (by decide) (by decide) (by decide)) (fun v9 D hC => ?_) (fun E9 B9 hC => absurd hC.1 (by simp))
      obtain ⟨hv8, m1, m2, m3⟩ := hC
      cases hv8
      refine xx_cst (st2 := []) rfl ?_
      have hb4 := (m3 b (by omega) (by omega) (by omega)).trans hb3
      have w4 := w3.set m2 m3
      refine xx_aload_n dX9_toHand_66 rfl ?_
      refine xx_bipush (v := 8) dX9_toHand_67 (by decide) ?_
      refine xx_bipush (v := 6) dX9_toHand_69 (by decide) ?_
      refine xx_cst (st2 := [.int (nI 6), .int (nI 8), .ref b]) rfl ?_
      refine xx_callV (N := mX9_copy) (vs := [.int (nI 8), .int (nI 6)]) (b := b) (rest := []) (d2 := 0) (c2 := 0) (s2 := 0) (c3 := 0) (s3 := 0) dX9_toHand_71 wm_X9_98 wi_X9_copy wv_X9_copy (k := 9) rfl (by decide) hb4 nX9_copy ⟨pX9_copy, Nat.le_of_ble_eq_true rfl, by decide, Nat.le_of_ble_eq_true rfl, by decide, by decide⟩ (c_X9_copy (x := 8) (a := 6) hb4 m2 (by decide) (by decide) (by decide)) (fun v9 E hC => ?_) (fun E9 B9 hC => absurd hC.1 (by simp))
      obtain ⟨hv7, p1, p2, p3⟩ := hC
      cases hv7
      refine xx_cst (st2 := []) rfl ?_
      have w5 := w4.set p2 p3
      refine xx_goto (tgt := 38) dX9_toHand_74 (by decide) ?_
      have hr8 := Nat.mod_lt (N2 5).natAbs (show v > 0 by omega)
      refine ih ((N2 5).natAbs % v) hr8 E _ (by omega) w5 ?_ ?_ ?_ (fun r hr => ?_) (fun q a1 a2 a3 a4 a5 => (p3 q a1 a2 a3).trans ((m3 q a1 a2 a3).trans ((k3 q a1 a2 a3 a4 a5).trans (y7 q a1 a2 a3 a4 a5))))
      · rw [yy_un_s, yy_un_n (show (8 : Nat) ≠ 5 by decide), yy_un_s]
      · rw [yy_un_n (show (5 : Nat) ≠ 6 by decide), yy_un_s, yy_un_n (show (6 : Nat) ≠ 8 by decide), yy_un_n (show (6 : Nat) ≠ 7 by decide), y3, Int.natAbs_natCast, yy_gcdstep]; exact y4
      · intro _; rw [yy_un_n (show (5 : Nat) ≠ 6 by decide), yy_un_s, yy_un_n (show (6 : Nat) ≠ 8 by decide), yy_un_n (show (6 : Nat) ≠ 7 by decide), y3]; omega
      · rw [yy_un_n (by omega), yy_un_n (by omega), yy_un_n (by omega), yy_un_n (by omega)]; exact y6 r hr
theorem yy_gsgn {u w : Int} (hu : u ≠ 0) (hw : 0 < w) : u.sign * w.sign = (yy_qt u ((Nat.gcd u.natAbs w.natAbs : Nat) : Int)).sign ∧ (yy_qt w ((Nat.gcd u.natAbs w.natAbs : Nat) : Int)).sign = 1 := by
  have hg : 0 < Nat.gcd u.natAbs w.natAbs := Nat.gcd_pos_of_pos_left _ (by omega)
  have h1 : Nat.gcd u.natAbs w.natAbs ≤ u.natAbs := Nat.gcd_le_left _ (by omega)
  have h2 : Nat.gcd u.natAbs w.natAbs ≤ w.natAbs := Nat.gcd_le_right _ (by omega)
  generalize Nat.gcd u.natAbs w.natAbs = g at *
  have sg : ((g : Nat) : Int).sign = 1 := Int.sign_eq_one_of_pos (by omega)
  have n1 : yy_qt u (g : Int) ≠ 0 := by
    intro q
    have a9 := yy_qt_abs u (g : Int)
    rw [q, Int.natAbs_natCast] at a9
    have b9 := Nat.div_pos h1 hg
    rw [← a9] at b9
    exact absurd b9 (by decide)
  have n2 : yy_qt w (g : Int) ≠ 0 := by
    intro q
    have a9 := yy_qt_abs w (g : Int)
    rw [q, Int.natAbs_natCast] at a9
    have b9 := Nat.div_pos h2 hg
    rw [← a9] at b9
    exact absurd b9 (by decide)
  have e1 := yy_qt_sign u (g : Int) n1
  have e2 := yy_qt_sign w (g : Int) n2
  rw [sg, Int.mul_one] at e1 e2
  rw [← e1, ← e2, Int.sign_eq_one_of_pos hw, Int.mul_one]
  exact ⟨rfl, rfl⟩
theorem yy_qtself {w : Int} (hw : 0 < w) : yy_qt w (w.natAbs : Int) = 1 ∧ yy_qt 0 (w.natAbs : Int) = 0 := by
  constructor
  · unfold yy_qt
    rw [Int.sign_eq_one_of_pos hw, Int.sign_eq_one_of_pos (a := (w.natAbs : Int)) (by omega), Int.natAbs_natCast, Nat.div_self (by omega)]; rfl
  · exact (yy_q0 0 _ (Or.inl (by simp))).1
theorem yy_toh {A B : xx_H} {b : Nat} {N : Nat → Int} (H : xx_rw A b N) {f g h : Nat → Int32} (hf : A.2 (b + 1) = xx_i 69600 f) (hg : A.2 (b + 2) = xx_i 1740 g) (hh : A.2 (b + 3) = xx_i 1740 h) (hN : ∀ r, r < 1740 → xx_nr f g h r (N r)) {r : Nat} {s : Int32} (hr : r < 1740) (hs : s = iz (N r).sign) (hB : B.2 (b + 3) = xx_i 1740 (upd h r s)) (hq : ∀ q, q ≠ b + 3 → B.2 q = A.2 q) : xx_rw B b N := by
  obtain ⟨_, ⟨f1, c⟩, ⟨g1, d⟩⟩ := H
  refine ⟨⟨f, g, _, (hq _ (by omega)).trans hf, (hq _ (by omega)).trans hg, hB, fun i hi => ?_⟩, ⟨f1, (hq _ (by omega)).trans c⟩, ⟨g1, (hq _ (by omega)).trans d⟩⟩
  refine (hN i hi).to (fun _ _ => rfl) rfl ?_
  by_cases e : i = r
  · subst e; rw [pk_us, hs]; exact (hN i hi).1.symm
  · exact pk_un e
set_option maxRecDepth 100000 in
theorem c_X9_toHand {G : xx_G} {l : Launch} {A : xx_H} {b : Nat} {th m n hr st hl en tu : Value} {x y : Nat} {N : Nat → Int} (hb : A.2 b = xx_o 9 (xx_mf b th m n hr st hl en tu)) (hN : xx_rw A b N) (hx : x < 1740) (hy : y < 1740) (x5 : 18 ≤ x) (y5 : 18 ≤ y) (hw : 0 < N y) : xx_X G l mX9_toHand 2 0 0 0 (lv_args 0 [.ref b, .int (nI x), .int (nI y)]) [] A (fun q B => q = .inl (some (.int (iz (N x).sign))) ∧ B.1 = A.1 ∧ (∃ N2, xx_rw B b N2 ∧ N2 16 = yy_qt (N x) ((Nat.gcd (N x).natAbs (N y).natAbs : Nat) : Int) ∧ N2 17 = yy_qt (N y) ((Nat.gcd (N x).natAbs (N y).natAbs : Nat) : Int) ∧ ∀ r, (r < 5 ∨ 10 ≤ r) → r ≠ 16 → r ≠ 17 → N2 r = N r) ∧ ∀ q, q ≠ b + 1 → q ≠ b + 2 → q ≠ b + 3 → q ≠ b + 17 → q ≠ b + 18 → B.2 q = A.2 q) := by
  obtain ⟨f0, g0, h0, q1, q2, q3, q4⟩ := id hN.1
  have q5 := (q4 x hx).1
  refine xx_clv (lv2 := [(0, .ref b), (1, .int (nI x)), (2, .int (nI y))]) rfl ?_
  refine xx_aload_n dX9_toHand_0 rfl ?_
  refine xx_get xx_c9 dX9_toHand_1 wf_X9_17 (j := 3) (by decide) hb rfl ?_
  refine xx_iload_n dX9_toHand_4 rfl ?_
  refine xx_iald dX9_toHand_5 q3 (vp_in_nI (by omega) (by decide)) ?_
  refine xx_eqi (y := iz (N x).sign) (by rw [nI_clamp (by omega)]; exact q5) ?_
  refine xx_if_ne (tgt := 25) dX9_toHand_6 (by decide) (fun j6 => ?_) (fun j6 => ?_)
  · refine xx_aload_n dX9_toHand_25 rfl ?_
    refine xx_iload_n dX9_toHand_26 rfl ?_
    refine xx_iconst (v := 5) dX9_toHand_27 (by decide) ?_
    refine xx_cst (st2 := [.int (nI 5), .int (nI x), .ref b]) rfl ?_
    refine xx_callV (N := mX9_copy) (vs := [.int (nI x), .int (nI 5)]) (b := b) (rest := []) (d2 := 0) (c2 := 0) (s2 := 0) (c3 := 0) (s3 := 0) dX9_toHand_28 wm_X9_98 wi_X9_copy wv_X9_copy (k := 9) rfl (by decide) hb nX9_copy ⟨pX9_copy, Nat.le_of_ble_eq_true rfl, by decide, Nat.le_of_ble_eq_true rfl, by decide, by decide⟩ (c_X9_copy (x := x) (a := 5) hb hN.1 hx (by decide) (by omega)) (fun v9 B hC => ?_) (fun E9 B9 hC => absurd hC.1 (by simp))
    obtain ⟨hv9, k1, k2, k3⟩ := hC
    cases hv9
    refine xx_cst (st2 := []) rfl ?_
    have hb2 := (k3 b (by omega) (by omega) (by omega)).trans hb
    have w2 := hN.set k2 k3
    refine xx_aload_n dX9_toHand_31 rfl ?_
    refine xx_iload_n dX9_toHand_32 rfl ?_
    refine xx_bipush (v := 6) dX9_toHand_33 (by decide) ?_
    refine xx_cst (st2 := [.int (nI 6), .int (nI y), .ref b]) rfl ?_
    refine xx_callV (N := mX9_copy) (vs := [.int (nI y), .int (nI 6)]) (b := b) (rest := []) (d2 := 0) (c2 := 0) (s2 := 0) (c3 := 0) (s3 := 0) dX9_toHand_35 wm_X9_98 wi_X9_copy wv_X9_copy (k := 9) rfl (by decide) hb2 nX9_copy ⟨pX9_copy, Nat.le_of_ble_eq_true rfl, by decide, Nat.le_of_ble_eq_true rfl, by decide, by decide⟩ (c_X9_copy (x := y) (a := 6) hb2 k2 hy (by decide) (by omega)) (fun v9 C hC => ?_) (fun E9 B9 hC => absurd hC.1 (by simp))
    obtain ⟨hv8, m1, m2, m3⟩ := hC
    cases hv8
    refine xx_cst (st2 := []) rfl ?_
    have w3 := w2.set m2 m3
    have hu0 : N x ≠ 0 := by intro q; apply j6; rw [q]; rfl
    have e1 : yy_un N 5 (N x) y = N y := yy_un_n (by omega)
    rw [e1] at w3
    have e2 : N y = ((N y).natAbs : Int) := by omega
    refine l_X9_th (A := C) (N := N) (x := x) (y := y) (gg := Nat.gcd (N x).natAbs (N y).natAbs) ((m3 b (by omega) (by omega) (by omega)).trans hb2) (fun D N2 d1 d2 d3 d4 d5 => ?_) (N y).natAbs C _ rfl w3 (by rw [yy_un_s]; exact e2) (by rw [yy_un_n (by decide), yy_un_s]) (fun q => absurd q (by omega)) (fun r hr => by rw [yy_un_n (by omega), yy_un_n (by omega)]) (fun q _ _ _ _ _ => rfl)
    have hb4 : D.2 b = _ := (d5 b (by omega) (by omega) (by omega) (by omega) (by omega)).trans ((m3 b (by omega) (by omega) (by omega)).trans hb2)
    have nx : N2 x = N x := d4 x (by omega)
    have ny : N2 y = N y := d4 y (by omega)
    obtain ⟨f2, g2, h2, r1, r2, r3, r4⟩ := id d2.1
    have r5 := (r4 x hx).1
    have r6 := (r4 y hy).1
    rw [nx] at r5
    rw [ny] at r6
    have hg0 : 0 < Nat.gcd (N x).natAbs (N y).natAbs := Nat.gcd_pos_of_pos_left _ (by omega)
    obtain ⟨sg1, sg2⟩ := yy_gsgn hu0 hw
    generalize hgg : Nat.gcd (N x).natAbs (N y).natAbs = gg at *
    refine xx_aload_n dX9_toHand_77 rfl ?_
    refine xx_get xx_c9 dX9_toHand_78 wf_X9_17 (j := 3) (by decide) hb4 rfl ?_
    refine xx_iload_n dX9_toHand_81 rfl ?_
    refine xx_iald dX9_toHand_82 r3 (vp_in_nI (by omega) (by decide)) ?_
    refine xx_eqi (y := iz (N x).sign) (by rw [nI_clamp (by omega)]; exact r5) ?_
    refine xx_aload_n dX9_toHand_83 rfl ?_
    refine xx_get xx_c9 dX9_toHand_84 wf_X9_17 (j := 3) (by decide) hb4 rfl ?_
    refine xx_iload_n dX9_toHand_87 rfl ?_
    refine xx_iald dX9_toHand_88 r3 (vp_in_nI (by omega) (by decide)) ?_
    refine xx_eqi (y := iz (N y).sign) (by rw [nI_clamp (by omega)]; exact r6) ?_
    refine xx_imul dX9_toHand_89 ?_
    refine xx_eqi (y := iz (N x).sign) (by rw [iz_mul, Int.sign_eq_one_of_pos hw, Int.mul_one]) ?_
    refine xx_istore_n dX9_toHand_90 (by decide) ?_
    refine xx_clv (lv2 := [(0, .ref b), (1, .int (nI x)), (2, .int (nI y)), (3, .int (iz (N x).sign))]) rfl ?_
    refine xx_aload_n dX9_toHand_91 rfl ?_
    refine xx_iload_n dX9_toHand_92 rfl ?_
    refine xx_iconst (v := 5) dX9_toHand_93 (by decide) ?_
    refine xx_bipush (v := 7) dX9_toHand_94 (by decide) ?_
    refine xx_bipush (v := 8) dX9_toHand_96 (by decide) ?_
    refine xx_cst (st2 := [.int (nI 8), .int (nI 7), .int (nI 5), .int (nI x), .ref b]) rfl ?_
    have cd := c_X9_divide (G := G) (l := l) (x := x) (y := 5) (c := 7) (d := 8) hb4 d2.1 d2.2.1 d2.2.2 hx (by decide) (by decide) (by decide) (by omega) (by decide) (by omega) (by decide) (by decide) (by rw [d3]; omega)
    rw [nx, d3] at cd
    refine xx_callV (N := mX9_divide) (vs := [.int (nI x), .int (nI 5), .int (nI 7), .int (nI 8)]) (b := b) (rest := []) (d2 := 1) (c2 := 0) (s2 := 0) (c3 := 0) (s3 := 0) dX9_toHand_98 wm_X9_112 wi_X9_divide wv_X9_divide (k := 9) rfl (by decide) hb4 nX9_divide ⟨pX9_divide, Nat.le_of_ble_eq_true rfl, by decide, Nat.le_of_ble_eq_true rfl, by decide, by decide⟩ (cd) (fun v9 E hC => ?_) (fun E9 B9 hC => absurd hC.1 (by simp))
    obtain ⟨hv7, a1, a2, a4, a5, a3⟩ := hC
    cases hv7
    refine xx_cst (st2 := []) rfl ?_
    have hb5 := (a3 b (by omega) (by omega) (by omega) (by omega) (by omega)).trans hb4
    have w5 : xx_rw E b _ := ⟨a2, a4, a5⟩
    obtain ⟨N5, hN5⟩ : ∃ N5, N5 = yy_un (yy_un N2 7 (yy_qt (N x) (gg : Int))) 8 (((N x).natAbs % ((gg : Nat) : Int).natAbs : Nat) : Int) := ⟨_, rfl⟩
    rw [← hN5] at w5 a2
    have n5y : N5 y = N y := by rw [hN5, yy_un_n (by omega), yy_un_n (by omega), ny]
    have n55 : N5 5 = (gg : Int) := by rw [hN5, yy_un_n (by decide), yy_un_n (by decide), d3]
    have n57 : N5 7 = yy_qt (N x) (gg : Int) := by rw [hN5, yy_un_n (by decide), yy_un_s]
    have n5o : ∀ r, (r < 5 ∨ 9 ≤ r) → N5 r = N r := fun r hr => by rw [hN5, yy_un_n (by omega), yy_un_n (by omega)]; exact d4 r hr
    refine xx_aload_n dX9_toHand_101 rfl ?_
    refine xx_iload_n dX9_toHand_102 rfl ?_
    refine xx_iconst (v := 5) dX9_toHand_103 (by decide) ?_
    refine xx_bipush (v := 9) dX9_toHand_104 (by decide) ?_
    refine xx_bipush (v := 8) dX9_toHand_106 (by decide) ?_
    refine xx_cst (st2 := [.int (nI 8), .int (nI 9), .int (nI 5), .int (nI y), .ref b]) rfl ?_
    have ce := c_X9_divide (G := G) (l := l) (x := y) (y := 5) (c := 9) (d := 8) hb5 a2 a4 a5 hy (by decide) (by decide) (by decide) (by omega) (by decide) (by omega) (by decide) (by decide) (by rw [n55]; omega)
    rw [n5y, n55] at ce
    refine xx_callV (N := mX9_divide) (vs := [.int (nI y), .int (nI 5), .int (nI 9), .int (nI 8)]) (b := b) (rest := []) (d2 := 1) (c2 := 0) (s2 := 0) (c3 := 0) (s3 := 0) dX9_toHand_108 wm_X9_112 wi_X9_divide wv_X9_divide (k := 9) rfl (by decide) hb5 nX9_divide ⟨pX9_divide, Nat.le_of_ble_eq_true rfl, by decide, Nat.le_of_ble_eq_true rfl, by decide, by decide⟩ (ce) (fun v9 F hC => ?_) (fun E9 B9 hC => absurd hC.1 (by simp))
    obtain ⟨hv6, b1, b2, b4, b5, b3⟩ := hC
    cases hv6
    refine xx_cst (st2 := []) rfl ?_
    have hb6 := (b3 b (by omega) (by omega) (by omega) (by omega) (by omega)).trans hb5
    have w6 : xx_rw F b _ := ⟨b2, b4, b5⟩
    obtain ⟨N6, hN6⟩ : ∃ N6, N6 = yy_un (yy_un N5 9 (yy_qt (N y) (gg : Int))) 8 (((N y).natAbs % ((gg : Nat) : Int).natAbs : Nat) : Int) := ⟨_, rfl⟩
    rw [← hN6] at w6 b2
    refine xx_aload_n dX9_toHand_111 rfl ?_
    refine xx_bipush (v := 7) dX9_toHand_112 (by decide) ?_
    refine xx_bipush (v := 16) dX9_toHand_114 (by decide) ?_
    refine xx_cst (st2 := [.int (nI 16), .int (nI 7), .ref b]) rfl ?_
    refine xx_callV (N := mX9_copy) (vs := [.int (nI 7), .int (nI 16)]) (b := b) (rest := []) (d2 := 0) (c2 := 0) (s2 := 0) (c3 := 0) (s3 := 0) dX9_toHand_116 wm_X9_98 wi_X9_copy wv_X9_copy (k := 9) rfl (by decide) hb6 nX9_copy ⟨pX9_copy, Nat.le_of_ble_eq_true rfl, by decide, Nat.le_of_ble_eq_true rfl, by decide, by decide⟩ (c_X9_copy (x := 7) (a := 16) hb6 b2 (by decide) (by decide) (by decide)) (fun v9 H hC => ?_) (fun E9 B9 hC => absurd hC.1 (by simp))
    obtain ⟨hv5, c1, c2, c3⟩ := hC
    cases hv5
    refine xx_cst (st2 := []) rfl ?_
    have hb7 := (c3 b (by omega) (by omega) (by omega)).trans hb6
    have w7 := w6.set c2 c3
    refine xx_aload_n dX9_toHand_119 rfl ?_
    refine xx_bipush (v := 9) dX9_toHand_120 (by decide) ?_
    refine xx_bipush (v := 17) dX9_toHand_122 (by decide) ?_
    refine xx_cst (st2 := [.int (nI 17), .int (nI 9), .ref b]) rfl ?_
    refine xx_callV (N := mX9_copy) (vs := [.int (nI 9), .int (nI 17)]) (b := b) (rest := []) (d2 := 0) (c2 := 0) (s2 := 0) (c3 := 0) (s3 := 0) dX9_toHand_124 wm_X9_98 wi_X9_copy wv_X9_copy (k := 9) rfl (by decide) hb7 nX9_copy ⟨pX9_copy, Nat.le_of_ble_eq_true rfl, by decide, Nat.le_of_ble_eq_true rfl, by decide, by decide⟩ (c_X9_copy (x := 9) (a := 17) hb7 c2 (by decide) (by decide) (by decide)) (fun v9 K hC => ?_) (fun E9 B9 hC => absurd hC.1 (by simp))
    obtain ⟨hv4, e3, e4, e5⟩ := hC
    cases hv4
    refine xx_cst (st2 := []) rfl ?_
    have hb8 := (e5 b (by omega) (by omega) (by omega)).trans hb7
    have w8 := w7.set e4 e5
    obtain ⟨N8, hN8⟩ : ∃ N8, N8 = yy_un (yy_un N6 16 (N6 7)) 17 (yy_un N6 16 (N6 7) 9) := ⟨_, rfl⟩
    rw [← hN8] at w8 e4
    have n16 : N8 16 = yy_qt (N x) (gg : Int) := by rw [hN8, yy_un_n (by decide), yy_un_s, hN6, yy_un_n (by decide), yy_un_n (by decide), n57]
    have n17 : N8 17 = yy_qt (N y) (gg : Int) := by rw [hN8, yy_un_s, yy_un_n (by decide), hN6, yy_un_n (by decide), yy_un_s]
    have n8o : ∀ r, (r < 5 ∨ 10 ≤ r) → r ≠ 16 → r ≠ 17 → N8 r = N r := fun r p1 p2 p3 => by rw [hN8, yy_un_n p3, yy_un_n p2, hN6, yy_un_n (by omega), yy_un_n (by omega)]; exact n5o r (by omega)
    obtain ⟨f8, g8, h8, s1, s2, s3, s4⟩ := id w8.1
    refine xx_aload_n dX9_toHand_127 rfl ?_
    refine xx_get xx_c9 dX9_toHand_128 wf_X9_17 (j := 3) (by decide) hb8 rfl ?_
    refine xx_bipush (v := 16) dX9_toHand_131 (by decide) ?_
    refine xx_iload_n dX9_toHand_133 rfl ?_
    refine xx_iast dX9_toHand_134 s3 (vp_in_nI (n := 16) (by decide) (by decide)) (xx_gu fun L z1 t1 t2 => ?_)
    rw [show (16 : Int32).toNatClampNeg = 16 by decide] at t1
    have hb9 := (t2 b (by omega)).trans hb8
    have w9 : xx_rw L b N8 := yy_toh w8 s1 s2 s3 s4 (r := 16) (by decide) (by rw [n16, ← sg1, Int.sign_eq_one_of_pos hw, Int.mul_one]) t1 t2
    obtain ⟨f9, g9, h9, v1, v2, v3, v4⟩ := id w9.1
    refine xx_aload_n dX9_toHand_135 rfl ?_
    refine xx_get xx_c9 dX9_toHand_136 wf_X9_17 (j := 3) (by decide) hb9 rfl ?_
    refine xx_bipush (v := 17) dX9_toHand_139 (by decide) ?_
    refine xx_iconst (v := 1) dX9_toHand_141 (by decide) ?_
    refine xx_iast dX9_toHand_142 v3 (vp_in_nI (n := 17) (by decide) (by decide)) (xx_gu fun M z2 t3 t4 => ?_)
    rw [show (17 : Int32).toNatClampNeg = 17 by decide] at t3
    have w10 : xx_rw M b N8 := yy_toh w9 v1 v2 v3 v4 (r := 17) (by decide) (by rw [n17, sg2]; decide) t3 t4
    refine xx_iload_n dX9_toHand_143 rfl ?_
    exact xx_iret dX9_toHand_144 rfl ⟨rfl, by omega, ⟨N8, w10, n16, n17, n8o⟩, fun q u1 u2 u3 u4 u5 => (t4 q u3).trans ((t2 q u3).trans ((e5 q u1 u2 u3).trans ((c3 q u1 u2 u3).trans ((b3 q u1 u2 u3 u4 u5).trans ((a3 q u1 u2 u3 u4 u5).trans ((d5 q u1 u2 u3 u4 u5).trans ((m3 q u1 u2 u3).trans (k3 q u1 u2 u3))))))))⟩
  · refine xx_aload_n dX9_toHand_9 rfl ?_
    refine xx_bipush (v := 16) dX9_toHand_10 (by decide) ?_
    refine xx_lconst (v := 0) dX9_toHand_12 (by decide) ?_
    refine xx_eql (y := lz 0) (by decide) ?_
    have ez : N x = 0 := Int.sign_eq_zero_iff_zero.mp ((yy_s_z _).mp j6)
    refine xx_cst (st2 := [.long (lz 0), .int (nI 16), .ref b]) rfl ?_
    refine xx_callV (N := mX9_set) (vs := [.int (nI 16), .long (lz 0)]) (b := b) (rest := []) (d2 := 0) (c2 := 0) (s2 := 0) (c3 := 0) (s3 := 0) dX9_toHand_13 wm_X9_80 wi_X9_set wv_X9_set (k := 9) rfl (by decide) hb nX9_set ⟨pX9_set, Nat.le_of_ble_eq_true rfl, by decide, Nat.le_of_ble_eq_true rfl, by decide, by decide⟩ (c_X9_set (a := 16) (v := 0) hb hN.1 (by decide) (by decide) (by decide)) (fun v9 B hC => ?_) (fun E9 B9 hC => absurd hC.1 (by simp))
    obtain ⟨hv9, k1, k2, k3⟩ := hC
    cases hv9
    refine xx_cst (st2 := []) rfl ?_
    have hb2 := (k3 b (by omega) (by omega) (by omega)).trans hb
    have w2 := hN.set k2 k3
    refine xx_aload_n dX9_toHand_16 rfl ?_
    refine xx_bipush (v := 17) dX9_toHand_17 (by decide) ?_
    refine xx_lconst (v := 1) dX9_toHand_19 (by decide) ?_
    refine xx_eql (y := lz 1) (by decide) ?_
    refine xx_cst (st2 := [.long (lz 1), .int (nI 17), .ref b]) rfl ?_
    refine xx_callV (N := mX9_set) (vs := [.int (nI 17), .long (lz 1)]) (b := b) (rest := []) (d2 := 0) (c2 := 0) (s2 := 0) (c3 := 0) (s3 := 0) dX9_toHand_20 wm_X9_80 wi_X9_set wv_X9_set (k := 9) rfl (by decide) hb2 nX9_set ⟨pX9_set, Nat.le_of_ble_eq_true rfl, by decide, Nat.le_of_ble_eq_true rfl, by decide, by decide⟩ (c_X9_set (a := 17) (v := 1) hb2 k2 (by decide) (by decide) (by decide)) (fun v9 C hC => ?_) (fun E9 B9 hC => absurd hC.1 (by simp))
    obtain ⟨hv8, m1, m2, m3⟩ := hC
    cases hv8
    refine xx_cst (st2 := []) rfl ?_
    have w3 := w2.set m2 m3
    refine xx_iconst (v := 0) dX9_toHand_23 (by decide) ?_
    obtain ⟨t1, t2⟩ := yy_qtself hw
    refine xx_iret dX9_toHand_24 rfl ⟨by rw [ez]; rfl, by omega, ⟨_, w3, ?_, ?_, fun r r1 r2 r3 => by rw [yy_un_n r3, yy_un_n r2]⟩, fun q a1 a2 a3 a4 a5 => (m3 q a1 a2 a3).trans (k3 q a1 a2 a3)⟩
    · rw [yy_un_n (by decide), yy_un_s, ez]; show 0 = yy_qt 0 ((Nat.gcd 0 (N y).natAbs : Nat) : Int); rw [Nat.gcd_zero_left]; exact t2.symm
    · rw [yy_un_s, ez]; show 1 = yy_qt (N y) ((Nat.gcd 0 (N y).natAbs : Nat) : Int); rw [Nat.gcd_zero_left]; exact t1.symm
