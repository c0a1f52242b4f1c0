/-! ===== Minors() ===== -/
def yk_q (k : Nat) : Nat → Nat
  | 0 => 0
  | n + 1 => yk_q k n + if yb_c n = k then 1 else 0
theorem yk_cq (S : Nat) : ∀ n, yk_c S n = yk_q (yb_c S) n
  | 0 => rfl
  | n + 1 => by
    show yk_c S n + (if yb_c n = yb_c S then 1 else 0) = yk_q (yb_c S) n + if yb_c n = yb_c S then 1 else 0
    rw [yk_cq S n]
set_option maxRecDepth 100000 in
theorem l_X3_in {G : xx_G} {l : Launch} {A : xx_H} {b py ra m9 s9 x9 sa : Nat} {Q : Option Value ⊕ String → xx_H → Prop} (hb : A.2 b = xx_o 3 [.ref py, .ref ra, .ref m9, .ref s9, .ref x9]) (n1 : ra ≠ b) (n2 : sa ≠ b) (n3 : sa ≠ ra) (kC : ∀ (B : xx_H) (f g : Nat → Int32), (B.1 = A.1) → (B.2 ra = xx_i 64 f) → (B.2 sa = xx_i 7 g) → (∀ S, S < 64 → f S = nI (yk_r S)) → (∀ k, k < 7 → g k = nI (yk_q k 64)) → (∀ q, q ≠ ra → q ≠ sa → B.2 q = A.2 q) → xx_X G l mX3_init 1 0 0 81 [(0, .ref b)] [] B Q) :
    ∀ (v i : Nat), i + v = 64 → ∀ (B : xx_H) (f g : Nat → Int32), (B.1 = A.1) → (B.2 ra = xx_i 64 f) → (B.2 sa = xx_i 7 g) → (∀ S, S < i → f S = nI (yk_r S)) → (∀ k, k < 7 → g k = nI (yk_q k i)) → (∀ q, q ≠ ra → q ≠ sa → B.2 q = A.2 q) → xx_X G l mX3_init 1 0 0 49 [(0, .ref b), (2, .ref sa), (3, .int (nI i))] [] B Q := by
  intro v
  induction v with
  | zero =>
    intro i h9i B f g y1 y2 y3 y4 y5 y6
    have h9e : 64 = i := by omega
    subst h9e
    have hb2 := (y6 b (by omega) (by omega)).trans hb
    refine xx_clv (lv2 := [(0, .ref b), (2, .ref sa), (3, .int 64)]) rfl ?_
    refine xx_iload_n dX3_init_49 rfl ?_
    refine xx_aload_n dX3_init_50 rfl ?_
    refine xx_get xx_c3 dX3_init_51 wf_X3_9 (j := 1) (by decide) hb2 rfl ?_
    refine xx_alen (kd := 1) (v := 64) dX3_init_54 (by decide) y2 rfl ?_
    refine xx_icmp_ge (tgt := 81) dX3_init_55 (by decide) (fun j55 => ?_) (fun h => absurd (by decide) h)
    refine xx_less [0] ?_
    refine xx_clv (lv2 := [(0, .ref b)]) rfl ?_
    exact kC B f g y1 y2 y3 y4 y5 y6
  | succ v ih =>
    intro i h9i B f g y1 y2 y3 y4 y5 y6
    have hb2 := (y6 b (by omega) (by omega)).trans hb
    refine xx_iload_n dX3_init_49 rfl ?_
    refine xx_aload_n dX3_init_50 rfl ?_
    refine xx_get xx_c3 dX3_init_51 wf_X3_9 (j := 1) (by decide) hb2 rfl ?_
    refine xx_alen (kd := 1) (v := 64) dX3_init_54 (by decide) y2 rfl ?_
    refine xx_icmp_ge (tgt := 81) dX3_init_55 (by decide) (fun h => absurd h (nI_ge (a := i) (b := 64) (by omega) (by omega))) (fun j55 => ?_)
    refine xx_aload_n dX3_init_58 rfl ?_
    refine xx_get xx_c3 dX3_init_59 wf_X3_9 (j := 1) (by decide) hb2 rfl ?_
    refine xx_iload_n dX3_init_62 rfl ?_
    refine xx_aload_n dX3_init_63 rfl ?_
    refine xx_iload_n dX3_init_64 rfl ?_
    refine xx_callS (N := mJ6_bitCount) (vs := [.int (nI i)]) (rest := [.ref sa, .int (nI i), .ref ra]) (d2 := 0) (c2 := 0) (s2 := 0) (c3 := 0) (s3 := 0) dX3_init_65 wm_X3_28 ws_J6_bitCount wz_J6 (by decide) nJ6_bitCount ⟨pJ6_bitCount, Nat.le_of_ble_eq_true rfl, by decide, Nat.le_of_ble_eq_true rfl, by decide, by decide⟩ (c_J6_bitCount (a := i) (by omega)) (fun v9 B9 hC => ?_) (fun E9 B9 hC => absurd hC.1 (by simp))
    obtain ⟨hv9, e9⟩ := hC
    cases hv9
    refine xx_cst (st2 := [.int (nI (yb_c i)), .ref sa, .int (nI i), .ref ra]) rfl ?_
    rw [e9]
    have c6 := yb_c6 i (by omega)
    refine xx_dup2_11 dX3_init_68 rfl rfl ?_
    refine xx_iald dX3_init_69 y3 (vp_in_nI (by omega) (by decide)) ?_
    refine xx_eqi (y := nI (yk_r i)) (by rw [nI_clamp (by omega), y5 _ (by omega)]; unfold yk_r; rw [yk_cq]) ?_
    refine xx_dup_x2 dX3_init_70 rfl rfl rfl ?_
    refine xx_iconst (v := 1) dX3_init_71 (by decide) ?_
    refine xx_iadd dX3_init_72 ?_
    refine xx_eqi (y := nI (yk_r i + 1)) (nI_add (yk_r i) 1) ?_
    refine xx_iast dX3_init_73 y3 (vp_in_nI (by omega) (by decide)) (xx_gu fun Eq1 z1 h1 o1 => ?_)
    rw [nI_clamp (by omega)] at h1
    refine xx_iast dX3_init_74 ((o1 ra (by omega)).trans y2) (vp_in_nI (by omega) (by decide)) (xx_gu fun Eq2 z2 h2 o2 => ?_)
    rw [nI_clamp (by omega)] at h2
    refine xx_iinc (v := nI (i + 1)) dX3_init_75 rfl (nI_1 i) (by decide) ?_
    refine xx_clv (lv2 := [(0, .ref b), (2, .ref sa), (3, .int (nI (i + 1)))]) rfl ?_
    refine xx_goto (tgt := 49) dX3_init_78 (by decide) ?_
    refine xx_less [0, 2, 3] ?_
    refine xx_clv (lv2 := [(0, .ref b), (2, .ref sa), (3, .int (nI (i + 1)))]) rfl ?_
    refine ih (i + 1) (by omega) Eq2 _ _ (by omega) h2 ((o2 sa n3).trans h1) (fun S hS => ?_) (fun k hk => ?_) (fun q a1 a2 => (o2 q a1).trans ((o1 q a2).trans (y6 q a1 a2)))
    · by_cases z : S = i
      · rw [z, pk_us]
      · rw [pk_un z]; exact y4 S (by omega)
    · by_cases z : k = yb_c i
      · rw [z, pk_us]
        show nI (yk_r i + 1) = nI (yk_q (yb_c i) i + if yb_c i = yb_c i then 1 else 0)
        rw [if_pos rfl]; unfold yk_r; rw [yk_cq]
      · rw [pk_un z, y5 k hk]
        show nI (yk_q k i) = nI (yk_q k i + if yb_c i = k then 1 else 0)
        rw [if_neg (fun e => z e.symm), Nat.add_zero]
set_option maxRecDepth 100000 in
theorem c_X3_init {G : xx_G} {l : Launch} {A : xx_H} {b py : Nat} (hb : A.2 b = xx_o 3 [.null, .null, .null, .null, .null]) (e : A.1 = b + 1) : xx_X G l mX3_init 1 5 5657 0 (lv_args 0 [.ref b, .ref py]) [] A (fun z B => z = .inl none ∧ B.1 = b + 6 ∧ xx_mno B b py yk_H0 ∧ ∀ q, q < b → B.2 q = A.2 q) := by
  refine xx_clv (lv2 := [(0, .ref b), (1, .ref py)]) rfl ?_
  refine xx_aload_n dX3_init_0 rfl ?_
  refine xx_obji dX3_init_1 wm_X3_3 wo_i wo_c (by decide) (Nat.le_of_ble_eq_true rfl) ?_
  refine xx_aload_n dX3_init_4 rfl ?_
  refine xx_bipush (v := 64) dX3_init_5 (by decide) ?_
  refine xx_newa (kd := 1) (N := 64) (z := .int 0) dX3_init_7 (by decide) rfl (by intro C h; cases h) wa_int rfl (by decide) (by decide) (by decide) (xx_gp fun A1 z1 h1 o1 => ?_)
  have t1 : A1.1 = A.1 + 1 := by omega
  have h1 : A1.2 A.1 = xx_i 64 (fun _ => 0) := h1
  have hb_1 := (o1 b (by omega)).trans hb
  refine xx_putF xx_c3 dX3_init_9 wf_X3_9 (j := 1) (by decide) rfl rfl rfl rfl rfl hb_1 (Nat.le_of_ble_eq_true rfl) (xx_gu fun A2 z2 h2 o2 => ?_)
  have h2 : A2.2 b = xx_o 3 [.null, .ref A.1, .null, .null, .null] := h2
  have h1_2 := (o2 A.1 (by omega)).trans h1
  have t2 : A2.1 = A.1 + 1 := by omega
  refine xx_aload_n dX3_init_12 rfl ?_
  refine xx_sipush (v := 5544) dX3_init_13 (by decide) ?_
  refine xx_newa (kd := 1) (N := 5544) (z := .int 0) dX3_init_16 (by decide) rfl (by intro C h; cases h) wa_int rfl (by decide) (by decide) (by decide) (xx_gp fun A3 z3 h3 o3 => ?_)
  rw [t2] at h3 ⊢
  have t3 : A3.1 = A.1 + 2 := by omega
  have h3 : A3.2 (A.1 + 1) = xx_i 5544 (fun _ => 0) := h3
  have h2_3 := (o3 b (by omega)).trans h2
  have h1_3 := (o3 A.1 (by omega)).trans h1_2
  refine xx_putF xx_c3 dX3_init_18 wf_X3_15 (j := 2) (by decide) rfl rfl rfl rfl rfl h2_3 (Nat.le_of_ble_eq_true rfl) (xx_gu fun A4 z4 h4 o4 => ?_)
  have h4 : A4.2 b = xx_o 3 [.null, .ref A.1, .ref (A.1 + 1), .null, .null] := h4
  have h1_4 := (o4 A.1 (by omega)).trans h1_3
  have h3_4 := (o4 (A.1 + 1) (by omega)).trans h3
  have t4 : A4.1 = A.1 + 2 := by omega
  refine xx_aload_n dX3_init_21 rfl ?_
  refine xx_bipush (v := 36) dX3_init_22 (by decide) ?_
  refine xx_newa (kd := 1) (N := 36) (z := .int 0) dX3_init_24 (by decide) rfl (by intro C h; cases h) wa_int rfl (by decide) (by decide) (by decide) (xx_gp fun A5 z5 h5 o5 => ?_)
  rw [t4] at h5 ⊢
  have t5 : A5.1 = A.1 + 3 := by omega
  have h5 : A5.2 (A.1 + 2) = xx_i 36 (fun _ => 0) := h5
  have h4_5 := (o5 b (by omega)).trans h4
  have h1_5 := (o5 A.1 (by omega)).trans h1_4
  have h3_5 := (o5 (A.1 + 1) (by omega)).trans h3_4
  refine xx_putF xx_c3 dX3_init_26 wf_X3_18 (j := 3) (by decide) rfl rfl rfl rfl rfl h4_5 (Nat.le_of_ble_eq_true rfl) (xx_gu fun A6 z6 h6 o6 => ?_)
  have h6 : A6.2 b = xx_o 3 [.null, .ref A.1, .ref (A.1 + 1), .ref (A.1 + 2), .null] := h6
  have h1_6 := (o6 A.1 (by omega)).trans h1_5
  have h3_6 := (o6 (A.1 + 1) (by omega)).trans h3_5
  have h5_6 := (o6 (A.1 + 2) (by omega)).trans h5
  have t6 : A6.1 = A.1 + 3 := by omega
  refine xx_aload_n dX3_init_29 rfl ?_
  refine xx_bipush (v := 6) dX3_init_30 (by decide) ?_
  refine xx_newa (kd := 1) (N := 6) (z := .int 0) dX3_init_32 (by decide) rfl (by intro C h; cases h) wa_int rfl (by decide) (by decide) (by decide) (xx_gp fun A7 z7 h7 o7 => ?_)
  rw [t6] at h7 ⊢
  have t7 : A7.1 = A.1 + 4 := by omega
  have h7 : A7.2 (A.1 + 3) = xx_i 6 (fun _ => 0) := h7
  have h6_7 := (o7 b (by omega)).trans h6
  have h1_7 := (o7 A.1 (by omega)).trans h1_6
  have h3_7 := (o7 (A.1 + 1) (by omega)).trans h3_6
  have h5_7 := (o7 (A.1 + 2) (by omega)).trans h5_6
  refine xx_putF xx_c3 dX3_init_34 wf_X3_21 (j := 4) (by decide) rfl rfl rfl rfl rfl h6_7 (Nat.le_of_ble_eq_true rfl) (xx_gu fun A8 z8 h8 o8 => ?_)
  have h8 : A8.2 b = xx_o 3 [.null, .ref A.1, .ref (A.1 + 1), .ref (A.1 + 2), .ref (A.1 + 3)] := h8
  have h1_8 := (o8 A.1 (by omega)).trans h1_7
  have h3_8 := (o8 (A.1 + 1) (by omega)).trans h3_7
  have h5_8 := (o8 (A.1 + 2) (by omega)).trans h5_7
  have h7_8 := (o8 (A.1 + 3) (by omega)).trans h7
  have t8 : A8.1 = A.1 + 4 := by omega
  refine xx_aload_n dX3_init_37 rfl ?_
  refine xx_aload_n dX3_init_38 rfl ?_
  refine xx_putF xx_c3 dX3_init_39 wf_X3_24 (j := 0) (by decide) rfl rfl rfl rfl rfl h8 (Nat.le_of_ble_eq_true rfl) (xx_gu fun A9 z9 h9 o9 => ?_)
  have h9 : A9.2 b = xx_o 3 [.ref py, .ref A.1, .ref (A.1 + 1), .ref (A.1 + 2), .ref (A.1 + 3)] := h9
  have h1_9 := (o9 A.1 (by omega)).trans h1_8
  have h3_9 := (o9 (A.1 + 1) (by omega)).trans h3_8
  have h5_9 := (o9 (A.1 + 2) (by omega)).trans h5_8
  have h7_9 := (o9 (A.1 + 3) (by omega)).trans h7_8
  have t9 : A9.1 = A.1 + 4 := by omega
  refine xx_bipush (v := 7) dX3_init_42 (by decide) ?_
  refine xx_newa (kd := 1) (N := 7) (z := .int 0) dX3_init_44 (by decide) rfl (by intro C h; cases h) wa_int rfl (by decide) (by decide) (by decide) (xx_gp fun A10 z10 h10 o10 => ?_)
  rw [t9] at h10 ⊢
  have t10 : A10.1 = A.1 + 5 := by omega
  have h10 : A10.2 (A.1 + 4) = xx_i 7 (fun _ => 0) := h10
  have h9_10 := (o10 b (by omega)).trans h9
  have h1_10 := (o10 A.1 (by omega)).trans h1_9
  have h3_10 := (o10 (A.1 + 1) (by omega)).trans h3_9
  have h5_10 := (o10 (A.1 + 2) (by omega)).trans h5_9
  have h7_10 := (o10 (A.1 + 3) (by omega)).trans h7_9
  refine xx_astore_n dX3_init_46 (by decide) ?_
  refine xx_clv (lv2 := [(0, .ref b), (1, .ref py), (2, .ref (A.1 + 4))]) rfl ?_
  refine xx_iconst (v := 0) dX3_init_47 (by decide) ?_
  refine xx_istore_n dX3_init_48 (by decide) ?_
  refine xx_clv (lv2 := [(0, .ref b), (1, .ref py), (2, .ref (A.1 + 4)), (3, .int 0)]) rfl ?_
  have fr9 : ∀ q, q < b → A10.2 q = A.2 q := fun q hq => by rw [o10 q (by omega), o9 q (by omega), o8 q (by omega), o7 q (by omega), o6 q (by omega), o5 q (by omega), o4 q (by omega), o3 q (by omega), o2 q (by omega), o1 q (by omega)]
  have q1 := h1_10
  have q2 := h3_10
  have q3 := h5_10
  have q4 := h7_10
  have q5 := h10
  have q0 := h9_10
  refine xx_room (d2 := 1) (c2 := 0) (s2 := 0) (by decide) (by decide) (by decide) ?_
  refine xx_less [0, 2, 3] ?_
  refine xx_clv (lv2 := [(0, .ref b), (2, .ref (A.1 + 4)), (3, .int (nI 0))]) rfl ?_
  refine l_X3_in (A := A10) q0 (by omega) (by omega) (by omega) (fun B f g y1 y2 y3 y4 y5 y6 => ?_) 64 0 (by omega) A10 (fun _ => 0) (fun _ => 0) rfl q1 q5 (fun S hS => absurd hS (Nat.not_lt_zero S)) (fun k _ => rfl) (fun q _ _ => rfl)
  have hb2 := (y6 b (by omega) (by omega)).trans q0
  have m2 := (y6 (A.1 + 1) (by omega) (by omega)).trans q2
  refine xx_aload_n dX3_init_81 rfl ?_
  refine xx_get xx_c3 dX3_init_82 wf_X3_15 (j := 2) (by decide) hb2 rfl ?_
  refine xx_iconst (v := 0) dX3_init_85 (by decide) ?_
  refine xx_iconst (v := 1) dX3_init_86 (by decide) ?_
  refine xx_iast dX3_init_87 m2 (by unfold vp_in; decide) (xx_gu fun Eq1 z1 h1 o1 => ?_)
  have h1 : Eq1.2 (A.1 + 1) = xx_i 5544 (upd (fun _ => 0) 0 1) := h1
  have gg : ∀ q, q ≠ A.1 → q ≠ A.1 + 4 → q ≠ A.1 + 1 → Eq1.2 q = A10.2 q := fun q a1 a2 a3 => (o1 q a3).trans (y6 q a1 a2)
  have k0 := (o1 b (by omega)).trans hb2
  have k1 := (o1 A.1 (by omega)).trans y2
  have k3 := (gg (A.1 + 2) (by omega) (by omega) (by omega)).trans q3
  have k4 := (gg (A.1 + 3) (by omega) (by omega) (by omega)).trans q4
  have zz : Eq1.1 = b + 6 := by omega
  rw [e] at k0 k1 k3 k4 h1
  refine xx_vret dX3_init_88 rfl ⟨rfl, zz, ⟨k0, ⟨f, k1, y4⟩, ⟨_, h1, ⟨fun i => if i = 0 then 1 else 0, fun i hi => ?_, ?_⟩⟩, ⟨_, k3⟩, ⟨_, k4⟩⟩, fun q hq => (gg q (by omega) (by omega) (by omega)).trans (fr9 q hq)⟩
  · dsimp only
    by_cases z : i = 0
    · rw [if_pos z, z]; exact ⟨by decide, rfl⟩
    · rw [if_neg z, pk_un (by omega)]; exact ⟨by decide, rfl⟩
  · decide +kernel
