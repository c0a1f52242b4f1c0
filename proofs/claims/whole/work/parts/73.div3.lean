/-! ===== digits from the top; numberOfLeadingZeros; divideByDigit ===== -/
def yy_sh (D : Nat → Nat) (n : Nat) : Nat → Nat := fun j => D (n + j)
theorem yy_sh0 (D : Nat → Nat) : yy_sh D 0 = D := funext fun j => by unfold yy_sh; rw [Nat.zero_add]
theorem yy_val_cons {β : Nat} (D : Nat → Nat) (m : Nat) : yy_val β D (m + 1) = D 0 + β * yy_val β (fun j => D (j + 1)) m := by
  induction m with
  | zero => show 0 + D 0 * β ^ 0 = D 0 + β * 0; simp
  | succ m ih =>
    show yy_val β D (m + 1) + D (m + 1) * β ^ (m + 1) = D 0 + β * (yy_val β (fun j => D (j + 1)) m + D (m + 1) * β ^ m)
    rw [ih, Nat.pow_succ]
    generalize β ^ m = P; grind
theorem yy_sh_cons {β : Nat} (D : Nat → Nat) (n m : Nat) : yy_val β (yy_sh D n) (m + 1) = D n + β * yy_val β (yy_sh D (n + 1)) m := by
  rw [yy_val_cons]
  show D (n + 0) + β * yy_val β (fun j => D (n + (j + 1))) m = _
  rw [Nat.add_zero]
  congr 2
  exact yy_val_ext (fun i _ => by show D (n + (i + 1)) = D (n + 1 + i); congr 1; omega)
theorem yy_split {β : Nat} (D : Nat → Nat) (a b : Nat) : yy_val β D (a + b) = yy_val β D a + β ^ a * yy_val β (yy_sh D a) b := by
  induction b with
  | zero => show yy_val β D a = _ + _ * 0; simp
  | succ b ih =>
    show yy_val β D (a + b) + D (a + b) * β ^ (a + b) = yy_val β D a + β ^ a * (yy_val β (yy_sh D a) b + D (a + b) * β ^ b)
    rw [ih, Nat.pow_add]
    generalize β ^ a = P; generalize β ^ b = R; grind
theorem yy_m1 (n : Nat) : nI n - 1 = nI n + (-1) := Int32.sub_eq_add_neg _ _
theorem yy_dstep {X0 V Z dg left β : Nat} (h : V = Z * dg + left) : X0 + β * V = ((left * β + X0) / dg + β * Z) * dg + (left * β + X0) % dg := by
  have e := Nat.div_add_mod (left * β + X0) dg
  generalize (left * β + X0) / dg = q at e ⊢
  generalize (left * β + X0) % dg = r at e ⊢
  subst h
  grind
theorem yy_sgl (u : Int) : -2 ^ 31 ≤ u.sign := by rcases Int.lt_trichotomy u 0 with h | h | h <;> first | (rw [Int.sign_eq_neg_one_of_neg h]; decide) | (subst h; decide) | (rw [Int.sign_eq_one_of_pos h]; decide)
theorem yy_sgh (u : Int) : u.sign < 2 ^ 31 := by rcases Int.lt_trichotomy u 0 with h | h | h <;> first | (rw [Int.sign_eq_neg_one_of_neg h]; decide) | (subst h; decide) | (rw [Int.sign_eq_one_of_pos h]; decide)
theorem yy_sge (u : Int) (e : Nat) (he : e < 2147483648) : -2 ^ 63 < u.sign * (e : Int) ∧ u.sign * (e : Int) < 2 ^ 63 := by
  rcases Int.lt_trichotomy u 0 with h | h | h
  · rw [Int.sign_eq_neg_one_of_neg h]; omega
  · subst h; show -2 ^ 63 < (0 : Int) * _ ∧ (0 : Int) * _ < _; omega
  · rw [Int.sign_eq_one_of_pos h]; omega
set_option maxRecDepth 100000 in
theorem c_J6_nlz {G : xx_G} {l : Launch} {A : xx_H} {x : Nat} (h0 : 0 < x) (hx : x < 2 ^ 31) : xx_X G l mJ6_nlz 0 0 0 0 (lv_args 0 [.int (nI x)]) [] A (fun r B => ∃ k, r = .inl (some (.int (nI k))) ∧ B = A ∧ 1 ≤ k ∧ k ≤ 31 ∧ 2 ^ (31 - k) ≤ x ∧ x < 2 ^ (32 - k)) := by
  refine xx_clv (lv2 := [(0, .int (nI x))]) rfl ?_
  refine xx_iload_n dJ6_nlz_0 rfl ?_
  refine xx_if_gt (tgt := 15) dJ6_nlz_1 (by decide) (fun j1 => ?_) (fun h => absurd ((nI_ltI (a := 0) (b := x) (by decide) hx).mpr h0) h)
  refine xx_bipush (v := 31) dJ6_nlz_15 (by decide) ?_
  refine xx_istore_n dJ6_nlz_17 (by decide) ?_
  refine xx_clv (lv2 := [(0, .int (nI x)), (1, .int 31)]) rfl ?_
  refine xx_iload_n dJ6_nlz_18 rfl ?_
  refine xx_ldcw (v := 65536) dJ6_nlz_19 wk_J6_264 ?_
  refine xx_icmp_lt (tgt := 33) dJ6_nlz_22 (by decide) (fun j22 => ?_) (fun j22 => ?_)
  · have j22 : x < 65536 := (nI_ltI (a := x) (b := 65536) (by omega) (by omega)).mp j22
    refine xx_iload_n dJ6_nlz_33 rfl ?_
    refine xx_sipush (v := 256) dJ6_nlz_34 (by decide) ?_
    refine xx_icmp_lt (tgt := 48) dJ6_nlz_37 (by decide) (fun j37 => ?_) (fun j37 => ?_)
    · have j37 : x < 256 := (nI_ltI (a := x) (b := 256) (by omega) (by omega)).mp j37
      refine xx_iload_n dJ6_nlz_48 rfl ?_
      refine xx_bipush (v := 16) dJ6_nlz_49 (by decide) ?_
      refine xx_icmp_lt (tgt := 61) dJ6_nlz_51 (by decide) (fun j51 => ?_) (fun j51 => ?_)
      · have j51 : x < 16 := (nI_ltI (a := x) (b := 16) (by omega) (by omega)).mp j51
        refine xx_iload_n dJ6_nlz_61 rfl ?_
        refine xx_iconst (v := 4) dJ6_nlz_62 (by decide) ?_
        refine xx_icmp_lt (tgt := 73) dJ6_nlz_63 (by decide) (fun j63 => ?_) (fun j63 => ?_)
        · have j63 : x < 4 := (nI_ltI (a := x) (b := 4) (by omega) (by omega)).mp j63
          refine xx_iload_n dJ6_nlz_73 rfl ?_
          refine xx_iload_n dJ6_nlz_74 rfl ?_
          refine xx_iconst (v := 1) dJ6_nlz_75 (by decide) ?_
          refine xx_iushr dJ6_nlz_76 ?_
          refine xx_eqi (y := nI (x / 2)) (pk_ushrN (n := x) (by omega) 1 1 (by decide)) ?_
          refine xx_isub dJ6_nlz_77 ?_
          refine xx_eqi (y := nI (31 - (x / 2))) (pk_sub (a := 31) (b := x / 2) (by omega)) ?_
          rcases (by omega : x / 2 = 0 ∨ x / 2 = 1) with e | e
          · exact xx_iret dJ6_nlz_78 rfl ⟨31, by rw [e], rfl, by decide, by decide, by show 1 ≤ x; omega, by show x < 2; omega⟩
          · exact xx_iret dJ6_nlz_78 rfl ⟨30, by rw [e], rfl, by decide, by decide, by show 2 ≤ x; omega, by show x < 4; omega⟩
        · have j63 : ¬ x < 4 := fun q => j63 ((nI_ltI (a := x) (b := 4) (by omega) (by omega)).mpr q)
          refine xx_iinc (v := 29) dJ6_nlz_66 rfl (by decide) (by decide) ?_
          refine xx_clv (lv2 := [(0, .int (nI x)), (1, .int 29)]) rfl ?_
          refine xx_iload_n dJ6_nlz_69 rfl ?_
          refine xx_iconst (v := 2) dJ6_nlz_70 (by decide) ?_
          refine xx_iushr dJ6_nlz_71 ?_
          refine xx_eqi (y := nI (x / 4)) (pk_ushrN (n := x) (by omega) 2 2 (by decide)) ?_
          refine xx_istore_n dJ6_nlz_72 (by decide) ?_
          refine xx_clv (lv2 := [(0, .int (nI (x / 4))), (1, .int 29)]) rfl ?_
          refine xx_iload_n dJ6_nlz_73 rfl ?_
          refine xx_iload_n dJ6_nlz_74 rfl ?_
          refine xx_iconst (v := 1) dJ6_nlz_75 (by decide) ?_
          refine xx_iushr dJ6_nlz_76 ?_
          refine xx_eqi (y := nI ((x / 4) / 2)) (pk_ushrN (n := (x / 4)) (by omega) 1 1 (by decide)) ?_
          refine xx_isub dJ6_nlz_77 ?_
          refine xx_eqi (y := nI (29 - ((x / 4) / 2))) (pk_sub (a := 29) (b := (x / 4) / 2) (by omega)) ?_
          rcases (by omega : ((x / 4)) / 2 = 0 ∨ ((x / 4)) / 2 = 1) with e | e
          · exact xx_iret dJ6_nlz_78 rfl ⟨29, by rw [e], rfl, by decide, by decide, by show 4 ≤ x; omega, by show x < 8; omega⟩
          · exact xx_iret dJ6_nlz_78 rfl ⟨28, by rw [e], rfl, by decide, by decide, by show 8 ≤ x; omega, by show x < 16; omega⟩
      · have j51 : ¬ x < 16 := fun q => j51 ((nI_ltI (a := x) (b := 16) (by omega) (by omega)).mpr q)
        refine xx_iinc (v := 27) dJ6_nlz_54 rfl (by decide) (by decide) ?_
        refine xx_clv (lv2 := [(0, .int (nI x)), (1, .int 27)]) rfl ?_
        refine xx_iload_n dJ6_nlz_57 rfl ?_
        refine xx_iconst (v := 4) dJ6_nlz_58 (by decide) ?_
        refine xx_iushr dJ6_nlz_59 ?_
        refine xx_eqi (y := nI (x / 16)) (pk_ushrN (n := x) (by omega) 4 4 (by decide)) ?_
        refine xx_istore_n dJ6_nlz_60 (by decide) ?_
        refine xx_clv (lv2 := [(0, .int (nI (x / 16))), (1, .int 27)]) rfl ?_
        refine xx_iload_n dJ6_nlz_61 rfl ?_
        refine xx_iconst (v := 4) dJ6_nlz_62 (by decide) ?_
        refine xx_icmp_lt (tgt := 73) dJ6_nlz_63 (by decide) (fun j63 => ?_) (fun j63 => ?_)
        · have j63 : x / 16 < 4 := (nI_ltI (a := x / 16) (b := 4) (by omega) (by omega)).mp j63
          refine xx_iload_n dJ6_nlz_73 rfl ?_
          refine xx_iload_n dJ6_nlz_74 rfl ?_
          refine xx_iconst (v := 1) dJ6_nlz_75 (by decide) ?_
          refine xx_iushr dJ6_nlz_76 ?_
          refine xx_eqi (y := nI ((x / 16) / 2)) (pk_ushrN (n := (x / 16)) (by omega) 1 1 (by decide)) ?_
          refine xx_isub dJ6_nlz_77 ?_
          refine xx_eqi (y := nI (27 - ((x / 16) / 2))) (pk_sub (a := 27) (b := (x / 16) / 2) (by omega)) ?_
          rcases (by omega : ((x / 16)) / 2 = 0 ∨ ((x / 16)) / 2 = 1) with e | e
          · exact xx_iret dJ6_nlz_78 rfl ⟨27, by rw [e], rfl, by decide, by decide, by show 16 ≤ x; omega, by show x < 32; omega⟩
          · exact xx_iret dJ6_nlz_78 rfl ⟨26, by rw [e], rfl, by decide, by decide, by show 32 ≤ x; omega, by show x < 64; omega⟩
        · have j63 : ¬ x / 16 < 4 := fun q => j63 ((nI_ltI (a := x / 16) (b := 4) (by omega) (by omega)).mpr q)
          refine xx_iinc (v := 25) dJ6_nlz_66 rfl (by decide) (by decide) ?_
          refine xx_clv (lv2 := [(0, .int (nI (x / 16))), (1, .int 25)]) rfl ?_
          refine xx_iload_n dJ6_nlz_69 rfl ?_
          refine xx_iconst (v := 2) dJ6_nlz_70 (by decide) ?_
          refine xx_iushr dJ6_nlz_71 ?_
          refine xx_eqi (y := nI ((x / 16) / 4)) (pk_ushrN (n := (x / 16)) (by omega) 2 2 (by decide)) ?_
          refine xx_istore_n dJ6_nlz_72 (by decide) ?_
          refine xx_clv (lv2 := [(0, .int (nI ((x / 16) / 4))), (1, .int 25)]) rfl ?_
          refine xx_iload_n dJ6_nlz_73 rfl ?_
          refine xx_iload_n dJ6_nlz_74 rfl ?_
          refine xx_iconst (v := 1) dJ6_nlz_75 (by decide) ?_
          refine xx_iushr dJ6_nlz_76 ?_
          refine xx_eqi (y := nI (((x / 16) / 4) / 2)) (pk_ushrN (n := ((x / 16) / 4)) (by omega) 1 1 (by decide)) ?_
          refine xx_isub dJ6_nlz_77 ?_
          refine xx_eqi (y := nI (25 - (((x / 16) / 4) / 2))) (pk_sub (a := 25) (b := ((x / 16) / 4) / 2) (by omega)) ?_
          rcases (by omega : (((x / 16) / 4)) / 2 = 0 ∨ (((x / 16) / 4)) / 2 = 1) with e | e
          · exact xx_iret dJ6_nlz_78 rfl ⟨25, by rw [e], rfl, by decide, by decide, by show 64 ≤ x; omega, by show x < 128; omega⟩
          · exact xx_iret dJ6_nlz_78 rfl ⟨24, by rw [e], rfl, by decide, by decide, by show 128 ≤ x; omega, by show x < 256; omega⟩
    · have j37 : ¬ x < 256 := fun q => j37 ((nI_ltI (a := x) (b := 256) (by omega) (by omega)).mpr q)
      refine xx_iinc (v := 23) dJ6_nlz_40 rfl (by decide) (by decide) ?_
      refine xx_clv (lv2 := [(0, .int (nI x)), (1, .int 23)]) rfl ?_
      refine xx_iload_n dJ6_nlz_43 rfl ?_
      refine xx_bipush (v := 8) dJ6_nlz_44 (by decide) ?_
      refine xx_iushr dJ6_nlz_46 ?_
      refine xx_eqi (y := nI (x / 256)) (pk_ushrN (n := x) (by omega) 8 8 (by decide)) ?_
      refine xx_istore_n dJ6_nlz_47 (by decide) ?_
      refine xx_clv (lv2 := [(0, .int (nI (x / 256))), (1, .int 23)]) rfl ?_
      refine xx_iload_n dJ6_nlz_48 rfl ?_
      refine xx_bipush (v := 16) dJ6_nlz_49 (by decide) ?_
      refine xx_icmp_lt (tgt := 61) dJ6_nlz_51 (by decide) (fun j51 => ?_) (fun j51 => ?_)
      · have j51 : x / 256 < 16 := (nI_ltI (a := x / 256) (b := 16) (by omega) (by omega)).mp j51
        refine xx_iload_n dJ6_nlz_61 rfl ?_
        refine xx_iconst (v := 4) dJ6_nlz_62 (by decide) ?_
        refine xx_icmp_lt (tgt := 73) dJ6_nlz_63 (by decide) (fun j63 => ?_) (fun j63 => ?_)
        · have j63 : x / 256 < 4 := (nI_ltI (a := x / 256) (b := 4) (by omega) (by omega)).mp j63
          refine xx_iload_n dJ6_nlz_73 rfl ?_
          refine xx_iload_n dJ6_nlz_74 rfl ?_
          refine xx_iconst (v := 1) dJ6_nlz_75 (by decide) ?_
          refine xx_iushr dJ6_nlz_76 ?_
          refine xx_eqi (y := nI ((x / 256) / 2)) (pk_ushrN (n := (x / 256)) (by omega) 1 1 (by decide)) ?_
          refine xx_isub dJ6_nlz_77 ?_
          refine xx_eqi (y := nI (23 - ((x / 256) / 2))) (pk_sub (a := 23) (b := (x / 256) / 2) (by omega)) ?_
          rcases (by omega : ((x / 256)) / 2 = 0 ∨ ((x / 256)) / 2 = 1) with e | e
          · exact xx_iret dJ6_nlz_78 rfl ⟨23, by rw [e], rfl, by decide, by decide, by show 256 ≤ x; omega, by show x < 512; omega⟩
          · exact xx_iret dJ6_nlz_78 rfl ⟨22, by rw [e], rfl, by decide, by decide, by show 512 ≤ x; omega, by show x < 1024; omega⟩
        · have j63 : ¬ x / 256 < 4 := fun q => j63 ((nI_ltI (a := x / 256) (b := 4) (by omega) (by omega)).mpr q)
          refine xx_iinc (v := 21) dJ6_nlz_66 rfl (by decide) (by decide) ?_
          refine xx_clv (lv2 := [(0, .int (nI (x / 256))), (1, .int 21)]) rfl ?_
          refine xx_iload_n dJ6_nlz_69 rfl ?_
          refine xx_iconst (v := 2) dJ6_nlz_70 (by decide) ?_
          refine xx_iushr dJ6_nlz_71 ?_
          refine xx_eqi (y := nI ((x / 256) / 4)) (pk_ushrN (n := (x / 256)) (by omega) 2 2 (by decide)) ?_
          refine xx_istore_n dJ6_nlz_72 (by decide) ?_
          refine xx_clv (lv2 := [(0, .int (nI ((x / 256) / 4))), (1, .int 21)]) rfl ?_
          refine xx_iload_n dJ6_nlz_73 rfl ?_
          refine xx_iload_n dJ6_nlz_74 rfl ?_
          refine xx_iconst (v := 1) dJ6_nlz_75 (by decide) ?_
          refine xx_iushr dJ6_nlz_76 ?_
          refine xx_eqi (y := nI (((x / 256) / 4) / 2)) (pk_ushrN (n := ((x / 256) / 4)) (by omega) 1 1 (by decide)) ?_
          refine xx_isub dJ6_nlz_77 ?_
          refine xx_eqi (y := nI (21 - (((x / 256) / 4) / 2))) (pk_sub (a := 21) (b := ((x / 256) / 4) / 2) (by omega)) ?_
          rcases (by omega : (((x / 256) / 4)) / 2 = 0 ∨ (((x / 256) / 4)) / 2 = 1) with e | e
          · exact xx_iret dJ6_nlz_78 rfl ⟨21, by rw [e], rfl, by decide, by decide, by show 1024 ≤ x; omega, by show x < 2048; omega⟩
          · exact xx_iret dJ6_nlz_78 rfl ⟨20, by rw [e], rfl, by decide, by decide, by show 2048 ≤ x; omega, by show x < 4096; omega⟩
      · have j51 : ¬ x / 256 < 16 := fun q => j51 ((nI_ltI (a := x / 256) (b := 16) (by omega) (by omega)).mpr q)
        refine xx_iinc (v := 19) dJ6_nlz_54 rfl (by decide) (by decide) ?_
        refine xx_clv (lv2 := [(0, .int (nI (x / 256))), (1, .int 19)]) rfl ?_
        refine xx_iload_n dJ6_nlz_57 rfl ?_
        refine xx_iconst (v := 4) dJ6_nlz_58 (by decide) ?_
        refine xx_iushr dJ6_nlz_59 ?_
        refine xx_eqi (y := nI ((x / 256) / 16)) (pk_ushrN (n := (x / 256)) (by omega) 4 4 (by decide)) ?_
        refine xx_istore_n dJ6_nlz_60 (by decide) ?_
        refine xx_clv (lv2 := [(0, .int (nI ((x / 256) / 16))), (1, .int 19)]) rfl ?_
        refine xx_iload_n dJ6_nlz_61 rfl ?_
        refine xx_iconst (v := 4) dJ6_nlz_62 (by decide) ?_
        refine xx_icmp_lt (tgt := 73) dJ6_nlz_63 (by decide) (fun j63 => ?_) (fun j63 => ?_)
        · have j63 : (x / 256) / 16 < 4 := (nI_ltI (a := (x / 256) / 16) (b := 4) (by omega) (by omega)).mp j63
          refine xx_iload_n dJ6_nlz_73 rfl ?_
          refine xx_iload_n dJ6_nlz_74 rfl ?_
          refine xx_iconst (v := 1) dJ6_nlz_75 (by decide) ?_
          refine xx_iushr dJ6_nlz_76 ?_
          refine xx_eqi (y := nI (((x / 256) / 16) / 2)) (pk_ushrN (n := ((x / 256) / 16)) (by omega) 1 1 (by decide)) ?_
          refine xx_isub dJ6_nlz_77 ?_
          refine xx_eqi (y := nI (19 - (((x / 256) / 16) / 2))) (pk_sub (a := 19) (b := ((x / 256) / 16) / 2) (by omega)) ?_
          rcases (by omega : (((x / 256) / 16)) / 2 = 0 ∨ (((x / 256) / 16)) / 2 = 1) with e | e
          · exact xx_iret dJ6_nlz_78 rfl ⟨19, by rw [e], rfl, by decide, by decide, by show 4096 ≤ x; omega, by show x < 8192; omega⟩
          · exact xx_iret dJ6_nlz_78 rfl ⟨18, by rw [e], rfl, by decide, by decide, by show 8192 ≤ x; omega, by show x < 16384; omega⟩
        · have j63 : ¬ (x / 256) / 16 < 4 := fun q => j63 ((nI_ltI (a := (x / 256) / 16) (b := 4) (by omega) (by omega)).mpr q)
          refine xx_iinc (v := 17) dJ6_nlz_66 rfl (by decide) (by decide) ?_
          refine xx_clv (lv2 := [(0, .int (nI ((x / 256) / 16))), (1, .int 17)]) rfl ?_
          refine xx_iload_n dJ6_nlz_69 rfl ?_
          refine xx_iconst (v := 2) dJ6_nlz_70 (by decide) ?_
          refine xx_iushr dJ6_nlz_71 ?_
          refine xx_eqi (y := nI (((x / 256) / 16) / 4)) (pk_ushrN (n := ((x / 256) / 16)) (by omega) 2 2 (by decide)) ?_
          refine xx_istore_n dJ6_nlz_72 (by decide) ?_
          refine xx_clv (lv2 := [(0, .int (nI (((x / 256) / 16) / 4))), (1, .int 17)]) rfl ?_
          refine xx_iload_n dJ6_nlz_73 rfl ?_
          refine xx_iload_n dJ6_nlz_74 rfl ?_
          refine xx_iconst (v := 1) dJ6_nlz_75 (by decide) ?_
          refine xx_iushr dJ6_nlz_76 ?_
          refine xx_eqi (y := nI ((((x / 256) / 16) / 4) / 2)) (pk_ushrN (n := (((x / 256) / 16) / 4)) (by omega) 1 1 (by decide)) ?_
          refine xx_isub dJ6_nlz_77 ?_
          refine xx_eqi (y := nI (17 - ((((x / 256) / 16) / 4) / 2))) (pk_sub (a := 17) (b := (((x / 256) / 16) / 4) / 2) (by omega)) ?_
          rcases (by omega : ((((x / 256) / 16) / 4)) / 2 = 0 ∨ ((((x / 256) / 16) / 4)) / 2 = 1) with e | e
          · exact xx_iret dJ6_nlz_78 rfl ⟨17, by rw [e], rfl, by decide, by decide, by show 16384 ≤ x; omega, by show x < 32768; omega⟩
          · exact xx_iret dJ6_nlz_78 rfl ⟨16, by rw [e], rfl, by decide, by decide, by show 32768 ≤ x; omega, by show x < 65536; omega⟩
  · have j22 : ¬ x < 65536 := fun q => j22 ((nI_ltI (a := x) (b := 65536) (by omega) (by omega)).mpr q)
    refine xx_iinc (v := 15) dJ6_nlz_25 rfl (by decide) (by decide) ?_
    refine xx_clv (lv2 := [(0, .int (nI x)), (1, .int 15)]) rfl ?_
    refine xx_iload_n dJ6_nlz_28 rfl ?_
    refine xx_bipush (v := 16) dJ6_nlz_29 (by decide) ?_
    refine xx_iushr dJ6_nlz_31 ?_
    refine xx_eqi (y := nI (x / 65536)) (pk_ushrN (n := x) (by omega) 16 16 (by decide)) ?_
    refine xx_istore_n dJ6_nlz_32 (by decide) ?_
    refine xx_clv (lv2 := [(0, .int (nI (x / 65536))), (1, .int 15)]) rfl ?_
    refine xx_iload_n dJ6_nlz_33 rfl ?_
    refine xx_sipush (v := 256) dJ6_nlz_34 (by decide) ?_
    refine xx_icmp_lt (tgt := 48) dJ6_nlz_37 (by decide) (fun j37 => ?_) (fun j37 => ?_)
    · have j37 : x / 65536 < 256 := (nI_ltI (a := x / 65536) (b := 256) (by omega) (by omega)).mp j37
      refine xx_iload_n dJ6_nlz_48 rfl ?_
      refine xx_bipush (v := 16) dJ6_nlz_49 (by decide) ?_
      refine xx_icmp_lt (tgt := 61) dJ6_nlz_51 (by decide) (fun j51 => ?_) (fun j51 => ?_)
      · have j51 : x / 65536 < 16 := (nI_ltI (a := x / 65536) (b := 16) (by omega) (by omega)).mp j51
        refine xx_iload_n dJ6_nlz_61 rfl ?_
        refine xx_iconst (v := 4) dJ6_nlz_62 (by decide) ?_
        refine xx_icmp_lt (tgt := 73) dJ6_nlz_63 (by decide) (fun j63 => ?_) (fun j63 => ?_)
        · have j63 : x / 65536 < 4 := (nI_ltI (a := x / 65536) (b := 4) (by omega) (by omega)).mp j63
          refine xx_iload_n dJ6_nlz_73 rfl ?_
          refine xx_iload_n dJ6_nlz_74 rfl ?_
          refine xx_iconst (v := 1) dJ6_nlz_75 (by decide) ?_
          refine xx_iushr dJ6_nlz_76 ?_
          refine xx_eqi (y := nI ((x / 65536) / 2)) (pk_ushrN (n := (x / 65536)) (by omega) 1 1 (by decide)) ?_
          refine xx_isub dJ6_nlz_77 ?_
          refine xx_eqi (y := nI (15 - ((x / 65536) / 2))) (pk_sub (a := 15) (b := (x / 65536) / 2) (by omega)) ?_
          rcases (by omega : ((x / 65536)) / 2 = 0 ∨ ((x / 65536)) / 2 = 1) with e | e
          · exact xx_iret dJ6_nlz_78 rfl ⟨15, by rw [e], rfl, by decide, by decide, by show 65536 ≤ x; omega, by show x < 131072; omega⟩
          · exact xx_iret dJ6_nlz_78 rfl ⟨14, by rw [e], rfl, by decide, by decide, by show 131072 ≤ x; omega, by show x < 262144; omega⟩
        · have j63 : ¬ x / 65536 < 4 := fun q => j63 ((nI_ltI (a := x / 65536) (b := 4) (by omega) (by omega)).mpr q)
          refine xx_iinc (v := 13) dJ6_nlz_66 rfl (by decide) (by decide) ?_
          refine xx_clv (lv2 := [(0, .int (nI (x / 65536))), (1, .int 13)]) rfl ?_
          refine xx_iload_n dJ6_nlz_69 rfl ?_
          refine xx_iconst (v := 2) dJ6_nlz_70 (by decide) ?_
          refine xx_iushr dJ6_nlz_71 ?_
          refine xx_eqi (y := nI ((x / 65536) / 4)) (pk_ushrN (n := (x / 65536)) (by omega) 2 2 (by decide)) ?_
          refine xx_istore_n dJ6_nlz_72 (by decide) ?_
          refine xx_clv (lv2 := [(0, .int (nI ((x / 65536) / 4))), (1, .int 13)]) rfl ?_
          refine xx_iload_n dJ6_nlz_73 rfl ?_
          refine xx_iload_n dJ6_nlz_74 rfl ?_
          refine xx_iconst (v := 1) dJ6_nlz_75 (by decide) ?_
          refine xx_iushr dJ6_nlz_76 ?_
          refine xx_eqi (y := nI (((x / 65536) / 4) / 2)) (pk_ushrN (n := ((x / 65536) / 4)) (by omega) 1 1 (by decide)) ?_
          refine xx_isub dJ6_nlz_77 ?_
          refine xx_eqi (y := nI (13 - (((x / 65536) / 4) / 2))) (pk_sub (a := 13) (b := ((x / 65536) / 4) / 2) (by omega)) ?_
          rcases (by omega : (((x / 65536) / 4)) / 2 = 0 ∨ (((x / 65536) / 4)) / 2 = 1) with e | e
          · exact xx_iret dJ6_nlz_78 rfl ⟨13, by rw [e], rfl, by decide, by decide, by show 262144 ≤ x; omega, by show x < 524288; omega⟩
          · exact xx_iret dJ6_nlz_78 rfl ⟨12, by rw [e], rfl, by decide, by decide, by show 524288 ≤ x; omega, by show x < 1048576; omega⟩
      · have j51 : ¬ x / 65536 < 16 := fun q => j51 ((nI_ltI (a := x / 65536) (b := 16) (by omega) (by omega)).mpr q)
        refine xx_iinc (v := 11) dJ6_nlz_54 rfl (by decide) (by decide) ?_
        refine xx_clv (lv2 := [(0, .int (nI (x / 65536))), (1, .int 11)]) rfl ?_
        refine xx_iload_n dJ6_nlz_57 rfl ?_
        refine xx_iconst (v := 4) dJ6_nlz_58 (by decide) ?_
        refine xx_iushr dJ6_nlz_59 ?_
        refine xx_eqi (y := nI ((x / 65536) / 16)) (pk_ushrN (n := (x / 65536)) (by omega) 4 4 (by decide)) ?_
        refine xx_istore_n dJ6_nlz_60 (by decide) ?_
        refine xx_clv (lv2 := [(0, .int (nI ((x / 65536) / 16))), (1, .int 11)]) rfl ?_
        refine xx_iload_n dJ6_nlz_61 rfl ?_
        refine xx_iconst (v := 4) dJ6_nlz_62 (by decide) ?_
        refine xx_icmp_lt (tgt := 73) dJ6_nlz_63 (by decide) (fun j63 => ?_) (fun j63 => ?_)
        · have j63 : (x / 65536) / 16 < 4 := (nI_ltI (a := (x / 65536) / 16) (b := 4) (by omega) (by omega)).mp j63
          refine xx_iload_n dJ6_nlz_73 rfl ?_
          refine xx_iload_n dJ6_nlz_74 rfl ?_
          refine xx_iconst (v := 1) dJ6_nlz_75 (by decide) ?_
          refine xx_iushr dJ6_nlz_76 ?_
          refine xx_eqi (y := nI (((x / 65536) / 16) / 2)) (pk_ushrN (n := ((x / 65536) / 16)) (by omega) 1 1 (by decide)) ?_
          refine xx_isub dJ6_nlz_77 ?_
          refine xx_eqi (y := nI (11 - (((x / 65536) / 16) / 2))) (pk_sub (a := 11) (b := ((x / 65536) / 16) / 2) (by omega)) ?_
          rcases (by omega : (((x / 65536) / 16)) / 2 = 0 ∨ (((x / 65536) / 16)) / 2 = 1) with e | e
          · exact xx_iret dJ6_nlz_78 rfl ⟨11, by rw [e], rfl, by decide, by decide, by show 1048576 ≤ x; omega, by show x < 2097152; omega⟩
          · exact xx_iret dJ6_nlz_78 rfl ⟨10, by rw [e], rfl, by decide, by decide, by show 2097152 ≤ x; omega, by show x < 4194304; omega⟩
        · have j63 : ¬ (x / 65536) / 16 < 4 := fun q => j63 ((nI_ltI (a := (x / 65536) / 16) (b := 4) (by omega) (by omega)).mpr q)
          refine xx_iinc (v := 9) dJ6_nlz_66 rfl (by decide) (by decide) ?_
          refine xx_clv (lv2 := [(0, .int (nI ((x / 65536) / 16))), (1, .int 9)]) rfl ?_
          refine xx_iload_n dJ6_nlz_69 rfl ?_
          refine xx_iconst (v := 2) dJ6_nlz_70 (by decide) ?_
          refine xx_iushr dJ6_nlz_71 ?_
          refine xx_eqi (y := nI (((x / 65536) / 16) / 4)) (pk_ushrN (n := ((x / 65536) / 16)) (by omega) 2 2 (by decide)) ?_
          refine xx_istore_n dJ6_nlz_72 (by decide) ?_
          refine xx_clv (lv2 := [(0, .int (nI (((x / 65536) / 16) / 4))), (1, .int 9)]) rfl ?_
          refine xx_iload_n dJ6_nlz_73 rfl ?_
          refine xx_iload_n dJ6_nlz_74 rfl ?_
          refine xx_iconst (v := 1) dJ6_nlz_75 (by decide) ?_
          refine xx_iushr dJ6_nlz_76 ?_
          refine xx_eqi (y := nI ((((x / 65536) / 16) / 4) / 2)) (pk_ushrN (n := (((x / 65536) / 16) / 4)) (by omega) 1 1 (by decide)) ?_
          refine xx_isub dJ6_nlz_77 ?_
          refine xx_eqi (y := nI (9 - ((((x / 65536) / 16) / 4) / 2))) (pk_sub (a := 9) (b := (((x / 65536) / 16) / 4) / 2) (by omega)) ?_
          rcases (by omega : ((((x / 65536) / 16) / 4)) / 2 = 0 ∨ ((((x / 65536) / 16) / 4)) / 2 = 1) with e | e
          · exact xx_iret dJ6_nlz_78 rfl ⟨9, by rw [e], rfl, by decide, by decide, by show 4194304 ≤ x; omega, by show x < 8388608; omega⟩
          · exact xx_iret dJ6_nlz_78 rfl ⟨8, by rw [e], rfl, by decide, by decide, by show 8388608 ≤ x; omega, by show x < 16777216; omega⟩
    · have j37 : ¬ x / 65536 < 256 := fun q => j37 ((nI_ltI (a := x / 65536) (b := 256) (by omega) (by omega)).mpr q)
      refine xx_iinc (v := 7) dJ6_nlz_40 rfl (by decide) (by decide) ?_
      refine xx_clv (lv2 := [(0, .int (nI (x / 65536))), (1, .int 7)]) rfl ?_
      refine xx_iload_n dJ6_nlz_43 rfl ?_
      refine xx_bipush (v := 8) dJ6_nlz_44 (by decide) ?_
      refine xx_iushr dJ6_nlz_46 ?_
      refine xx_eqi (y := nI ((x / 65536) / 256)) (pk_ushrN (n := (x / 65536)) (by omega) 8 8 (by decide)) ?_
      refine xx_istore_n dJ6_nlz_47 (by decide) ?_
      refine xx_clv (lv2 := [(0, .int (nI ((x / 65536) / 256))), (1, .int 7)]) rfl ?_
      refine xx_iload_n dJ6_nlz_48 rfl ?_
      refine xx_bipush (v := 16) dJ6_nlz_49 (by decide) ?_
      refine xx_icmp_lt (tgt := 61) dJ6_nlz_51 (by decide) (fun j51 => ?_) (fun j51 => ?_)
      · have j51 : (x / 65536) / 256 < 16 := (nI_ltI (a := (x / 65536) / 256) (b := 16) (by omega) (by omega)).mp j51
        refine xx_iload_n dJ6_nlz_61 rfl ?_
        refine xx_iconst (v := 4) dJ6_nlz_62 (by decide) ?_
        refine xx_icmp_lt (tgt := 73) dJ6_nlz_63 (by decide) (fun j63 => ?_) (fun j63 => ?_)
        · have j63 : (x / 65536) / 256 < 4 := (nI_ltI (a := (x / 65536) / 256) (b := 4) (by omega) (by omega)).mp j63
          refine xx_iload_n dJ6_nlz_73 rfl ?_
          refine xx_iload_n dJ6_nlz_74 rfl ?_
          refine xx_iconst (v := 1) dJ6_nlz_75 (by decide) ?_
          refine xx_iushr dJ6_nlz_76 ?_
          refine xx_eqi (y := nI (((x / 65536) / 256) / 2)) (pk_ushrN (n := ((x / 65536) / 256)) (by omega) 1 1 (by decide)) ?_
          refine xx_isub dJ6_nlz_77 ?_
          refine xx_eqi (y := nI (7 - (((x / 65536) / 256) / 2))) (pk_sub (a := 7) (b := ((x / 65536) / 256) / 2) (by omega)) ?_
          rcases (by omega : (((x / 65536) / 256)) / 2 = 0 ∨ (((x / 65536) / 256)) / 2 = 1) with e | e
          · exact xx_iret dJ6_nlz_78 rfl ⟨7, by rw [e], rfl, by decide, by decide, by show 16777216 ≤ x; omega, by show x < 33554432; omega⟩
          · exact xx_iret dJ6_nlz_78 rfl ⟨6, by rw [e], rfl, by decide, by decide, by show 33554432 ≤ x; omega, by show x < 67108864; omega⟩
        · have j63 : ¬ (x / 65536) / 256 < 4 := fun q => j63 ((nI_ltI (a := (x / 65536) / 256) (b := 4) (by omega) (by omega)).mpr q)
          refine xx_iinc (v := 5) dJ6_nlz_66 rfl (by decide) (by decide) ?_
          refine xx_clv (lv2 := [(0, .int (nI ((x / 65536) / 256))), (1, .int 5)]) rfl ?_
          refine xx_iload_n dJ6_nlz_69 rfl ?_
          refine xx_iconst (v := 2) dJ6_nlz_70 (by decide) ?_
          refine xx_iushr dJ6_nlz_71 ?_
          refine xx_eqi (y := nI (((x / 65536) / 256) / 4)) (pk_ushrN (n := ((x / 65536) / 256)) (by omega) 2 2 (by decide)) ?_
          refine xx_istore_n dJ6_nlz_72 (by decide) ?_
          refine xx_clv (lv2 := [(0, .int (nI (((x / 65536) / 256) / 4))), (1, .int 5)]) rfl ?_
          refine xx_iload_n dJ6_nlz_73 rfl ?_
          refine xx_iload_n dJ6_nlz_74 rfl ?_
          refine xx_iconst (v := 1) dJ6_nlz_75 (by decide) ?_
          refine xx_iushr dJ6_nlz_76 ?_
          refine xx_eqi (y := nI ((((x / 65536) / 256) / 4) / 2)) (pk_ushrN (n := (((x / 65536) / 256) / 4)) (by omega) 1 1 (by decide)) ?_
          refine xx_isub dJ6_nlz_77 ?_
          refine xx_eqi (y := nI (5 - ((((x / 65536) / 256) / 4) / 2))) (pk_sub (a := 5) (b := (((x / 65536) / 256) / 4) / 2) (by omega)) ?_
          rcases (by omega : ((((x / 65536) / 256) / 4)) / 2 = 0 ∨ ((((x / 65536) / 256) / 4)) / 2 = 1) with e | e
          · exact xx_iret dJ6_nlz_78 rfl ⟨5, by rw [e], rfl, by decide, by decide, by show 67108864 ≤ x; omega, by show x < 134217728; omega⟩
          · exact xx_iret dJ6_nlz_78 rfl ⟨4, by rw [e], rfl, by decide, by decide, by show 134217728 ≤ x; omega, by show x < 268435456; omega⟩
      · have j51 : ¬ (x / 65536) / 256 < 16 := fun q => j51 ((nI_ltI (a := (x / 65536) / 256) (b := 16) (by omega) (by omega)).mpr q)
        refine xx_iinc (v := 3) dJ6_nlz_54 rfl (by decide) (by decide) ?_
        refine xx_clv (lv2 := [(0, .int (nI ((x / 65536) / 256))), (1, .int 3)]) rfl ?_
        refine xx_iload_n dJ6_nlz_57 rfl ?_
        refine xx_iconst (v := 4) dJ6_nlz_58 (by decide) ?_
        refine xx_iushr dJ6_nlz_59 ?_
        refine xx_eqi (y := nI (((x / 65536) / 256) / 16)) (pk_ushrN (n := ((x / 65536) / 256)) (by omega) 4 4 (by decide)) ?_
        refine xx_istore_n dJ6_nlz_60 (by decide) ?_
        refine xx_clv (lv2 := [(0, .int (nI (((x / 65536) / 256) / 16))), (1, .int 3)]) rfl ?_
        refine xx_iload_n dJ6_nlz_61 rfl ?_
        refine xx_iconst (v := 4) dJ6_nlz_62 (by decide) ?_
        refine xx_icmp_lt (tgt := 73) dJ6_nlz_63 (by decide) (fun j63 => ?_) (fun j63 => ?_)
        · have j63 : ((x / 65536) / 256) / 16 < 4 := (nI_ltI (a := ((x / 65536) / 256) / 16) (b := 4) (by omega) (by omega)).mp j63
          refine xx_iload_n dJ6_nlz_73 rfl ?_
          refine xx_iload_n dJ6_nlz_74 rfl ?_
          refine xx_iconst (v := 1) dJ6_nlz_75 (by decide) ?_
          refine xx_iushr dJ6_nlz_76 ?_
          refine xx_eqi (y := nI ((((x / 65536) / 256) / 16) / 2)) (pk_ushrN (n := (((x / 65536) / 256) / 16)) (by omega) 1 1 (by decide)) ?_
          refine xx_isub dJ6_nlz_77 ?_
          refine xx_eqi (y := nI (3 - ((((x / 65536) / 256) / 16) / 2))) (pk_sub (a := 3) (b := (((x / 65536) / 256) / 16) / 2) (by omega)) ?_
          rcases (by omega : ((((x / 65536) / 256) / 16)) / 2 = 0 ∨ ((((x / 65536) / 256) / 16)) / 2 = 1) with e | e
          · exact xx_iret dJ6_nlz_78 rfl ⟨3, by rw [e], rfl, by decide, by decide, by show 268435456 ≤ x; omega, by show x < 536870912; omega⟩
          · exact xx_iret dJ6_nlz_78 rfl ⟨2, by rw [e], rfl, by decide, by decide, by show 536870912 ≤ x; omega, by show x < 1073741824; omega⟩
        · have j63 : ¬ ((x / 65536) / 256) / 16 < 4 := fun q => j63 ((nI_ltI (a := ((x / 65536) / 256) / 16) (b := 4) (by omega) (by omega)).mpr q)
          refine xx_iinc (v := 1) dJ6_nlz_66 rfl (by decide) (by decide) ?_
          refine xx_clv (lv2 := [(0, .int (nI (((x / 65536) / 256) / 16))), (1, .int 1)]) rfl ?_
          refine xx_iload_n dJ6_nlz_69 rfl ?_
          refine xx_iconst (v := 2) dJ6_nlz_70 (by decide) ?_
          refine xx_iushr dJ6_nlz_71 ?_
          refine xx_eqi (y := nI ((((x / 65536) / 256) / 16) / 4)) (pk_ushrN (n := (((x / 65536) / 256) / 16)) (by omega) 2 2 (by decide)) ?_
          refine xx_istore_n dJ6_nlz_72 (by decide) ?_
          refine xx_clv (lv2 := [(0, .int (nI ((((x / 65536) / 256) / 16) / 4))), (1, .int 1)]) rfl ?_
          refine xx_iload_n dJ6_nlz_73 rfl ?_
          refine xx_iload_n dJ6_nlz_74 rfl ?_
          refine xx_iconst (v := 1) dJ6_nlz_75 (by decide) ?_
          refine xx_iushr dJ6_nlz_76 ?_
          refine xx_eqi (y := nI (((((x / 65536) / 256) / 16) / 4) / 2)) (pk_ushrN (n := ((((x / 65536) / 256) / 16) / 4)) (by omega) 1 1 (by decide)) ?_
          refine xx_isub dJ6_nlz_77 ?_
          refine xx_eqi (y := nI (1 - (((((x / 65536) / 256) / 16) / 4) / 2))) (pk_sub (a := 1) (b := ((((x / 65536) / 256) / 16) / 4) / 2) (by omega)) ?_
          rcases (by omega : (((((x / 65536) / 256) / 16) / 4)) / 2 = 0 ∨ (((((x / 65536) / 256) / 16) / 4)) / 2 = 1) with e | e
          · exact xx_iret dJ6_nlz_78 rfl ⟨1, by rw [e], rfl, by decide, by decide, by show 1073741824 ≤ x; omega, by show x < 2147483648; omega⟩
          · exfalso; omega
set_option maxRecDepth 100000 in
theorem l_X1_dd {G : xx_G} {l : Launch} {A : xx_H} {x z lx dg : Nat} {s0 t0 t1 : Value} {way : Int32} {g h : Nat → Int32} {X : Nat → Nat} {Q : Option Value ⊕ String → xx_H → Prop} (hx : A.2 x = xx_o 0 [s0, .int (nI lx), .ref (x + 1)]) (hg : A.2 (x + 1) = xx_i 14 g) (hz : A.2 z = xx_o 0 [t0, t1, .ref (z + 1)]) (hh : A.2 (z + 1) = xx_i 14 h) (n1 : x ≠ z + 1) (n2 : x ≠ z) (n3 : x + 1 ≠ z) (hl : lx ≤ 14) (hX : ∀ i, i < lx → X i < yB ∧ g i = nI (X i)) (hd0 : 0 < dg) (hd : dg < yB) (k : ∀ (B : xx_H) (h1 : Nat → Int32) (Z : Nat → Nat) (e : Nat), B.1 = A.1 → B.2 (z + 1) = xx_i 14 h1 → (∀ j, 0 ≤ j → j < lx → Z j < yB ∧ h1 j = nI (Z j)) → e < dg → yy_val yB (yy_sh X 0) (lx - 0) = yy_val yB (yy_sh Z 0) (lx - 0) * dg + e → (∀ q, q ≠ z + 1 → B.2 q = A.2 q) → xx_X G l mX1_divideByDigit 2 0 0 71 [(1, .ref x), (3, .ref z), (4, .int way), (5, .long (lN e)), (8, .int (nI lx))] [] B Q) :
    ∀ (n : Nat), n ≤ lx → ∀ (B : xx_H) (h1 : Nat → Int32) (Z : Nat → Nat) (e : Nat), B.1 = A.1 → B.2 (z + 1) = xx_i 14 h1 → (∀ j, n ≤ j → j < lx → Z j < yB ∧ h1 j = nI (Z j)) → e < dg → yy_val yB (yy_sh X n) (lx - n) = yy_val yB (yy_sh Z n) (lx - n) * dg + e → (∀ q, q ≠ z + 1 → B.2 q = A.2 q) → xx_X G l mX1_divideByDigit 2 0 0 22 [(1, .ref x), (3, .ref z), (4, .int way), (5, .long (lN e)), (7, .int (nI dg)), (8, .int (nI lx)), (9, .int (nI n + (-1)))] [] B Q := by
  intro n
  induction n with
  | zero =>
    intro hn B h1 Z e hz9 hh1 hZ he hv hfr
    refine xx_clv (lv2 := [(1, .ref x), (3, .ref z), (4, .int way), (5, .long (lN e)), (7, .int (nI dg)), (8, .int (nI lx)), (9, .int (-1))]) rfl ?_
    refine xx_iload dX1_divideByDigit_22 rfl ?_
    refine xx_if_lt (tgt := 71) dX1_divideByDigit_24 (by decide) (fun j24 => ?_) (fun h => absurd (by decide) h)
    refine xx_less [1, 3, 4, 5, 8] ?_
    refine xx_clv (lv2 := [(1, .ref x), (3, .ref z), (4, .int way), (5, .long (lN e)), (8, .int (nI lx))]) rfl ?_
    exact k B h1 Z e hz9 hh1 hZ he hv hfr
  | succ n ih =>
    intro hn B h1 Z e hz9 hh1 hZ he hv hfr
    have hx2 := (hfr x n1).trans hx
    have hg2 := (hfr (x + 1) (by omega)).trans hg
    have hz2 := (hfr z (by omega)).trans hz
    obtain ⟨p1, q1⟩ := hX n (by omega)
    have p1 : X n < 2147483648 := p1
    have hd9 : dg < 2147483648 := hd
    have hq : (e * 2 ^ 31 + X n) / dg < 2147483648 := by
      apply Nat.div_lt_of_lt_mul
      have h9 : (e + 1) * 2147483648 ≤ dg * 2147483648 := Nat.mul_le_mul_right _ he
      rw [Nat.add_mul] at h9
      omega
    refine xx_clv (lv2 := [(1, .ref x), (3, .ref z), (4, .int way), (5, .long (lN e)), (7, .int (nI dg)), (8, .int (nI lx)), (9, .int (nI n))]) (by rw [pk_m1]) ?_
    refine xx_iload dX1_divideByDigit_22 rfl ?_
    refine xx_if_lt (tgt := 71) dX1_divideByDigit_24 (by decide) (fun h => absurd h (nI_pos (by omega))) (fun j24 => ?_)
    refine xx_lload dX1_divideByDigit_27 rfl ?_
    refine xx_bipush (v := 31) dX1_divideByDigit_29 (by decide) ?_
    refine xx_lshl dX1_divideByDigit_31 ?_
    refine xx_eql (y := lN (e * 2 ^ 31)) (wb_shl e (k := 31) (by omega)) ?_
    refine xx_aload_n dX1_divideByDigit_32 rfl ?_
    refine xx_get xx_c0 dX1_divideByDigit_33 wf_X1_60 (j := 2) (by decide) hx2 rfl ?_
    refine xx_iload dX1_divideByDigit_36 rfl ?_
    refine xx_iald dX1_divideByDigit_38 hg2 (vp_in_nI (by omega) (by decide)) ?_
    refine xx_eqi (y := nI (X n)) (by rw [nI_clamp (by omega)]; exact q1) ?_
    refine xx_i2l dX1_divideByDigit_39 ?_
    refine xx_eql (y := lN (X n)) (nI_l (by omega)) ?_
    refine xx_lor dX1_divideByDigit_40 ?_
    refine xx_eql (y := lN (e * 2 ^ 31 + X n)) (yy_lor2 (by omega) (by omega)) ?_
    refine xx_lstore dX1_divideByDigit_41 (by decide) ?_
    refine xx_clv (lv2 := [(1, .ref x), (3, .ref z), (4, .int way), (5, .long (lN (e * 2 ^ 31 + X n))), (7, .int (nI dg)), (8, .int (nI lx)), (9, .int (nI n))]) rfl ?_
    refine xx_aload_n dX1_divideByDigit_43 rfl ?_
    refine xx_get xx_c0 dX1_divideByDigit_44 wf_X1_60 (j := 2) (by decide) hz2 rfl ?_
    refine xx_iload dX1_divideByDigit_47 rfl ?_
    refine xx_lload dX1_divideByDigit_49 rfl ?_
    refine xx_iload dX1_divideByDigit_51 rfl ?_
    refine xx_i2l dX1_divideByDigit_53 ?_
    refine xx_eql (y := lN dg) (nI_l (by omega)) ?_
    refine xx_ldiv dX1_divideByDigit_54 (yy_lne0 (n := dg) (by omega) (by omega)) ?_
    refine xx_eql (y := lN ((e * 2 ^ 31 + X n) / dg)) (pk_lDiv (by omega) (by omega) (by omega)) ?_
    refine xx_l2i dX1_divideByDigit_55 ?_
    refine xx_eqi (y := nI ((e * 2 ^ 31 + X n) / dg)) (lN_i _) ?_
    refine xx_iast dX1_divideByDigit_56 hh1 (vp_in_nI (by omega) (by decide)) (xx_gu fun C z1 y1 o1 => ?_)
    rw [nI_clamp (by omega)] at y1
    refine xx_lload dX1_divideByDigit_57 rfl ?_
    refine xx_iload dX1_divideByDigit_59 rfl ?_
    refine xx_i2l dX1_divideByDigit_61 ?_
    refine xx_eql (y := lN dg) (nI_l (by omega)) ?_
    refine xx_lrem dX1_divideByDigit_62 (yy_lne0 (n := dg) (by omega) (by omega)) ?_
    refine xx_eql (y := lN ((e * 2 ^ 31 + X n) % dg)) (pk_lRem (by omega) (by omega) (by omega)) ?_
    refine xx_lstore dX1_divideByDigit_63 (by decide) ?_
    refine xx_clv (lv2 := [(1, .ref x), (3, .ref z), (4, .int way), (5, .long (lN ((e * 2 ^ 31 + X n) % dg))), (7, .int (nI dg)), (8, .int (nI lx)), (9, .int (nI n))]) rfl ?_
    refine xx_iinc (v := nI n + (-1)) dX1_divideByDigit_65 rfl rfl (by decide) ?_
    refine xx_goto (tgt := 22) dX1_divideByDigit_68 (by decide) ?_
    refine xx_clv (lv2 := [(1, .ref x), (3, .ref z), (4, .int way), (5, .long (lN ((e * 2 ^ 31 + X n) % dg))), (7, .int (nI dg)), (8, .int (nI lx)), (9, .int (nI n + (-1)))]) rfl ?_
    refine ih (by omega) C (upd h1 n (nI ((e * 2 ^ 31 + X n) / dg))) (yy_ud Z n ((e * 2 ^ 31 + X n) / dg)) _ (by omega) y1 (fun j h5 h6 => ?_) (Nat.mod_lt _ hd0) ?_ (fun q hq => (o1 q hq).trans (hfr q hq))
    · by_cases e9 : j = n
      · subst e9; rw [pk_us, yy_ud_s]; exact ⟨hq, rfl⟩
      · rw [pk_un e9, yy_ud_n e9]; exact hZ j (by omega) h6
    · have e1 : lx - n = lx - (n + 1) + 1 := by omega
      rw [e1, yy_sh_cons, yy_sh_cons, yy_ud_s]
      have e2 : yy_val yB (yy_sh (yy_ud Z n ((e * 2 ^ 31 + X n) / dg)) (n + 1)) (lx - (n + 1)) = yy_val yB (yy_sh Z (n + 1)) (lx - (n + 1)) := yy_val_ext (fun i _ => yy_ud_n (by omega))
      rw [e2]
      exact yy_dstep hv
set_option maxRecDepth 100000 in
theorem c_X1_divideByDigit {G : xx_G} {l : Launch} {A : xx_H} {b x z dg : Nat} {u t w : Int} {way : Int32} (hx : xx_bg A x u) (hz : xx_bg A z t) (n1 : x ≠ z + 1) (n2 : x ≠ z) (n3 : x + 1 ≠ z) (hd0 : 0 < dg) (hd : dg < yB) (hw : w.natAbs = u.natAbs / dg) (hs : w ≠ 0 → way = iz w.sign) : xx_X G l mX1_divideByDigit 2 0 0 0 (lv_args 0 [.ref b, .ref x, .int (nI dg), .ref z, .int way]) [] A (fun q B => q = .inl none ∧ B.1 = A.1 ∧ xx_bg B x (u.sign * ((u.natAbs % dg : Nat) : Int)) ∧ xx_bg B z w ∧ ∀ q, q ≠ x → q ≠ x + 1 → q ≠ z → q ≠ z + 1 → B.2 q = A.2 q) := by
  obtain ⟨g, lx, hx, hg, hl, X, hX, hX0, eX⟩ := hx
  obtain ⟨h, lz0, hz, hh, _⟩ := hz
  have hd9 : dg < 2147483648 := hd
  refine xx_clv (lv2 := [(0, .ref b), (1, .ref x), (2, .int (nI dg)), (3, .ref z), (4, .int way)]) rfl ?_
  refine xx_lconst (v := 0) dX1_divideByDigit_0 (by decide) ?_
  refine xx_lstore dX1_divideByDigit_1 (by decide) ?_
  refine xx_clv (lv2 := [(0, .ref b), (1, .ref x), (2, .int (nI dg)), (3, .ref z), (4, .int way), (5, .long 0)]) rfl ?_
  refine xx_iconst (v := 1) dX1_divideByDigit_3 (by decide) ?_
  refine xx_iload_n dX1_divideByDigit_4 rfl ?_
  refine xx_mmax dX1_divideByDigit_5 xx_mth1max (by decide) (by decide) ?_
  refine xx_eqi (y := nI dg) (by rw [← nI_ofl1, nI_max (by decide) (by omega)]; unfold yy_max; congr 1; split <;> omega) ?_
  refine xx_istore dX1_divideByDigit_8 (by decide) ?_
  refine xx_clv (lv2 := [(0, .ref b), (1, .ref x), (2, .int (nI dg)), (3, .ref z), (4, .int way), (5, .long 0), (7, .int (nI dg))]) rfl ?_
  refine xx_aload_n dX1_divideByDigit_10 rfl ?_
  refine xx_get xx_c0 dX1_divideByDigit_11 wf_X1_54 (j := 1) (by decide) hx rfl ?_
  refine xx_istore dX1_divideByDigit_14 (by decide) ?_
  refine xx_clv (lv2 := [(0, .ref b), (1, .ref x), (2, .int (nI dg)), (3, .ref z), (4, .int way), (5, .long 0), (7, .int (nI dg)), (8, .int (nI lx))]) rfl ?_
  refine xx_iload dX1_divideByDigit_16 rfl ?_
  refine xx_iconst (v := 1) dX1_divideByDigit_18 (by decide) ?_
  refine xx_isub dX1_divideByDigit_19 ?_
  refine xx_eqi (y := nI lx + (-1)) (yy_m1 lx) ?_
  refine xx_istore dX1_divideByDigit_20 (by decide) ?_
  refine xx_clv (lv2 := [(0, .ref b), (1, .ref x), (2, .int (nI dg)), (3, .ref z), (4, .int way), (5, .long 0), (7, .int (nI dg)), (8, .int (nI lx)), (9, .int (nI lx + (-1)))]) rfl ?_
  refine xx_less [1, 3, 4, 5, 7, 8, 9] ?_
  refine xx_clv (lv2 := [(1, .ref x), (3, .ref z), (4, .int way), (5, .long (lN 0)), (7, .int (nI dg)), (8, .int (nI lx)), (9, .int (nI lx + (-1)))]) rfl ?_
  refine l_X1_dd hx hg hz hh n1 n2 n3 hl hX hd0 hd (fun B h1 Z e y1 y2 y3 y4 y5 y6 => ?_) lx (Nat.le_refl _) A h (fun _ => 0) 0 rfl hh (fun j h5 h6 => absurd h6 (by omega)) hd0 (by rw [Nat.sub_self]; show 0 = 0 * _ + 0; simp) (fun q _ => rfl)
  rw [yy_sh0, yy_sh0, Nat.sub_zero, ← eX] at y5
  have yq : u.natAbs / dg = yy_val yB Z lx := by rw [y5, Nat.mul_comm, Nat.mul_add_div hd0, Nat.div_eq_of_lt y4, Nat.add_zero]
  have yr : u.natAbs % dg = e := by rw [y5, Nat.mul_comm, Nat.mul_add_mod, Nat.mod_eq_of_lt y4]
  have hx2 := (y6 x n1).trans hx
  have hg2 := (y6 (x + 1) (by omega)).trans hg
  have hz2 := (y6 z (by omega)).trans hz
  refine xx_aload_n dX1_divideByDigit_71 rfl ?_
  refine xx_iload dX1_divideByDigit_72 rfl ?_
  refine xx_iload dX1_divideByDigit_74 rfl ?_
  refine xx_callV (N := mX0_trim) (vs := [.int (nI lx), .int way]) (b := z) (rest := []) (d2 := 0) (c2 := 0) (s2 := 0) (c3 := 0) (s3 := 0) dX1_divideByDigit_76 wm_X1_75 wi_X0_trim wv_X0_trim (k := 0) rfl (by decide) hz2 nX0_trim ⟨pX0_trim, Nat.le_of_ble_eq_true rfl, by decide, Nat.le_of_ble_eq_true rfl, by decide, by decide⟩ (c_trim (v := w) hz2 y2 hl (fun i hi => y3 i (Nat.zero_le _) hi) (hw.trans yq) hs) (fun v9 C hC => ?_) (fun E9 B9 hC => absurd hC.1 (by simp))
  obtain ⟨hv9, m1, m2, m3⟩ := hC
  cases hv9
  refine xx_cst (st2 := []) rfl ?_
  have hx3 := (m3 x n2).trans hx2
  have hg3 := (m3 (x + 1) n3).trans hg2
  refine xx_aload_n dX1_divideByDigit_79 rfl ?_
  refine xx_aload_n dX1_divideByDigit_80 rfl ?_
  refine xx_get xx_c0 dX1_divideByDigit_81 wf_X1_36 (j := 0) (by decide) hx3 rfl ?_
  refine xx_i2l dX1_divideByDigit_84 ?_
  refine xx_eql (y := lz u.sign) (iz_l (yy_sgl u) (yy_sgh u)) ?_
  refine xx_lload dX1_divideByDigit_85 rfl ?_
  refine xx_lmul dX1_divideByDigit_87 ?_
  refine xx_eql (y := lz (u.sign * (e : Int))) (by rw [lN_lz, lz_mul]) ?_
  have hxb : xx_bg C x u := ⟨g, lx, hx3, hg3, hl, X, hX, hX0, eX⟩
  have hsg := yy_sge u e (show e < 2147483648 by omega)
  refine xx_callV (N := mX0_setTo) (vs := [.long (lz (u.sign * (e : Int)))]) (b := x) (rest := []) (d2 := 1) (c2 := 0) (s2 := 0) (c3 := 0) (s3 := 0) dX1_divideByDigit_88 wm_X1_79 wi_X0_setTo wv_X0_setTo (k := 0) rfl (by decide) hx3 nX0_setTo ⟨pX0_setTo, Nat.le_of_ble_eq_true rfl, by decide, Nat.le_of_ble_eq_true rfl, by decide, by decide⟩ (c_setTo (v := u.sign * (e : Int)) hxb hsg.1 hsg.2) (fun v9 E hC => ?_) (fun E9 B9 hC => absurd hC.1 (by simp))
  obtain ⟨hv8, k1, k2, k3⟩ := hC
  cases hv8
  refine xx_cst (st2 := []) rfl ?_
  refine xx_vret dX1_divideByDigit_91 rfl ⟨rfl, by omega, by rw [yr]; exact k2, m2.to (k3 z (by omega) (by omega)) (k3 (z + 1) (by omega) (by omega)), fun q h5 h6 h7 h8 => ?_⟩
  rw [k3 q h5 h6, m3 q h7, y6 q h8]
