/-! ===== Big: setTo by value (the wb_ rows are the kit's own, pasted from kit/laws) ===== -/
theorem wb_tb (n : Nat) : (lN n).toBitVec = BitVec.ofNat 64 n := rfl
theorem wb_inj {a b : Int64} (h : a.toBitVec = b.toBitVec) : a = b := Int64.toBitVec_inj.mp h
theorem wb_tn {n : Nat} (h : n < 2 ^ 64) : (lN n).toBitVec.toNat = n := by rw [wb_tb, BitVec.toNat_ofNat, Nat.mod_eq_of_lt h]
theorem wb_of (x : Int64) : ∃ n, n < 2 ^ 64 ∧ x = lN n := ⟨x.toBitVec.toNat, x.toBitVec.isLt, wb_inj (by rw [wb_tb]; simp)⟩
theorem wb_of32 (x : Int32) : ∃ n, n < 2 ^ 32 ∧ x = nI n := ⟨x.toBitVec.toNat, x.toBitVec.isLt, Int32.toBitVec_inj.mp (by show _ = BitVec.ofNat 32 _; simp)⟩
theorem wb_c : ∀ k, k < 64 → ((nI k).toInt64 &&& 63) = lN k := by decide +kernel
theorem wb_cu : ∀ k, k < 64 → ((nI k).toInt64.toUInt64 &&& Int64.toUInt64 63) = UInt64.ofNat k := by decide +kernel
theorem wb_sm : ∀ k, k < 64 → (BitVec.ofNat 64 k).smod 64 = BitVec.ofNat 64 k := by decide +kernel
theorem wb_pw {a b : Nat} (h : a ≤ b) : 2 ^ b = 2 ^ a * 2 ^ (b - a) := by rw [← Nat.pow_add]; congr 1; omega
theorem wb_lt2 {a b : Nat} (h : a < b) : 2 ^ a < 2 ^ b := Nat.pow_lt_pow_right (by decide) h
theorem wb_mod (n : Nat) : lN n = lN (n % 2 ^ 64) := wb_inj (by rw [wb_tb, wb_tb]; apply BitVec.eq_of_toNat_eq; rw [BitVec.toNat_ofNat, BitVec.toNat_ofNat, Nat.mod_mod])
theorem wb_shr {n k : Nat} (hn : n < 2 ^ 64) (hk : k < 64) : ((lN n).toUInt64 >>> ((nI k).toInt64.toUInt64 &&& Int64.toUInt64 63)).toInt64 = lN (n / 2 ^ k) := by
  rw [wb_cu k hk]
  apply wb_inj
  apply BitVec.eq_of_toNat_eq
  show ((lN n).toUInt64 >>> UInt64.ofNat k).toNat = (BitVec.ofNat 64 _).toNat
  have h1 : (UInt64.ofNat k).toNat = k := by
    show (BitVec.ofNat 64 k).toNat = k
    rw [BitVec.toNat_ofNat, Nat.mod_eq_of_lt (by omega)]
  have h2 : (lN n).toUInt64.toNat = n := wb_tn hn
  rw [UInt64.toNat_shiftRight, h1, h2, Nat.mod_eq_of_lt hk, Nat.shiftRight_eq_div_pow, BitVec.toNat_ofNat, Nat.mod_eq_of_lt (Nat.lt_of_le_of_lt (Nat.div_le_self _ _) hn)]
theorem wb_shl (n : Nat) {k : Nat} (hk : k < 64) : lN n <<< ((nI k).toInt64 &&& 63) = lN (n * 2 ^ k) := by
  rw [wb_c k hk]
  apply wb_inj
  rw [Int64.toBitVec_shiftLeft, wb_tb, wb_tb, wb_tb, wb_sm k hk]
  apply BitVec.eq_of_toNat_eq
  rw [BitVec.shiftLeft_eq', BitVec.toNat_shiftLeft, BitVec.toNat_ofNat, BitVec.toNat_ofNat, BitVec.toNat_ofNat, Nat.mod_eq_of_lt (show k < 2 ^ 64 by omega), Nat.shiftLeft_eq, Nat.mul_mod, Nat.mod_mod, ← Nat.mul_mod]
theorem wb_and {a b : Nat} (ha : a < 2 ^ 64) (hb : b < 2 ^ 64) : lN a &&& lN b = lN (a &&& b) := by
  apply wb_inj
  rw [Int64.toBitVec_and, wb_tb, wb_tb, wb_tb]
  apply BitVec.eq_of_toNat_eq
  rw [BitVec.toNat_and, BitVec.toNat_ofNat, BitVec.toNat_ofNat, BitVec.toNat_ofNat, Nat.mod_eq_of_lt ha, Nat.mod_eq_of_lt hb, Nat.mod_eq_of_lt (Nat.and_lt_two_pow _ hb)]
theorem wb_or {a b : Nat} (ha : a < 2 ^ 64) (hb : b < 2 ^ 64) : lN a ||| lN b = lN (a ||| b) := by
  apply wb_inj
  rw [Int64.toBitVec_or, wb_tb, wb_tb, wb_tb]
  apply BitVec.eq_of_toNat_eq
  rw [BitVec.toNat_or, BitVec.toNat_ofNat, BitVec.toNat_ofNat, BitVec.toNat_ofNat, Nat.mod_eq_of_lt ha, Nat.mod_eq_of_lt hb, Nat.mod_eq_of_lt (Nat.or_lt_two_pow ha hb)]
theorem wb_mask {n k : Nat} (hn : n < 2 ^ 64) (hk : k < 64) : lN n &&& lN (2 ^ k - 1) = lN (n % 2 ^ k) := by
  rw [wb_and hn (by have := wb_lt2 hk; omega), Nat.and_two_pow_sub_one_eq_mod]
theorem xx_d3_dig {f : Nat → Int32} {n : Nat} (hn : n < 2 ^ 63) : ∀ i, i < 3 → (fun k => n / yB ^ k % yB) i < yB ∧ xx_d3 f (lN n) i = nI ((fun k => n / yB ^ k % yB) i) := by
  intro i hi
  refine ⟨Nat.mod_lt _ (by decide), ?_⟩
  have e1 : ((lN n).toUInt64 >>> ((31 : Int32).toInt64.toUInt64 &&& Int64.toUInt64 63)).toInt64 = lN (n / 2 ^ 31) := wb_shr (k := 31) (by omega) (by decide)
  have e2 : ((lN n).toUInt64 >>> ((62 : Int32).toInt64.toUInt64 &&& Int64.toUInt64 63)).toInt64 = lN (n / 2 ^ 62) := wb_shr (k := 62) (by omega) (by decide)
  have hc : i = 0 ∨ i = 1 ∨ i = 2 := by omega
  rcases hc with rfl | rfl | rfl
  · show (lN n &&& 2147483647).toInt32 = nI (n / yB ^ 0 % yB)
    rw [lo31N, Nat.pow_zero, Nat.div_one]
  · show (((lN n).toUInt64 >>> ((31 : Int32).toInt64.toUInt64 &&& Int64.toUInt64 63)).toInt64 &&& 2147483647).toInt32 = nI (n / yB ^ 1 % yB)
    rw [e1, lo31N, show (2 : Nat) ^ 31 = yB ^ 1 by decide]
  · show (((lN n).toUInt64 >>> ((62 : Int32).toInt64.toUInt64 &&& Int64.toUInt64 63)).toInt64).toInt32 = nI (n / yB ^ 2 % yB)
    rw [e2, lN_i]
    have h1 : n / 2 ^ 62 < 2 := Nat.div_lt_of_lt_mul (by omega)
    have h2 : (2 : Nat) ^ 62 = yB ^ 2 := by decide
    rw [h2] at h1 ⊢
    rw [Nat.mod_eq_of_lt (Nat.lt_trans h1 (by decide))]
theorem yy_val3 (n : Nat) (hn : n < 2 ^ 63) : yy_val yB (fun k => n / yB ^ k % yB) 3 = n := by
  show 0 + n / yB ^ 0 % yB * yB ^ 0 + n / yB ^ 1 % yB * yB ^ 1 + n / yB ^ 2 % yB * yB ^ 2 = n
  have h0 : yB ^ 0 = 1 := by decide
  have h1 : yB ^ 1 = 2147483648 := by decide
  have h2 : yB ^ 2 = 4611686018427387904 := by decide
  rw [h0, h1, h2]
  show 0 + n / 1 % 2147483648 * 1 + n / 2147483648 % 2147483648 * 2147483648 + n / 4611686018427387904 % 2147483648 * 4611686018427387904 = n
  omega
theorem c_setTo {G : xx_G} {l : Launch} {A : xx_H} {b : Nat} {t v : Int} (hb : xx_bg A b t) (h1 : -2 ^ 63 < v) (h2 : v < 2 ^ 63) : xx_X G l mX0_setTo 1 0 0 0 (lv_args 0 [.ref b, .long (lz v)]) [] A (fun r B => r = .inl none ∧ B.1 = A.1 ∧ xx_bg B b v ∧ ∀ q, q ≠ b → q ≠ b + 1 → B.2 q = A.2 q) := by
  obtain ⟨f, len, hb, hf, g3⟩ := hb
  refine xx_mono (fun r B hr => ?_) (c_X0_setTo hb hf)
  have hn : v.natAbs < 2 ^ 63 := by omega
  have hge : (0 ≤ lz v) ↔ 0 ≤ v := by rw [Int64.le_iff_toInt_le, lz_toInt (by omega) h2]; rfl
  have hz : (if 0 ≤ lz v then lz v else -lz v) = lN v.natAbs := by
    by_cases q : 0 ≤ v
    · rw [if_pos (hge.mpr q), lN_lz]; congr 1; omega
    · rw [if_neg (fun w => q (hge.mp w)), lN_lz]
      show -Int64.ofInt _ = _
      rw [← Int64.ofInt_neg]; congr 1; omega
  rw [hz] at hr
  obtain ⟨e1, e2, e3, e4, e5⟩ := hr
  have hd := xx_d3_dig (f := f) hn
  obtain ⟨q1, q2⟩ := xx_tl_dig hd
  rw [yy_val3 _ hn] at q1
  have hle := xx_tl_le (xx_d3 f (lN v.natAbs)) 3
  refine ⟨e1, e2, ⟨_, _, ?_, e3, by omega, _, fun i hi => hd i (by omega), q2, q1.symm⟩, fun q h3 h4 => e5 q h3 h4⟩
  rw [e4]
  by_cases e : xx_tl (xx_d3 f (lN v.natAbs)) 3 = 0
  · have : v = 0 := by
      rw [e] at q1
      have : 0 = v.natAbs := q1
      omega
    subst this
    rw [if_pos e]; rfl
  · rw [if_neg e]
    have hv : v ≠ 0 := fun q => by
      subst q
      have h5 := q2 (by omega)
      have h6 : xx_tl (xx_d3 f (lN (Int.natAbs 0))) 3 = (xx_tl (xx_d3 f (lN (Int.natAbs 0))) 3 - 1) + 1 := by omega
      have h7 := yy_val_top (β := yB) (D := fun k => Int.natAbs 0 / yB ^ k % yB) (n := xx_tl (xx_d3 f (lN (Int.natAbs 0))) 3 - 1) h5
      rw [← h6, q1] at h7
      have h8 := Nat.pow_pos (n := xx_tl (xx_d3 f (lN (Int.natAbs 0))) 3 - 1) (show 0 < yB by decide)
      have h9 : Int.natAbs 0 = 0 := rfl
      omega
    by_cases q : 0 ≤ v
    · rw [if_pos (hge.mpr q), Int.sign_eq_one_of_pos (by omega)]; rfl
    · rw [if_neg (fun w => q (hge.mp w)), Int.sign_eq_neg_one_of_neg (by omega)]; rfl
