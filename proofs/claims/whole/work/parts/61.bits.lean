/-! ===== longs and ints as whole numbers ===== -/
abbrev lz (z : Int) : Int64 := Int64.ofInt z
abbrev iz (z : Int) : Int32 := Int32.ofInt z
theorem lz_toInt {z : Int} (h1 : -2 ^ 63 ≤ z) (h2 : z < 2 ^ 63) : (lz z).toInt = z := by
  rw [Int64.toInt_ofInt]
  show z.bmod (2 ^ 64) = z
  exact Int.bmod_eq_of_le (by omega) (by omega)
theorem iz_toInt {z : Int} (h1 : -2 ^ 31 ≤ z) (h2 : z < 2 ^ 31) : (iz z).toInt = z := by
  rw [Int32.toInt_ofInt]
  show z.bmod (2 ^ 32) = z
  exact Int.bmod_eq_of_le (by omega) (by omega)
theorem lz_of (x : Int64) : x = lz x.toInt := (Int64.ofInt_toInt x).symm
theorem iz_of (x : Int32) : x = iz x.toInt := (Int32.ofInt_toInt x).symm
theorem iz_l {z : Int} (h1 : -2 ^ 31 ≤ z) (h2 : z < 2 ^ 31) : (iz z).toInt64 = lz z := by
  apply Int64.toInt_inj.mp
  rw [Int32.toInt_toInt64, iz_toInt h1 h2, lz_toInt (by omega) (by omega)]
theorem nI_iz (n : Nat) : nI n = iz n := rfl
theorem lN_lz (n : Nat) : lN n = lz n := rfl
theorem lz_add (a b : Int) : lz a + lz b = lz (a + b) := (Int64.ofInt_add a b).symm
theorem lz_sub (a b : Int) : lz a - lz b = lz (a - b) := (Int64.ofInt_sub a b).symm
theorem lz_mul (a b : Int) : lz a * lz b = lz (a * b) := (Int64.ofInt_mul a b).symm
theorem iz_add (a b : Int) : iz a + iz b = iz (a + b) := (Int32.ofInt_add a b).symm
theorem iz_sub (a b : Int) : iz a - iz b = iz (a - b) := (Int32.ofInt_sub a b).symm
theorem iz_mul (a b : Int) : iz a * iz b = iz (a * b) := (Int32.ofInt_mul a b).symm
theorem lz_mask (z : Int) {k : Nat} (hk : k ≤ 64) (m : Int64) (hm : m.toBitVec.toNat = 2 ^ k - 1) : lz z &&& m = lz (z % 2 ^ k) := by
  apply Int64.toBitVec_inj.mp
  apply BitVec.eq_of_toNat_eq
  rw [Int64.toBitVec_and, BitVec.toNat_and, hm, Nat.and_two_pow_sub_one_eq_mod]
  show (BitVec.ofInt 64 z).toNat % 2 ^ k = (BitVec.ofInt 64 (z % 2 ^ k)).toNat
  rw [BitVec.toNat_ofInt, BitVec.toNat_ofInt]
  have hd : ((2 ^ k : Nat) : Int) ∣ ((2 ^ 64 : Nat) : Int) := Int.natCast_dvd_natCast.mpr (Nat.pow_dvd_pow 2 hk)
  have e1 : (z % ((2 ^ 64 : Nat) : Int)) % ((2 ^ k : Nat) : Int) = z % ((2 ^ k : Nat) : Int) := Int.emod_emod_of_dvd z hd
  have hp : (0 : Int) < ((2 ^ k : Nat) : Int) := by have := Nat.two_pow_pos k; omega
  have h0 : 0 ≤ z % ((2 ^ k : Nat) : Int) := Int.emod_nonneg _ (by omega)
  have h1 : z % ((2 ^ k : Nat) : Int) < ((2 ^ k : Nat) : Int) := Int.emod_lt_of_pos _ hp
  have h64 : (2 ^ k : Nat) ≤ 2 ^ 64 := Nat.pow_le_pow_right (by decide) hk
  have e2 : (z % ((2 ^ k : Nat) : Int)) % ((2 ^ 64 : Nat) : Int) = z % ((2 ^ k : Nat) : Int) := Int.emod_eq_of_lt h0 (by omega)
  have e3 : ((2 : Int) ^ k) = ((2 ^ k : Nat) : Int) := by simp
  have h2 : 0 ≤ z % ((2 ^ 64 : Nat) : Int) := Int.emod_nonneg _ (by decide)
  rw [e3, e2]
  apply Int.ofNat.inj
  show ((z % ((2 ^ 64 : Nat) : Int)).toNat % 2 ^ k : Nat) = (((z % ((2 ^ k : Nat) : Int)).toNat : Nat) : Int)
  rw [Int.natCast_emod, Int.toNat_of_nonneg h2, Int.toNat_of_nonneg h0, e1]
theorem lz_i (z : Int) : (lz z).toInt32 = iz z := by
  apply Int32.toInt_inj.mp
  rw [Int64.toInt_toInt32, Int64.toInt_ofInt, Int32.toInt_ofInt]
  exact Int.bmod_bmod_of_dvd (Nat.pow_dvd_pow 2 (by decide : 32 ≤ 64))
theorem lz_shr {z : Int} (h1 : -2 ^ 63 ≤ z) (h2 : z < 2 ^ 63) (s : Int64) (k : Nat) (hs : (s.toBitVec.smod 64).toNat = k) : lz z >>> s = lz (z / 2 ^ k) := by
  apply Int64.toInt_inj.mp
  have e : (lz z >>> s).toInt = (lz z).toInt >>> k := by
    rw [← Int64.toInt_toBitVec, Int64.toBitVec_shiftRight, BitVec.sshiftRight_eq', BitVec.toInt_sshiftRight, hs, Int64.toInt_toBitVec]
  rw [e, lz_toInt h1 h2, Int.shiftRight_eq_div_pow]
  have hp : (0 : Int) < 2 ^ k := Int.pow_pos (by decide)
  have e3 : ((2 : Int) ^ k) = ((2 ^ k : Nat) : Int) := by simp
  have a1 : z / 2 ^ k ≤ z ∨ z / 2 ^ k ≤ 0 := by
    by_cases q : 0 ≤ z
    · exact Or.inl (Int.ediv_le_self _ q)
    · exact Or.inr (by have := Int.ediv_neg_of_neg_of_pos (a := z) (b := 2 ^ k) (by omega) hp; omega)
  have a2 : z ≤ z / 2 ^ k ∨ 0 ≤ z / 2 ^ k := by
    by_cases q : 0 ≤ z
    · exact Or.inr (Int.ediv_nonneg q (by omega))
    · left
      rw [Int.le_ediv_iff_mul_le hp]
      have : z * 2 ^ k ≤ z * 1 := Int.mul_le_mul_of_nonpos_left (by omega) (by omega)
      omega
  rw [lz_toInt (by omega) (by omega), e3]
theorem lz_lt {a b : Int} (ha1 : -2 ^ 63 ≤ a) (ha2 : a < 2 ^ 63) (hb1 : -2 ^ 63 ≤ b) (hb2 : b < 2 ^ 63) : lz a < lz b ↔ a < b := by rw [Int64.lt_iff_toInt_lt, lz_toInt ha1 ha2, lz_toInt hb1 hb2]
theorem iz_lt {a b : Int} (ha1 : -2 ^ 31 ≤ a) (ha2 : a < 2 ^ 31) (hb1 : -2 ^ 31 ≤ b) (hb2 : b < 2 ^ 31) : iz a < iz b ↔ a < b := by rw [Int32.lt_iff_toInt_lt, iz_toInt ha1 ha2, iz_toInt hb1 hb2]
/-- a digit and its carry, base 2 to the 31st -/
theorem lz_lo31 (z : Int) : (lz z &&& 2147483647).toInt32 = nI (z % 2147483648).toNat := by
  rw [lz_mask z (k := 31) (by decide) 2147483647 (by decide), lz_i]
  show iz (z % 2147483648) = iz ((z % 2147483648).toNat : Int)
  rw [Int.toNat_of_nonneg (Int.emod_nonneg _ (by decide))]
theorem lz_hi31 {z : Int} (h1 : -2 ^ 63 ≤ z) (h2 : z < 2 ^ 63) : lz z >>> ((31 : Int32).toInt64 &&& 63) = lz (z / 2147483648) := lz_shr h1 h2 _ 31 (by decide)
