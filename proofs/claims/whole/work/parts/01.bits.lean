/-! ints and longs by the whole numbers behind them -/
def pn_L (z : Int) : Int64 := Int64.ofInt z
def pn_I (z : Int) : Int32 := Int32.ofInt z
def pn_u (x : Int32) : Int := (x.toBitVec.toNat : Int)
theorem pn_L_of (x : Int64) : x = pn_L x.toInt := (Int64.ofInt_toInt x).symm
theorem pn_I_of (x : Int32) : x = pn_I x.toInt := (Int32.ofInt_toInt x).symm
theorem pn_L_add (a b : Int) : pn_L a + pn_L b = pn_L (a + b) := (Int64.ofInt_add a b).symm
theorem pn_L_sub (a b : Int) : pn_L a - pn_L b = pn_L (a - b) := (Int64.ofInt_sub a b).symm
theorem pn_L_mul (a b : Int) : pn_L a * pn_L b = pn_L (a * b) := (Int64.ofInt_mul a b).symm
theorem pn_L_neg (a : Int) : -pn_L a = pn_L (-a) := (Int64.ofInt_neg a).symm
theorem pn_I_add (a b : Int) : pn_I a + pn_I b = pn_I (a + b) := (Int32.ofInt_add a b).symm
theorem pn_I_sub (a b : Int) : pn_I a - pn_I b = pn_I (a - b) := (Int32.ofInt_sub a b).symm
theorem pn_I_mul (a b : Int) : pn_I a * pn_I b = pn_I (a * b) := (Int32.ofInt_mul a b).symm
theorem pn_I_neg (a : Int) : -pn_I a = pn_I (-a) := (Int32.ofInt_neg a).symm
theorem pn_I_nI (n : Nat) : pn_I (n : Int) = nI n := Int32.ofInt_eq_ofNat
theorem pn_L_lN (n : Nat) : pn_L (n : Int) = lN n := Int64.ofInt_eq_ofNat
theorem pn_L_toInt {z : Int} (h1 : -9223372036854775808 ≤ z) (h2 : z < 9223372036854775808) : (pn_L z).toInt = z := Int64.toInt_ofInt_of_le (by omega) (by omega)
theorem pn_I_toInt {z : Int} (h1 : -2147483648 ≤ z) (h2 : z < 2147483648) : (pn_I z).toInt = z := Int32.toInt_ofInt_of_le (by omega) (by omega)
theorem pn_L_nat (z : Int) : (pn_L z).toBitVec.toNat = (z % 18446744073709551616).toNat := by
  show (BitVec.ofInt 64 z).toNat = _
  rw [BitVec.toNat_ofInt]
  rfl
theorem pn_I_nat (z : Int) : (pn_I z).toBitVec.toNat = (z % 4294967296).toNat := by
  show (BitVec.ofInt 32 z).toNat = _
  rw [BitVec.toNat_ofInt]
  rfl
theorem pn_L_ext {x y : Int64} (h : x.toBitVec.toNat = y.toBitVec.toNat) : x = y := Int64.toBitVec_inj.mp (BitVec.eq_of_toNat_eq h)
theorem pn_I_ext {x y : Int32} (h : x.toBitVec.toNat = y.toBitVec.toNat) : x = y := Int32.toBitVec_inj.mp (BitVec.eq_of_toNat_eq h)
theorem pn_L_eqm {a b : Int} (h : a % 18446744073709551616 = b % 18446744073709551616) : pn_L a = pn_L b := pn_L_ext (by rw [pn_L_nat, pn_L_nat, h])
theorem pn_I_eqm {a b : Int} (h : a % 4294967296 = b % 4294967296) : pn_I a = pn_I b := pn_I_ext (by rw [pn_I_nat, pn_I_nat, h])
theorem pn_u_nonneg (x : Int32) : 0 ≤ pn_u x := Int.natCast_nonneg _
theorem pn_u_lt (x : Int32) : pn_u x < 4294967296 := by
  have h := x.toBitVec.isLt
  unfold pn_u
  omega
theorem pn_u_I (z : Int) : pn_u (pn_I z) = z % 4294967296 := by
  unfold pn_u
  rw [pn_I_nat]
  omega
theorem pn_u_Ilt {z : Int} (h0 : 0 ≤ z) (h1 : z < 4294967296) : pn_u (pn_I z) = z := by
  rw [pn_u_I]
  omega
theorem pn_u_inj {x y : Int32} (h : pn_u x = pn_u y) : x = y := pn_I_ext (by unfold pn_u at h; omega)
theorem pn_u_0 : pn_u 0 = 0 := by decide
theorem pn_u_eq0 {x : Int32} : pn_u x = 0 ↔ x = 0 := ⟨fun h => pn_u_inj (by rw [h, pn_u_0]), fun h => by rw [h, pn_u_0]⟩
theorem pn_u_pos {x : Int32} (h : x ≠ 0) : 1 ≤ pn_u x := by
  have h1 := pn_u_nonneg x
  have h2 : pn_u x ≠ 0 := fun e => h (pn_u_eq0.mp e)
  omega
theorem pn_u_toInt (x : Int32) : x.toInt % 4294967296 = pn_u x := by
  have h := BitVec.toInt_eq_toNat_cond x.toBitVec
  have h2 := x.toBitVec.isLt
  have h3 : x.toInt = x.toBitVec.toInt := rfl
  unfold pn_u
  rw [h3, h]
  split <;> omega
/-- the int that a limb is, out of its number -/
theorem pn_I_u (x : Int32) : pn_I (pn_u x) = x := pn_u_inj (pn_u_Ilt (pn_u_nonneg x) (pn_u_lt x))
theorem pn_i2l (x : Int32) : x.toInt64 = pn_L x.toInt := (Int64.ofInt_int32ToInt x).symm
theorem pn_L_i (z : Int) : (pn_L z).toInt32 = pn_I z := Int64.toInt32_ofInt
theorem pn_L_mask (z : Int) : pn_L z &&& 4294967295 = pn_L (z % 4294967296) := by
  apply pn_L_ext
  rw [Int64.toBitVec_and, BitVec.toNat_and, pn_L_nat, pn_L_nat]
  have h : (4294967295 : Int64).toBitVec.toNat = 2 ^ 32 - 1 := by decide
  rw [h, Nat.and_two_pow_sub_one_eq_mod]
  omega
/-- a limb read without its sign -/
theorem pn_limb (x : Int32) : x.toInt64 &&& 4294967295 = pn_L (pn_u x) := by
  rw [pn_i2l, pn_L_mask, pn_u_toInt]
theorem pn_L_ushr {z : Int} (h0 : 0 ≤ z) (h1 : z < 18446744073709551616) (y : Int32) (k : Nat) (hk : k < 64) (hy : y = nI k) :
    ((pn_L z).toUInt64 >>> (y.toInt64.toUInt64 &&& Int64.toUInt64 63)).toInt64 = pn_L (z / 2 ^ k) := by
  subst hy
  have hs : ((nI k).toInt64.toUInt64 &&& Int64.toUInt64 63).toNat % 64 = k := by
    rw [nI_l (by omega), UInt64.toNat_and]
    have e : (lN k).toUInt64.toNat = k % 2 ^ 64 := rfl
    have e2 : (Int64.toUInt64 63).toNat = 2 ^ 6 - 1 := by decide
    rw [e, e2, Nat.and_two_pow_sub_one_eq_mod]
    omega
  apply pn_L_ext
  show ((pn_L z).toUInt64 >>> ((nI k).toInt64.toUInt64 &&& Int64.toUInt64 63)).toNat = _
  rw [UInt64.toNat_shiftRight, hs, Nat.shiftRight_eq_div_pow, pn_L_nat]
  have e3 : (pn_L z).toUInt64.toNat = (z % 18446744073709551616).toNat := pn_L_nat z
  rw [e3]
  obtain ⟨n, rfl⟩ := Int.eq_ofNat_of_zero_le h0
  have e4 : ((n : Int) / 2 ^ k) = ((n / 2 ^ k : Nat) : Int) := by rw [Int.natCast_ediv, Int.natCast_pow]; rfl
  have e5 : n / 2 ^ k ≤ n := Nat.div_le_self _ _
  rw [e4]
  have e6 : ((n : Int) % 18446744073709551616).toNat = n := by omega
  rw [e6]
  generalize n / 2 ^ k = w at e5 ⊢
  omega
theorem pn_L_ushr32 {z : Int} (h0 : 0 ≤ z) (h1 : z < 18446744073709551616) : ((pn_L z).toUInt64 >>> ((32 : Int32).toInt64.toUInt64 &&& Int64.toUInt64 63)).toInt64 = pn_L (z / 4294967296) := pn_L_ushr h0 h1 32 32 (by decide) (by decide)
theorem pn_L_shr32 {z : Int} (h0 : -9223372036854775808 ≤ z) (h1 : z < 9223372036854775808) : pn_L z >>> ((32 : Int32).toInt64 &&& 63) = pn_L (z / 4294967296) := by
  apply Int64.toInt_inj.mp
  rw [pn_L_toInt (by omega) (by omega)]
  have hs : (((32 : Int32).toInt64 &&& 63).toBitVec.smod 64) = 32#64 := by decide
  show ((pn_L z).toBitVec.sshiftRight' (((32 : Int32).toInt64 &&& 63).toBitVec.smod 64)).toInt = _
  rw [hs]
  show ((pn_L z).toBitVec.sshiftRight 32).toInt = _
  rw [BitVec.toInt_sshiftRight]
  have e : (pn_L z).toBitVec.toInt = z := pn_L_toInt h0 h1
  rw [e, Int.shiftRight_eq_div_pow]
  rfl
theorem pn_L_shl (z : Int) (y : Int32) (k : Nat) (hk : k < 64) (hy : y = nI k) : pn_L z <<< (y.toInt64 &&& 63) = pn_L (z * 2 ^ k) := by
  subst hy
  have hs : (((nI k).toInt64 &&& 63).toBitVec.smod 64).toNat = k := by
    have h0 : ∀ j : Fin 64, (((nI j.val).toInt64 &&& 63).toBitVec.smod 64).toNat = j.val := by decide +kernel
    exact h0 ⟨k, hk⟩
  apply pn_L_ext
  show ((pn_L z).toBitVec <<< (((nI k).toInt64 &&& 63).toBitVec.smod 64).toNat).toNat = _
  rw [BitVec.toNat_shiftLeft, hs, Nat.shiftLeft_eq, pn_L_nat, pn_L_nat]
  have h2 : ((z % 18446744073709551616).toNat : Int) = z % 18446744073709551616 := Int.toNat_of_nonneg (Int.emod_nonneg _ (by decide))
  apply Int.natCast_inj.mp
  rw [Int.natCast_emod, Int.natCast_mul, h2, Int.natCast_pow]
  have h3 : ((z * 2 ^ k % 18446744073709551616).toNat : Int) = z * 2 ^ k % 18446744073709551616 := Int.toNat_of_nonneg (Int.emod_nonneg _ (by decide))
  rw [h3]
  show z % 18446744073709551616 * 2 ^ k % 18446744073709551616 = _
  rw [Int.mul_emod (z % 18446744073709551616), Int.emod_emod_of_dvd _ (Int.dvd_refl _), ← Int.mul_emod]
theorem pn_L_or {a b : Int} (ha0 : 0 ≤ a) (ha : a < 4294967296) (hb0 : 0 ≤ b) (hb : b < 4294967296) : pn_L (a * 4294967296) ||| pn_L b = pn_L (a * 4294967296 + b) := by
  apply pn_L_ext
  rw [Int64.toBitVec_or, BitVec.toNat_or, pn_L_nat, pn_L_nat, pn_L_nat]
  obtain ⟨n, rfl⟩ := Int.eq_ofNat_of_zero_le ha0
  obtain ⟨k, rfl⟩ := Int.eq_ofNat_of_zero_le hb0
  have e1 : ((n : Int) * 4294967296 % 18446744073709551616).toNat = 2 ^ 32 * n := by omega
  have e2 : ((k : Int) % 18446744073709551616).toNat = k := by omega
  have e3 : (((n : Int) * 4294967296 + k) % 18446744073709551616).toNat = 2 ^ 32 * n + k := by omega
  rw [e1, e2, e3]
  exact (Nat.two_pow_add_eq_or_of_lt (i := 32) (by omega) n).symm
theorem pn_L_lt {a b : Int} (ha0 : -9223372036854775808 ≤ a) (ha : a < 9223372036854775808) (hb0 : -9223372036854775808 ≤ b) (hb : b < 9223372036854775808) : pn_L a < pn_L b ↔ a < b := by
  rw [Int64.lt_iff_toInt_lt, pn_L_toInt ha0 ha, pn_L_toInt hb0 hb]
theorem pn_L_le {a b : Int} (ha0 : -9223372036854775808 ≤ a) (ha : a < 9223372036854775808) (hb0 : -9223372036854775808 ≤ b) (hb : b < 9223372036854775808) : pn_L a ≤ pn_L b ↔ a ≤ b := by
  rw [Int64.le_iff_toInt_le, pn_L_toInt ha0 ha, pn_L_toInt hb0 hb]
theorem pn_L_eq {a b : Int} (ha0 : -9223372036854775808 ≤ a) (ha : a < 9223372036854775808) (hb0 : -9223372036854775808 ≤ b) (hb : b < 9223372036854775808) : pn_L a = pn_L b ↔ a = b := by
  rw [← Int64.toInt_inj, pn_L_toInt ha0 ha, pn_L_toInt hb0 hb]
theorem pn_I_lt {a b : Int} (ha0 : -2147483648 ≤ a) (ha : a < 2147483648) (hb0 : -2147483648 ≤ b) (hb : b < 2147483648) : pn_I a < pn_I b ↔ a < b := by
  rw [Int32.lt_iff_toInt_lt, pn_I_toInt ha0 ha, pn_I_toInt hb0 hb]
theorem pn_I_le {a b : Int} (ha0 : -2147483648 ≤ a) (ha : a < 2147483648) (hb0 : -2147483648 ≤ b) (hb : b < 2147483648) : pn_I a ≤ pn_I b ↔ a ≤ b := by
  rw [Int32.le_iff_toInt_le, pn_I_toInt ha0 ha, pn_I_toInt hb0 hb]
theorem pn_I_eq {a b : Int} (ha0 : -2147483648 ≤ a) (ha : a < 2147483648) (hb0 : -2147483648 ≤ b) (hb : b < 2147483648) : pn_I a = pn_I b ↔ a = b := by
  rw [← Int32.toInt_inj, pn_I_toInt ha0 ha, pn_I_toInt hb0 hb]
theorem pn_L_div {a b : Int} (ha0 : 0 ≤ a) (ha : a < 9223372036854775808) (hb0 : 0 < b) (hb : b < 9223372036854775808) : pn_L a / pn_L b = pn_L (a / b) := by
  have m1 : Int64.minValue.toInt = -9223372036854775808 := by decide
  have m2 : Int64.maxValue.toInt = 9223372036854775807 := by decide
  have h := Int64.ofInt_tdiv (a := a) (b := b) (by rw [m1]; omega) (by rw [m2]; omega) (by rw [m1]; omega) (by rw [m2]; omega)
  rw [Int.tdiv_eq_ediv_of_nonneg ha0] at h
  exact h.symm
/-- unsigned comparison by adding the sign's bit: any whole numbers below 2^64 -/
theorem pn_L_ule {a b : Int} (ha0 : 0 ≤ a) (ha : a < 18446744073709551616) (hb0 : 0 ≤ b) (hb : b < 18446744073709551616) : pn_L a + pn_L (-9223372036854775808) ≤ pn_L b + pn_L (-9223372036854775808) ↔ a ≤ b := by
  rw [pn_L_add, pn_L_add, pn_L_le (by omega) (by omega) (by omega) (by omega)]
  omega
