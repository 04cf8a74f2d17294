section
/-! ints and longs by the whole numbers behind them -/
def pn_L (z : Int) : Int64 := Int64.ofInt z
def pn_I (z : Int) : Int32 := Int32.ofInt z
def pn_u (x : Int32) : Int := (x.toBitVec.toNat : Int)
theorem pn_L_of (x : Int64) : x = pn_L x.toInt := (Int64.ofInt_toInt x).symm
theorem pn_I_of (x : Int32) : x = pn_I x.toInt := (Int32.ofInt_toInt x).symm
theorem pn_L_add (a b : Int) : pn_L a + pn_L b = pn_L (a + b) := (Int64.ofInt_add a b).symm
theorem pn_L_sub (a b : Int) : pn_L a - pn_L b = pn_L (a - b) := (Int64.ofInt_sub a b).symm
theorem pn_L_mul (a b : Int) : pn_L a * pn_L b = pn_L (a * b) := (Int64.ofInt_mul a b).symm
theorem pn_L_neg (a : Int) : -pn_L a = pn_L (-a) := (Int64.ofInt_neg a).symm
theorem pn_I_add (a b : Int) : pn_I a + pn_I b = pn_I (a + b) := (Int32.ofInt_add a b).symm
theorem pn_I_sub (a b : Int) : pn_I a - pn_I b = pn_I (a - b) := (Int32.ofInt_sub a b).symm
theorem pn_I_mul (a b : Int) : pn_I a * pn_I b = pn_I (a * b) := (Int32.ofInt_mul a b).symm
theorem pn_I_neg (a : Int) : -pn_I a = pn_I (-a) := (Int32.ofInt_neg a).symm
theorem pn_I_nI (n : Nat) : pn_I (n : Int) = nI n := Int32.ofInt_eq_ofNat
theorem pn_L_lN (n : Nat) : pn_L (n : Int) = lN n := Int64.ofInt_eq_ofNat
theorem pn_L_toInt {z : Int} (h1 : -9223372036854775808 ≤ z) (h2 : z < 9223372036854775808) : (pn_L z).toInt = z := Int64.toInt_ofInt_of_le (by omega) (by omega)
theorem pn_I_toInt {z : Int} (h1 : -2147483648 ≤ z) (h2 : z < 2147483648) : (pn_I z).toInt = z := Int32.toInt_ofInt_of_le (by omega) (by omega)
theorem pn_L_nat (z : Int) : (pn_L z).toBitVec.toNat = (z % 18446744073709551616).toNat := by
  show (BitVec.ofInt 64 z).toNat = _
  rw [BitVec.toNat_ofInt]
  rfl
theorem pn_I_nat (z : Int) : (pn_I z).toBitVec.toNat = (z % 4294967296).toNat := by
  show (BitVec.ofInt 32 z).toNat = _
  rw [BitVec.toNat_ofInt]
  rfl
theorem pn_L_ext {x y : Int64} (h : x.toBitVec.toNat = y.toBitVec.toNat) : x = y := Int64.toBitVec_inj.mp (BitVec.eq_of_toNat_eq h)
theorem pn_I_ext {x y : Int32} (h : x.toBitVec.toNat = y.toBitVec.toNat) : x = y := Int32.toBitVec_inj.mp (BitVec.eq_of_toNat_eq h)
theorem pn_L_eqm {a b : Int} (h : a % 18446744073709551616 = b % 18446744073709551616) : pn_L a = pn_L b := pn_L_ext (by rw [pn_L_nat, pn_L_nat, h])
theorem pn_I_eqm {a b : Int} (h : a % 4294967296 = b % 4294967296) : pn_I a = pn_I b := pn_I_ext (by rw [pn_I_nat, pn_I_nat, h])
theorem pn_u_nonneg (x : Int32) : 0 ≤ pn_u x := Int.natCast_nonneg _
theorem pn_u_lt (x : Int32) : pn_u x < 4294967296 := by
  have h := x.toBitVec.isLt
  unfold pn_u
  omega
theorem pn_u_I (z : Int) : pn_u (pn_I z) = z % 4294967296 := by
  unfold pn_u
  rw [pn_I_nat]
  omega
theorem pn_u_Ilt {z : Int} (h0 : 0 ≤ z) (h1 : z < 4294967296) : pn_u (pn_I z) = z := by
  rw [pn_u_I]
  omega
theorem pn_u_inj {x y : Int32} (h : pn_u x = pn_u y) : x = y := pn_I_ext (by unfold pn_u at h; omega)
theorem pn_u_0 : pn_u 0 = 0 := by decide
theorem pn_u_eq0 {x : Int32} : pn_u x = 0 ↔ x = 0 := ⟨fun h => pn_u_inj (by rw [h, pn_u_0]), fun h => by rw [h, pn_u_0]⟩
theorem pn_u_pos {x : Int32} (h : x ≠ 0) : 1 ≤ pn_u x := by
  have h1 := pn_u_nonneg x
  have h2 : pn_u x ≠ 0 := fun e => h (pn_u_eq0.mp e)
  omega
theorem pn_u_toInt (x : Int32) : x.toInt % 4294967296 = pn_u x := by
  have h := BitVec.toInt_eq_toNat_cond x.toBitVec
  have h2 := x.toBitVec.isLt
  have h3 : x.toInt = x.toBitVec.toInt := rfl
  unfold pn_u
  rw [h3, h]
  split <;> omega
/-- the int that a limb is, out of its number -/
theorem pn_I_u (x : Int32) : pn_I (pn_u x) = x := pn_u_inj (pn_u_Ilt (pn_u_nonneg x) (pn_u_lt x))
theorem pn_i2l (x : Int32) : x.toInt64 = pn_L x.toInt := (Int64.ofInt_int32ToInt x).symm
theorem pn_L_i (z : Int) : (pn_L z).toInt32 = pn_I z := Int64.toInt32_ofInt
theorem pn_L_mask (z : Int) : pn_L z &&& 4294967295 = pn_L (z % 4294967296) := by
  apply pn_L_ext
  rw [Int64.toBitVec_and, BitVec.toNat_and, pn_L_nat, pn_L_nat]
  have h : (4294967295 : Int64).toBitVec.toNat = 2 ^ 32 - 1 := by decide
  rw [h, Nat.and_two_pow_sub_one_eq_mod]
  omega
/-- a limb read without its sign -/
theorem pn_limb (x : Int32) : x.toInt64 &&& 4294967295 = pn_L (pn_u x) := by
  rw [pn_i2l, pn_L_mask, pn_u_toInt]
theorem pn_L_ushr {z : Int} (h0 : 0 ≤ z) (h1 : z < 18446744073709551616) (y : Int32) (k : Nat) (hk : k < 64) (hy : y = nI k) :
    ((pn_L z).toUInt64 >>> (y.toInt64.toUInt64 &&& Int64.toUInt64 63)).toInt64 = pn_L (z / 2 ^ k) := by
  subst hy
  have hs : ((nI k).toInt64.toUInt64 &&& Int64.toUInt64 63).toNat % 64 = k := by
    rw [nI_l (by omega), UInt64.toNat_and]
    have e : (lN k).toUInt64.toNat = k % 2 ^ 64 := rfl
    have e2 : (Int64.toUInt64 63).toNat = 2 ^ 6 - 1 := by decide
    rw [e, e2, Nat.and_two_pow_sub_one_eq_mod]
    omega
  apply pn_L_ext
  show ((pn_L z).toUInt64 >>> ((nI k).toInt64.toUInt64 &&& Int64.toUInt64 63)).toNat = _
  rw [UInt64.toNat_shiftRight, hs, Nat.shiftRight_eq_div_pow, pn_L_nat]
  have e3 : (pn_L z).toUInt64.toNat = (z % 18446744073709551616).toNat := pn_L_nat z
  rw [e3]
  obtain ⟨n, rfl⟩ := Int.eq_ofNat_of_zero_le h0
  have e4 : ((n : Int) / 2 ^ k) = ((n / 2 ^ k : Nat) : Int) := by rw [Int.natCast_ediv, Int.natCast_pow]; rfl
  have e5 : n / 2 ^ k ≤ n := Nat.div_le_self _ _
  rw [e4]
  have e6 : ((n : Int) % 18446744073709551616).toNat = n := by omega
  rw [e6]
  generalize n / 2 ^ k = w at e5 ⊢
  omega
theorem pn_L_ushr32 {z : Int} (h0 : 0 ≤ z) (h1 : z < 18446744073709551616) : ((pn_L z).toUInt64 >>> ((32 : Int32).toInt64.toUInt64 &&& Int64.toUInt64 63)).toInt64 = pn_L (z / 4294967296) := pn_L_ushr h0 h1 32 32 (by decide) (by decide)
theorem pn_L_shr32 {z : Int} (h0 : -9223372036854775808 ≤ z) (h1 : z < 9223372036854775808) : pn_L z >>> ((32 : Int32).toInt64 &&& 63) = pn_L (z / 4294967296) := by
  apply Int64.toInt_inj.mp
  rw [pn_L_toInt (by omega) (by omega)]
  have hs : (((32 : Int32).toInt64 &&& 63).toBitVec.smod 64) = 32#64 := by decide
  show ((pn_L z).toBitVec.sshiftRight' (((32 : Int32).toInt64 &&& 63).toBitVec.smod 64)).toInt = _
  rw [hs]
  show ((pn_L z).toBitVec.sshiftRight 32).toInt = _
  rw [BitVec.toInt_sshiftRight]
  have e : (pn_L z).toBitVec.toInt = z := pn_L_toInt h0 h1
  rw [e, Int.shiftRight_eq_div_pow]
  rfl
theorem pn_L_shl (z : Int) (y : Int32) (k : Nat) (hk : k < 64) (hy : y = nI k) : pn_L z <<< (y.toInt64 &&& 63) = pn_L (z * 2 ^ k) := by
  subst hy
  have hs : (((nI k).toInt64 &&& 63).toBitVec.smod 64).toNat = k := by
    have h0 : ∀ j : Fin 64, (((nI j.val).toInt64 &&& 63).toBitVec.smod 64).toNat = j.val := by decide +kernel
    exact h0 ⟨k, hk⟩
  apply pn_L_ext
  show ((pn_L z).toBitVec <<< (((nI k).toInt64 &&& 63).toBitVec.smod 64).toNat).toNat = _
  rw [BitVec.toNat_shiftLeft, hs, Nat.shiftLeft_eq, pn_L_nat, pn_L_nat]
  have h2 : ((z % 18446744073709551616).toNat : Int) = z % 18446744073709551616 := Int.toNat_of_nonneg (Int.emod_nonneg _ (by decide))
  apply Int.natCast_inj.mp
  rw [Int.natCast_emod, Int.natCast_mul, h2, Int.natCast_pow]
  have h3 : ((z * 2 ^ k % 18446744073709551616).toNat : Int) = z * 2 ^ k % 18446744073709551616 := Int.toNat_of_nonneg (Int.emod_nonneg _ (by decide))
  rw [h3]
  show z % 18446744073709551616 * 2 ^ k % 18446744073709551616 = _
  rw [Int.mul_emod (z % 18446744073709551616), Int.emod_emod_of_dvd _ (Int.dvd_refl _), ← Int.mul_emod]
theorem pn_L_or {a b : Int} (ha0 : 0 ≤ a) (ha : a < 4294967296) (hb0 : 0 ≤ b) (hb : b < 4294967296) : pn_L (a * 4294967296) ||| pn_L b = pn_L (a * 4294967296 + b) := by
  apply pn_L_ext
  rw [Int64.toBitVec_or, BitVec.toNat_or, pn_L_nat, pn_L_nat, pn_L_nat]
  obtain ⟨n, rfl⟩ := Int.eq_ofNat_of_zero_le ha0
  obtain ⟨k, rfl⟩ := Int.eq_ofNat_of_zero_le hb0
  have e1 : ((n : Int) * 4294967296 % 18446744073709551616).toNat = 2 ^ 32 * n := by omega
  have e2 : ((k : Int) % 18446744073709551616).toNat = k := by omega
  have e3 : (((n : Int) * 4294967296 + k) % 18446744073709551616).toNat = 2 ^ 32 * n + k := by omega
  rw [e1, e2, e3]
  exact (Nat.two_pow_add_eq_or_of_lt (i := 32) (by omega) n).symm
theorem pn_L_lt {a b : Int} (ha0 : -9223372036854775808 ≤ a) (ha : a < 9223372036854775808) (hb0 : -9223372036854775808 ≤ b) (hb : b < 9223372036854775808) : pn_L a < pn_L b ↔ a < b := by
  rw [Int64.lt_iff_toInt_lt, pn_L_toInt ha0 ha, pn_L_toInt hb0 hb]
theorem pn_L_le {a b : Int} (ha0 : -9223372036854775808 ≤ a) (ha : a < 9223372036854775808) (hb0 : -9223372036854775808 ≤ b) (hb : b < 9223372036854775808) : pn_L a ≤ pn_L b ↔ a ≤ b := by
  rw [Int64.le_iff_toInt_le, pn_L_toInt ha0 ha, pn_L_toInt hb0 hb]
theorem pn_L_eq {a b : Int} (ha0 : -9223372036854775808 ≤ a) (ha : a < 9223372036854775808) (hb0 : -9223372036854775808 ≤ b) (hb : b < 9223372036854775808) : pn_L a = pn_L b ↔ a = b := by
  rw [← Int64.toInt_inj, pn_L_toInt ha0 ha, pn_L_toInt hb0 hb]
theorem pn_I_lt {a b : Int} (ha0 : -2147483648 ≤ a) (ha : a < 2147483648) (hb0 : -2147483648 ≤ b) (hb : b < 2147483648) : pn_I a < pn_I b ↔ a < b := by
  rw [Int32.lt_iff_toInt_lt, pn_I_toInt ha0 ha, pn_I_toInt hb0 hb]
theorem pn_I_le {a b : Int} (ha0 : -2147483648 ≤ a) (ha : a < 2147483648) (hb0 : -2147483648 ≤ b) (hb : b < 2147483648) : pn_I a ≤ pn_I b ↔ a ≤ b := by
  rw [Int32.le_iff_toInt_le, pn_I_toInt ha0 ha, pn_I_toInt hb0 hb]
theorem pn_I_eq {a b : Int} (ha0 : -2147483648 ≤ a) (ha : a < 2147483648) (hb0 : -2147483648 ≤ b) (hb : b < 2147483648) : pn_I a = pn_I b ↔ a = b := by
  rw [← Int32.toInt_inj, pn_I_toInt ha0 ha, pn_I_toInt hb0 hb]
theorem pn_L_div {a b : Int} (ha0 : 0 ≤ a) (ha : a < 9223372036854775808) (hb0 : 0 < b) (hb : b < 9223372036854775808) : pn_L a / pn_L b = pn_L (a / b) := by
  have m1 : Int64.minValue.toInt = -9223372036854775808 := by decide
  have m2 : Int64.maxValue.toInt = 9223372036854775807 := by decide
  have h := Int64.ofInt_tdiv (a := a) (b := b) (by rw [m1]; omega) (by rw [m2]; omega) (by rw [m1]; omega) (by rw [m2]; omega)
  rw [Int.tdiv_eq_ediv_of_nonneg ha0] at h
  exact h.symm
/-- unsigned comparison by adding the sign's bit: any whole numbers below 2^64 -/
theorem pn_L_ule {a b : Int} (ha0 : 0 ≤ a) (ha : a < 18446744073709551616) (hb0 : 0 ≤ b) (hb : b < 18446744073709551616) : pn_L a + pn_L (-9223372036854775808) ≤ pn_L b + pn_L (-9223372036854775808) ↔ a ≤ b := by
  rw [pn_L_add, pn_L_add, pn_L_le (by omega) (by omega) (by omega) (by omega)]
  omega
end
section
/-! numbers by their limbs: pn_V f n is the number whose n lowest limbs are f 0 .. f (n - 1) -/
def pn_E (n : Nat) : Int := 4294967296 ^ n
theorem pn_E_0 : pn_E 0 = 1 := rfl
theorem pn_E_s (n : Nat) : pn_E (n + 1) = pn_E n * 4294967296 := Int.pow_succ _ _
theorem pn_E_1 : pn_E 1 = 4294967296 := rfl
theorem pn_E_pos (n : Nat) : 0 < pn_E n := by
  induction n with
  | zero => decide
  | succ n ih => rw [pn_E_s]; omega
theorem pn_E_add (a b : Nat) : pn_E (a + b) = pn_E a * pn_E b := Int.pow_add _ _ _
theorem pn_E_mono {a b : Nat} (h : a ≤ b) : pn_E a ≤ pn_E b := by
  obtain ⟨k, rfl⟩ := Nat.le.dest h
  rw [pn_E_add]
  have h1 := pn_E_pos a
  have h2 := pn_E_pos k
  have h3 := Int.mul_le_mul_of_nonneg_left (a := 1) (b := pn_E k) (c := pn_E a) (by omega) (by omega)
  omega
def pn_V (f : Nat → Int32) : Nat → Int
  | 0 => 0
  | n + 1 => pn_V f n + pn_u (f n) * pn_E n
theorem pn_V_0 (f : Nat → Int32) : pn_V f 0 = 0 := rfl
theorem pn_V_s (f : Nat → Int32) (n : Nat) : pn_V f (n + 1) = pn_V f n + pn_u (f n) * pn_E n := rfl
theorem pn_mul_nonneg {a b : Int} (ha : 0 ≤ a) (hb : 0 ≤ b) : 0 ≤ a * b := Int.mul_nonneg ha hb
theorem pn_mul_le {a b c : Int} (h : a ≤ b) (hc : 0 ≤ c) : a * c ≤ b * c := Int.mul_le_mul_of_nonneg_right h hc
theorem pn_le_mul {a b c : Int} (h : a ≤ b) (hc : 0 ≤ c) : c * a ≤ c * b := Int.mul_le_mul_of_nonneg_left h hc
theorem pn_V_nonneg (f : Nat → Int32) (n : Nat) : 0 ≤ pn_V f n := by
  induction n with
  | zero => exact Int.le_refl 0
  | succ n ih =>
    have h1 := pn_mul_nonneg (pn_u_nonneg (f n)) (Int.le_of_lt (pn_E_pos n))
    rw [pn_V_s]
    omega
theorem pn_V_lt (f : Nat → Int32) (n : Nat) : pn_V f n < pn_E n := by
  induction n with
  | zero => rw [pn_V_0, pn_E_0]; decide
  | succ n ih =>
    have h1 := pn_mul_le (a := pn_u (f n)) (b := 4294967295) (by have := pn_u_lt (f n); omega) (Int.le_of_lt (pn_E_pos n))
    rw [pn_V_s, pn_E_s]
    omega
theorem pn_V_congr {f g : Nat → Int32} {n : Nat} (h : ∀ i, i < n → f i = g i) : pn_V f n = pn_V g n := by
  induction n with
  | zero => rfl
  | succ n ih => rw [pn_V_s, pn_V_s, ih (fun i hi => h i (by omega)), h n (by omega)]
theorem pn_V_up {f : Nat → Int32} {k n : Nat} {x : Int32} (h : n ≤ k) : pn_V (upd f k x) n = pn_V f n := pn_V_congr (fun i hi => pk_un (by omega))
theorem pn_V_upS {f : Nat → Int32} {n : Nat} {x : Int32} : pn_V (upd f n x) (n + 1) = pn_V f n + pn_u x * pn_E n := by
  rw [pn_V_s, pn_V_up (Nat.le_refl n), pk_us]
theorem pn_V_in {f : Nat → Int32} {k n : Nat} {x : Int32} (h : k < n) : pn_V (upd f k x) n = pn_V f n + (pn_u x - pn_u (f k)) * pn_E k := by
  induction n with
  | zero => omega
  | succ n ih =>
    rcases Nat.lt_or_ge k n with h1 | h1
    · rw [pn_V_s, pn_V_s, ih h1, pk_un (show n ≠ k by omega)]
      omega
    · have e : k = n := by omega
      subst e
      rw [pn_V_upS, pn_V_s, Int.sub_mul]
      omega
theorem pn_V_more {f : Nat → Int32} {n m : Nat} (h : n ≤ m) (hz : ∀ i, n ≤ i → i < m → f i = 0) : pn_V f m = pn_V f n := by
  induction m with
  | zero => have e : n = 0 := by omega
            subst e; rfl
  | succ m ih =>
    rcases Nat.lt_or_ge m n with h1 | h1
    · have e : n = m + 1 := by omega
      subst e; rfl
    · rw [pn_V_s, hz m h1 (by omega), pn_u_0, ih h1 (fun i a b => hz i a (by omega))]
      omega
theorem pn_V_zero {f : Nat → Int32} {n : Nat} (hz : ∀ i, i < n → f i = 0) : pn_V f n = 0 := pn_V_more (Nat.zero_le n) (fun i _ h => hz i h)
theorem pn_V_add (f : Nat → Int32) (m n : Nat) : pn_V f (m + n) = pn_V f m + pn_E m * pn_V (fun i => f (m + i)) n := by
  induction n with
  | zero => rw [pn_V_0, Int.mul_zero, Int.add_zero]; rfl
  | succ n ih =>
    show pn_V f (m + n) + pn_u (f (m + n)) * pn_E (m + n) = _
    rw [pn_V_s, ih, pn_E_add, Int.mul_add]
    have e : pn_u (f (m + n)) * (pn_E m * pn_E n) = pn_E m * (pn_u (f (m + n)) * pn_E n) := by
      rw [← Int.mul_assoc, Int.mul_comm (pn_u _) (pn_E m), Int.mul_assoc]
    omega
/-- the count is the least that holds the number: the limb below it isn't 0 -/
def pn_nz (f : Nat → Int32) (n : Nat) : Prop := ∀ k, n = k + 1 → f k ≠ 0
theorem pn_nz_0 {f : Nat → Int32} : pn_nz f 0 := fun k h => by omega
theorem pn_nz_congr {f g : Nat → Int32} {n : Nat} (h : ∀ i, i < n → f i = g i) (hf : pn_nz f n) : pn_nz g n := fun k e => by rw [← h k (by omega)]; exact hf k e
theorem pn_V_low {f : Nat → Int32} {k : Nat} (h : pn_nz f (k + 1)) : pn_E k ≤ pn_V f (k + 1) := by
  have h1 := pn_V_nonneg f k
  have h2 := pn_mul_le (pn_u_pos (h k rfl)) (Int.le_of_lt (pn_E_pos k))
  rw [pn_V_s]
  omega
theorem pn_V_ne0 {f : Nat → Int32} {n : Nat} (h : pn_nz f n) : pn_V f n = 0 ↔ n = 0 := by
  refine ⟨fun e => ?_, fun e => by subst e; rfl⟩
  cases n with
  | zero => rfl
  | succ k =>
    have h1 := pn_V_low h
    have h2 := pn_E_pos k
    omega
/-- digits and what is below them, apart -/
theorem pn_apart {a b x y E : Int} (ha0 : 0 ≤ a) (ha : a < E) (hb0 : 0 ≤ b) (hb : b < E) (h : a + x * E = b + y * E) : x = y ∧ a = b := by
  have hE : 0 ≤ E := by omega
  have e : x = y := by
    rcases Int.lt_trichotomy x y with q | q | q
    · have h1 := pn_mul_le (show x + 1 ≤ y by omega) hE
      rw [Int.add_mul] at h1
      omega
    · exact q
    · have h1 := pn_mul_le (show y + 1 ≤ x by omega) hE
      rw [Int.add_mul] at h1
      omega
  subst e
  exact ⟨rfl, by omega⟩
theorem pn_V_inj {f g : Nat → Int32} {n : Nat} (h : pn_V f n = pn_V g n) : ∀ i, i < n → f i = g i := by
  induction n with
  | zero => intro i hi; omega
  | succ n ih =>
    rw [pn_V_s, pn_V_s] at h
    obtain ⟨h1, h2⟩ := pn_apart (pn_V_nonneg f n) (pn_V_lt f n) (pn_V_nonneg g n) (pn_V_lt g n) h
    intro i hi
    rcases Nat.lt_or_ge i n with q | q
    · exact ih h2 i q
    · have e : i = n := by omega
      subst e
      exact pn_u_inj h1
theorem pn_V_cnt {f g : Nat → Int32} {n m : Nat} (hf : pn_nz f n) (hg : pn_nz g m) (h : pn_V f n = pn_V g m) : n = m := by
  rcases Nat.lt_trichotomy n m with q | q | q
  · cases m with
    | zero => omega
    | succ m =>
      have h1 := pn_V_low hg
      have h2 := pn_V_lt f n
      have h3 := pn_E_mono (show n ≤ m by omega)
      omega
  · exact q
  · cases n with
    | zero => omega
    | succ n =>
      have h1 := pn_V_low hf
      have h2 := pn_V_lt g m
      have h3 := pn_E_mono (show m ≤ n by omega)
      omega
/-! sizes compared -/
theorem pn_V_fewer {f g : Nat → Int32} {n m : Nat} (hg : pn_nz g m) (h : n < m) : pn_V f n < pn_V g m := by
  cases m with
  | zero => omega
  | succ m =>
    have h1 := pn_V_low hg
    have h2 := pn_V_lt f n
    have h3 := pn_E_mono (show n ≤ m by omega)
    omega
theorem pn_V_above {f g : Nat → Int32} {k n : Nat} (hk : k ≤ n) (h : ∀ j, k ≤ j → j < n → f j = g j) : pn_V f n - pn_V g n = pn_V f k - pn_V g k := by
  induction n with
  | zero => have e : k = 0 := by omega
            subst e; rfl
  | succ n ih =>
    rcases Nat.lt_or_ge n k with q | q
    · have e : k = n + 1 := by omega
      subst e; rfl
    · rw [pn_V_s, pn_V_s, h n q (by omega)]
      have := ih q (fun j a b => h j a (by omega))
      omega
theorem pn_V_less {f g : Nat → Int32} {i : Nat} (h : pn_u (f i) < pn_u (g i)) : pn_V f (i + 1) < pn_V g (i + 1) := by
  have h1 := pn_V_lt f i
  have h2 := pn_V_nonneg g i
  have h3 := pn_mul_le (show pn_u (f i) + 1 ≤ pn_u (g i) by omega) (Int.le_of_lt (pn_E_pos i))
  rw [Int.add_mul] at h3
  rw [pn_V_s, pn_V_s]
  omega
/-- a digit of t goes out, what is above it is carried on -/
theorem pn_step (o c t E S : Int) (h : o + c * E = S) : o + t % 4294967296 * E + t / 4294967296 * (E * 4294967296) = S + (t - c) * E := by
  have e : t = t % 4294967296 + 4294967296 * (t / 4294967296) := by omega
  have e2 : t * E = t % 4294967296 * E + t / 4294967296 * (E * 4294967296) := by
    conv => lhs; rw [e]
    rw [Int.add_mul, Int.mul_comm 4294967296 (t / 4294967296), Int.mul_assoc, Int.mul_comm 4294967296 E]
  rw [Int.sub_mul]
  omega
/-! a product of two limbs -/
theorem pn_prod_le {x y : Int} (hx0 : 0 ≤ x) (hx : x ≤ 4294967295) (hy0 : 0 ≤ y) (hy : y ≤ 4294967295) : 0 ≤ x * y ∧ x * y ≤ 18446744065119617025 := by
  refine ⟨Int.mul_nonneg hx0 hy0, ?_⟩
  have h1 := pn_mul_le hx hy0
  omega
end
section
/-! long division: a limb of the quotient, guessed from three limbs of the dividend and two of the divisor -/
theorem pn_kn_test {q h l u2 u1 u0 r : Int} (hr : r = u2 * 4294967296 + u1 - q * h) : q * l ≤ r * 4294967296 + u0 ↔ q * (h * 4294967296 + l) ≤ (u2 * 4294967296 + u1) * 4294967296 + u0 := by
  have e : q * (h * 4294967296 + l) = q * h * 4294967296 + q * l := by grind
  rw [e]
  subst hr
  omega
theorem pn_kn_up {q h l u2 u1 u0 : Int} (hq : u2 * 4294967296 + u1 < (q + 1) * h) (hu : u0 < 4294967296) (hq0 : 0 ≤ q) (hl : 0 ≤ l) : (u2 * 4294967296 + u1) * 4294967296 + u0 < (q + 1) * (h * 4294967296 + l) := by
  have e : (q + 1) * (h * 4294967296 + l) = (q + 1) * h * 4294967296 + (q + 1) * l := by grind
  have h1 := pn_mul_nonneg (show 0 ≤ q + 1 by omega) hl
  rw [e]
  omega
/-- the first guess is too great by 2 at most -/
theorem pn_kn_two {q h l u2 u1 u0 : Int} (hh : 2147483648 ≤ h) (hl0 : 0 ≤ l) (hl : l ≤ 4294967295) (hq0 : 0 ≤ q) (hq : q ≤ 4294967295) (hqh : q * h ≤ u2 * 4294967296 + u1) (hu0 : 0 ≤ u0) :
    (q - 2) * (h * 4294967296 + l) ≤ (u2 * 4294967296 + u1) * 4294967296 + u0 := by
  have e : (q - 2) * (h * 4294967296 + l) = q * h * 4294967296 + q * l - 2 * (h * 4294967296 + l) := by grind
  have h1 := (pn_prod_le hq0 hq hl0 hl).2
  rw [e]
  omega
/-- a guess that is right for the highest limbs is right for the whole, or too great by 1 -/
theorem pn_kn_q {q U3 V2 E lo vlo : Int} (hE : 0 < E) (hlo0 : 0 ≤ lo) (hlo : lo < E) (hv0 : 0 ≤ vlo) (hv : vlo < E) (hV2 : 4294967296 ≤ V2) (h0 : 0 ≤ q) (h1 : q ≤ 4294967295) (h2 : q * V2 ≤ U3)
    (h3 : q = 4294967295 ∨ U3 < (q + 1) * V2) (hUV : U3 * E + lo < 4294967296 * (V2 * E + vlo)) :
    q * (V2 * E + vlo) ≤ (U3 * E + lo) + (V2 * E + vlo) ∧ U3 * E + lo < (q + 1) * (V2 * E + vlo) := by
  have a1 := pn_mul_le h2 (Int.le_of_lt hE)
  have a2 := pn_mul_le h1 hv0
  have a3 := pn_mul_le hV2 (Int.le_of_lt hE)
  have a4 := pn_mul_nonneg (show 0 ≤ q + 1 by omega) hv0
  have e1 : q * (V2 * E + vlo) = q * V2 * E + q * vlo := by grind
  have e2 : (q + 1) * (V2 * E + vlo) = (q + 1) * V2 * E + (q + 1) * vlo := by grind
  constructor
  · rw [e1]
    omega
  · rcases h3 with h3 | h3
    · rw [h3]
      omega
    · have a5 := pn_mul_le (show U3 + 1 ≤ (q + 1) * V2 by omega) (Int.le_of_lt hE)
      rw [Int.add_mul] at a5
      rw [e2]
      omega
/-- a step of the subtraction of a multiple -/
theorem pn_kn_take {o c t u E S b : Int} (h : o - c * E = S) (hb : b = 0 ∨ b = 1) : o + (u - t % 4294967296 + b * 4294967296) * E - (t / 4294967296 + b) * (E * 4294967296) = S + (u - (t - c)) * E := by
  have e : t = t % 4294967296 + 4294967296 * (t / 4294967296) := by omega
  generalize t % 4294967296 = r at *
  generalize t / 4294967296 = k at *
  subst e
  subst h
  grind
/-- the carry of that subtraction stays a limb -/
theorem pn_kn_carry {c f v u : Int} (hc0 : 0 ≤ c) (hc : c ≤ 4294967295) (hf0 : 0 ≤ f) (hf : f ≤ 4294967295) (hv0 : 0 ≤ v) (hv : v ≤ 4294967295) (hu0 : 0 ≤ u) {b : Int} (hb : b = if u - (c + f * v) % 4294967296 < 0 then 1 else 0) :
    0 ≤ (c + f * v) / 4294967296 + b ∧ (c + f * v) / 4294967296 + b ≤ 4294967295 := by
  have h1 := pn_prod_le hf0 hf hv0 hv
  generalize f * v = w at *
  subst hb
  split <;> omega
end
section
/-! greatest common divisors: steps that the leading bits foresee are Euclid's own -/
theorem pn_gcd_step (X Y q : Int) : Int.gcd Y (X - q * Y) = Int.gcd X Y := by
  rw [Int.gcd_sub_mul_right_right, Int.gcd_comm]
theorem pn_leh_core {s X Y L U l u q : Int} (hs : 0 < s) (hX1 : s * L ≤ X) (hX2 : X ≤ s * U) (hY1 : s * l ≤ Y) (hY2 : Y ≤ s * u) (hq0 : 0 ≤ q) (hq1 : q * u ≤ L) (hq2 : U < (q + 1) * l) : 0 ≤ X - q * Y ∧ X - q * Y < Y := by
  have a1 := pn_le_mul hY2 hq0
  have a2 := pn_le_mul hq1 (Int.le_of_lt hs)
  have a3 := pn_le_mul (show U + 1 ≤ (q + 1) * l by omega) (Int.le_of_lt hs)
  have a4 := pn_le_mul hY1 (show 0 ≤ q + 1 by omega)
  have e1 : q * (s * u) = s * (q * u) := by grind
  have e2 : (q + 1) * (s * l) = s * ((q + 1) * l) := by grind
  have e3 : (q + 1) * Y = q * Y + Y := by grind
  have e4 : s * (U + 1) = s * U + s := by grind
  omega
theorem pn_leh_bd {a b x0 y0 e g s : Int} (ha : 0 ≤ a) (hb : b ≤ 0) (he0 : 0 ≤ e) (he : e ≤ s) (hg0 : 0 ≤ g) (hg : g ≤ s) :
    s * (a * x0 + b * y0 + b) ≤ a * (s * x0 + e) + b * (s * y0 + g) ∧ a * (s * x0 + e) + b * (s * y0 + g) ≤ s * (a * x0 + b * y0 + a) := by
  have a1 := pn_mul_nonneg ha he0
  have a2 := pn_le_mul he ha
  have a3 := pn_mul_nonneg (show 0 ≤ -b by omega) hg0
  have a4 := pn_le_mul hg (show 0 ≤ -b by omega)
  have e1 : s * (a * x0 + b * y0 + b) = s * (a * x0 + b * y0) - -b * s := by grind
  have e2 : s * (a * x0 + b * y0 + a) = s * (a * x0 + b * y0) + a * s := by grind
  have e3 : a * (s * x0 + e) + b * (s * y0 + g) = s * (a * x0 + b * y0) + a * e - -b * g := by grind
  omega
/-- what holds of the four factors while steps are foreseen: x = s * x0 + e, y = s * y0 + g are the long numbers, x0, y0 their leading bits -/
def pn_lehS (a b c d : Int) : Prop := (0 ≤ a ∧ b ≤ 0 ∧ c ≤ 0 ∧ 0 ≤ d) ∨ (a ≤ 0 ∧ 0 ≤ b ∧ 0 ≤ c ∧ d ≤ 0)
def pn_lehI (x y x0 y0 xc yc a b c d : Int) : Prop :=
  xc = a * x0 + b * y0 ∧ yc = c * x0 + d * y0 ∧ pn_lehS a b c d ∧ 0 ≤ xc + a ∧ 0 ≤ xc + b ∧ 0 ≤ xc ∧ 0 ≤ yc ∧ 0 ≤ c * x + d * y ∧ Int.gcd (a * x + b * y) (c * x + d * y) = Int.gcd x y
/-- at least one of Euclid's steps has been made -/
def pn_lehM (x y a b c d : Int) : Prop := c * x + d * y < a * x + b * y ∧ a * x + b * y ≤ y ∧ 2 * ((a * x + b * y) * (c * x + d * y)) ≤ x * y
theorem pn_leh_q {xc yc a b c d q : Int} (hc : 0 < yc + c) (hd : 0 < yc + d) (ha : 0 ≤ xc + a) (hb : 0 ≤ xc + b) (h1 : q = (xc + a) / (yc + c)) (h2 : q = (xc + b) / (yc + d)) :
    0 ≤ q ∧ q * (yc + c) ≤ xc + a ∧ xc + a < (q + 1) * (yc + c) ∧ q * (yc + d) ≤ xc + b ∧ xc + b < (q + 1) * (yc + d) := by
  refine ⟨by rw [h1]; exact Int.ediv_nonneg ha (Int.le_of_lt hc), ?_, ?_, ?_, ?_⟩
  · rw [h1]; exact Int.ediv_mul_le _ (by omega)
  · rw [h1]; exact Int.lt_ediv_add_one_mul_self _ hc
  · rw [h2]; exact Int.ediv_mul_le _ (by omega)
  · rw [h2]; exact Int.lt_ediv_add_one_mul_self _ hd
/-- one step: the long numbers' own, in range, and the leading ones stay leading -/
theorem pn_leh_step {s x y e g x0 y0 xc yc a b c d q : Int} (hs : 0 < s) (hx : x = s * x0 + e) (hy : y = s * y0 + g) (he0 : 0 ≤ e) (he : e ≤ s) (hg0 : 0 ≤ g) (hg : g ≤ s)
    (I : pn_lehI x y x0 y0 xc yc a b c d) (hc : 0 < yc + c) (hd : 0 < yc + d) (h1 : q = (xc + a) / (yc + c)) (h2 : q = (xc + b) / (yc + d)) :
    pn_lehI x y x0 y0 yc (xc - q * yc) c d (a - q * c) (b - q * d) ∧ (a - q * c) * x + (b - q * d) * y < c * x + d * y ∧ xc - q * yc < yc ∧ 0 ≤ q := by
  obtain ⟨ex, ey, hS, ha, hb, hx0, hy0, hY, hG⟩ := I
  obtain ⟨hq0, q1, q2, q3, q4⟩ := pn_leh_q hc hd ha hb h1 h2
  have k1 : (a - q * c) * x + (b - q * d) * y = a * x + b * y - q * (c * x + d * y) := by grind
  have core : 0 ≤ a * x + b * y - q * (c * x + d * y) ∧ a * x + b * y - q * (c * x + d * y) < c * x + d * y := by
    rcases hS with ⟨s1, s2, s3, s4⟩ | ⟨s1, s2, s3, s4⟩
    · have b1 := pn_leh_bd (x0 := x0) (y0 := y0) s1 s2 he0 he hg0 hg
      have b2 := pn_leh_bd (x0 := y0) (y0 := x0) s4 s3 hg0 hg he0 he
      rw [← hx, ← hy, ← ex] at b1
      rw [← hx, ← hy, Int.add_comm (d * y0) (c * x0), ← ey, Int.add_comm (d * y) (c * x)] at b2
      exact pn_leh_core hs b1.1 b1.2 b2.1 b2.2 hq0 q3 q2
    · have b1 := pn_leh_bd (x0 := y0) (y0 := x0) s2 s1 hg0 hg he0 he
      have b2 := pn_leh_bd (x0 := x0) (y0 := y0) s3 s4 he0 he hg0 hg
      rw [← hx, ← hy, Int.add_comm (b * y0) (a * x0), ← ex, Int.add_comm (b * y) (a * x)] at b1
      rw [← hx, ← hy, ← ey] at b2
      exact pn_leh_core hs b1.1 b1.2 b2.1 b2.2 hq0 q1 q4
  have m1 := pn_mul_nonneg hq0 (show 0 ≤ (if 0 ≤ c then c else -c) by split <;> omega)
  have m2 := pn_mul_nonneg hq0 (show 0 ≤ (if 0 ≤ d then d else -d) by split <;> omega)
  have p1 : q * (yc + c) = q * yc + q * c := Int.mul_add _ _ _
  have p2 : (q + 1) * (yc + c) = q * yc + q * c + yc + c := by grind
  have p3 : q * (yc + d) = q * yc + q * d := Int.mul_add _ _ _
  have p4 : (q + 1) * (yc + d) = q * yc + q * d + yc + d := by grind
  have sg : (c ≤ 0 → q * c ≤ 0) ∧ (0 ≤ c → 0 ≤ q * c) ∧ (d ≤ 0 → q * d ≤ 0) ∧ (0 ≤ d → 0 ≤ q * d) := by
    refine ⟨fun h => ?_, fun h => pn_mul_nonneg hq0 h, fun h => ?_, fun h => pn_mul_nonneg hq0 h⟩
    · have := pn_mul_nonneg hq0 (show 0 ≤ -c by omega)
      rw [Int.mul_neg] at this
      omega
    · have := pn_mul_nonneg hq0 (show 0 ≤ -d by omega)
      rw [Int.mul_neg] at this
      omega
  refine ⟨⟨ey, by rw [ex, ey]; grind, ?_, by omega, by omega, hy0, ?_, by rw [k1]; exact core.1, by rw [k1, pn_gcd_step]; exact hG⟩, by rw [k1]; exact core.2, ?_, hq0⟩
  · rcases hS with ⟨s1, s2, s3, s4⟩ | ⟨s1, s2, s3, s4⟩
    · have := sg.1 s3
      have := sg.2.2.2 s4
      exact Or.inr ⟨s3, s4, by omega, by omega⟩
    · have := sg.2.1 s3
      have := sg.2.2.1 s4
      exact Or.inl ⟨s3, s4, by omega, by omega⟩
  · rcases hS with ⟨s1, s2, s3, s4⟩ | ⟨s1, s2, s3, s4⟩
    · have := sg.1 s3
      have := sg.2.2.2 s4
      omega
    · have := sg.2.1 s3
      have := sg.2.2.1 s4
      omega
  · rcases hS with ⟨s1, s2, s3, s4⟩ | ⟨s1, s2, s3, s4⟩
    · have := sg.1 s3
      have := sg.2.2.2 s4
      omega
    · have := sg.2.1 s3
      have := sg.2.2.1 s4
      omega
/-- the product of both falls by half with Euclid's step -/
theorem pn_half {X Y r q : Int} (hY : 0 ≤ Y) (hXY : Y ≤ X) (hr : r = X - q * Y) (h0 : 0 ≤ r) (h1 : r < Y) : 2 * (Y * r) ≤ X * Y := by
  have hq : 1 ≤ q := by
    rcases (show q < 1 ∨ 1 ≤ q by omega) with z | z
    · have := pn_mul_le (show q ≤ 0 by omega) hY
      omega
    · exact z
  have h2 := pn_mul_le hq hY
  have h3 : 2 * r ≤ X := by omega
  have h4 := pn_mul_le h3 hY
  have e : 2 * r * Y = 2 * (Y * r) := by grind
  omega
end
section
/-! the kit's one-instruction rows for numbers that are known as whole numbers: ints nI n (n a natural), longs pn_L z (z whole) -/
section PnRows
variable {p : Program} {l : Launch} {e : Env} {R : Room} {s : State} {m : MethodId} {args : Array Value} {below : List Frame} {meth : Method} {c : Code} {H : Heap} {locs : List Loc} {cells slots : Nat} {Q : State → Prop}
variable {cc : ByteArray} {pc : Nat} {ls : Array Slot} {rest : List Value}
theorem pw_ladd (hexec : p.tables.exec = Jvm.exec) (hb : c.code = cc) {a b : Int} (hdg : decode cc pc = .ok (.ladd, 1)) 
    (k : W p l e R s m args below meth c H locs cells slots Q (F0 m (pc + 1) ls (.long (pn_L (a + b)) :: rest))) : W p l e R s m args below meth c H locs cells slots Q (F0 m pc ls (.long (pn_L b) :: .long (pn_L a) :: rest)) := lv_ladd hexec hb hdg (by rw [pn_L_add]; exact k)
theorem pw_lsub (hexec : p.tables.exec = Jvm.exec) (hb : c.code = cc) {a b : Int} (hdg : decode cc pc = .ok (.lsub, 1)) 
    (k : W p l e R s m args below meth c H locs cells slots Q (F0 m (pc + 1) ls (.long (pn_L (a - b)) :: rest))) : W p l e R s m args below meth c H locs cells slots Q (F0 m pc ls (.long (pn_L b) :: .long (pn_L a) :: rest)) := lv_lsub hexec hb hdg (by rw [pn_L_sub]; exact k)
theorem pw_lmul (hexec : p.tables.exec = Jvm.exec) (hb : c.code = cc) {a b : Int} (hdg : decode cc pc = .ok (.lmul, 1)) 
    (k : W p l e R s m args below meth c H locs cells slots Q (F0 m (pc + 1) ls (.long (pn_L (a * b)) :: rest))) : W p l e R s m args below meth c H locs cells slots Q (F0 m pc ls (.long (pn_L b) :: .long (pn_L a) :: rest)) := lv_lmul hexec hb hdg (by rw [pn_L_mul]; exact k)
theorem pw_lneg (hexec : p.tables.exec = Jvm.exec) (hb : c.code = cc) {a : Int} (hdg : decode cc pc = .ok (.lneg, 1)) 
    (k : W p l e R s m args below meth c H locs cells slots Q (F0 m (pc + 1) ls (.long (pn_L (-a)) :: rest))) : W p l e R s m args below meth c H locs cells slots Q (F0 m pc ls (.long (pn_L a) :: rest)) := lv_lneg hexec hb hdg (by rw [pn_L_neg]; exact k)
theorem pw_lmask (hexec : p.tables.exec = Jvm.exec) (hb : c.code = cc) {a : Int} (hdg : decode cc pc = .ok (.land, 1)) 
    (k : W p l e R s m args below meth c H locs cells slots Q (F0 m (pc + 1) ls (.long (pn_L (a % 4294967296)) :: rest))) : W p l e R s m args below meth c H locs cells slots Q (F0 m pc ls (.long 4294967295 :: .long (pn_L a) :: rest)) := lv_land hexec hb hdg (by rw [pn_L_mask]; exact k)
theorem pw_limb (hexec : p.tables.exec = Jvm.exec) (hb : c.code = cc) {x : Int32} (hdg : decode cc pc = .ok (.land, 1)) 
    (k : W p l e R s m args below meth c H locs cells slots Q (F0 m (pc + 1) ls (.long (pn_L (pn_u x)) :: rest))) : W p l e R s m args below meth c H locs cells slots Q (F0 m pc ls (.long 4294967295 :: .long x.toInt64 :: rest)) := lv_land hexec hb hdg (by rw [pn_limb]; exact k)
theorem pw_i2l (hexec : p.tables.exec = Jvm.exec) (hb : c.code = cc) {x : Int32} (hdg : decode cc pc = .ok (.i2l, 1)) 
    (k : W p l e R s m args below meth c H locs cells slots Q (F0 m (pc + 1) ls (.long x.toInt64 :: rest))) : W p l e R s m args below meth c H locs cells slots Q (F0 m pc ls (.int x :: rest)) := lv_i2l hexec hb hdg rfl k
theorem pw_l2i (hexec : p.tables.exec = Jvm.exec) (hb : c.code = cc) {a : Int} (hdg : decode cc pc = .ok (.l2i, 1)) 
    (k : W p l e R s m args below meth c H locs cells slots Q (F0 m (pc + 1) ls (.int (pn_I a) :: rest))) : W p l e R s m args below meth c H locs cells slots Q (F0 m pc ls (.long (pn_L a) :: rest)) := lv_l2i hexec hb hdg (pn_L_i a) k
theorem pw_lushr32 (hexec : p.tables.exec = Jvm.exec) (hb : c.code = cc) {a : Int} (hdg : decode cc pc = .ok (.lushr, 1)) (h0 : 0 ≤ a) (h1 : a < 18446744073709551616)
    (k : W p l e R s m args below meth c H locs cells slots Q (F0 m (pc + 1) ls (.long (pn_L (a / 4294967296)) :: rest))) : W p l e R s m args below meth c H locs cells slots Q (F0 m pc ls (.int 32 :: .long (pn_L a) :: rest)) := lv_lushr hexec hb hdg (pn_L_ushr32 h0 h1) k
theorem pw_lshr32 (hexec : p.tables.exec = Jvm.exec) (hb : c.code = cc) {a : Int} (hdg : decode cc pc = .ok (.lshr, 1)) (h0 : -9223372036854775808 ≤ a) (h1 : a < 9223372036854775808)
    (k : W p l e R s m args below meth c H locs cells slots Q (F0 m (pc + 1) ls (.long (pn_L (a / 4294967296)) :: rest))) : W p l e R s m args below meth c H locs cells slots Q (F0 m pc ls (.int 32 :: .long (pn_L a) :: rest)) := lv_lshr hexec hb hdg (pn_L_shr32 h0 h1) k
theorem pw_lushr (hexec : p.tables.exec = Jvm.exec) (hb : c.code = cc) {a : Int} (hdg : decode cc pc = .ok (.lushr, 1)) (h0 : 0 ≤ a) (h1 : a < 18446744073709551616) (j : Nat) (hj : j < 64)
    (k : W p l e R s m args below meth c H locs cells slots Q (F0 m (pc + 1) ls (.long (pn_L (a / 2 ^ j)) :: rest))) : W p l e R s m args below meth c H locs cells slots Q (F0 m pc ls (.int (nI j) :: .long (pn_L a) :: rest)) := lv_lushr hexec hb hdg (pn_L_ushr h0 h1 _ j hj rfl) k
theorem pw_lshl32 (hexec : p.tables.exec = Jvm.exec) (hb : c.code = cc) {a : Int} (hdg : decode cc pc = .ok (.lshl, 1)) 
    (k : W p l e R s m args below meth c H locs cells slots Q (F0 m (pc + 1) ls (.long (pn_L (a * 4294967296)) :: rest))) : W p l e R s m args below meth c H locs cells slots Q (F0 m pc ls (.int 32 :: .long (pn_L a) :: rest)) := lv_lshl hexec hb hdg (pn_L_shl a 32 32 (by decide) (by decide)) k
theorem pw_lshl (hexec : p.tables.exec = Jvm.exec) (hb : c.code = cc) {a : Int} (hdg : decode cc pc = .ok (.lshl, 1)) (j : Nat) (hj : j < 64)
    (k : W p l e R s m args below meth c H locs cells slots Q (F0 m (pc + 1) ls (.long (pn_L (a * 2 ^ j)) :: rest))) : W p l e R s m args below meth c H locs cells slots Q (F0 m pc ls (.int (nI j) :: .long (pn_L a) :: rest)) := lv_lshl hexec hb hdg (pn_L_shl a _ j hj rfl) k
theorem pw_lor (hexec : p.tables.exec = Jvm.exec) (hb : c.code = cc) {a b : Int} (hdg : decode cc pc = .ok (.lor, 1)) (ha0 : 0 ≤ a) (ha : a < 4294967296) (hb0 : 0 ≤ b) (hb1 : b < 4294967296)
    (k : W p l e R s m args below meth c H locs cells slots Q (F0 m (pc + 1) ls (.long (pn_L (a * 4294967296 + b)) :: rest))) : W p l e R s m args below meth c H locs cells slots Q (F0 m pc ls (.long (pn_L b) :: .long (pn_L (a * 4294967296)) :: rest)) := lv_lor hexec hb hdg (by rw [pn_L_or ha0 ha hb0 hb1]; exact k)
theorem pw_ldiv (hexec : p.tables.exec = Jvm.exec) (hb : c.code = cc) {a b : Int} (hdg : decode cc pc = .ok (.ldiv, 1)) (ha0 : 0 ≤ a) (ha : a < 9223372036854775808) (hb0 : 0 < b) (hb1 : b < 9223372036854775808)
    (k : W p l e R s m args below meth c H locs cells slots Q (F0 m (pc + 1) ls (.long (pn_L (a / b)) :: rest))) : W p l e R s m args below meth c H locs cells slots Q (F0 m pc ls (.long (pn_L b) :: .long (pn_L a) :: rest)) := lv_ldiv hexec hb hdg (fun z => by have := (pn_L_eq (a := b) (b := 0) (by omega) hb1 (by omega) (by omega)).mp z; omega) (by rw [pn_L_div ha0 ha hb0 hb1]; exact k)
theorem pw_iadd (hexec : p.tables.exec = Jvm.exec) (hb : c.code = cc) {a b : Nat} (hdg : decode cc pc = .ok (.iadd, 1)) 
    (k : W p l e R s m args below meth c H locs cells slots Q (F0 m (pc + 1) ls (.int (nI (a + b)) :: rest))) : W p l e R s m args below meth c H locs cells slots Q (F0 m pc ls (.int (nI b) :: .int (nI a) :: rest)) := lv_iadd hexec hb hdg (by rw [nI_add]; exact k)
theorem pw_iadd1 (hexec : p.tables.exec = Jvm.exec) (hb : c.code = cc) {a : Nat} (hdg : decode cc pc = .ok (.iadd, 1)) 
    (k : W p l e R s m args below meth c H locs cells slots Q (F0 m (pc + 1) ls (.int (nI (a + 1)) :: rest))) : W p l e R s m args below meth c H locs cells slots Q (F0 m pc ls (.int 1 :: .int (nI a) :: rest)) := lv_iadd hexec hb hdg (by rw [nI_1]; exact k)
theorem pw_isub (hexec : p.tables.exec = Jvm.exec) (hb : c.code = cc) {a b : Nat} (hdg : decode cc pc = .ok (.isub, 1)) (h : b ≤ a)
    (k : W p l e R s m args below meth c H locs cells slots Q (F0 m (pc + 1) ls (.int (nI (a - b)) :: rest))) : W p l e R s m args below meth c H locs cells slots Q (F0 m pc ls (.int (nI b) :: .int (nI a) :: rest)) := lv_isub hexec hb hdg (by rw [pk_sub h]; exact k)
theorem pw_isub1 (hexec : p.tables.exec = Jvm.exec) (hb : c.code = cc) {a : Nat} (hdg : decode cc pc = .ok (.isub, 1)) 
    (k : W p l e R s m args below meth c H locs cells slots Q (F0 m (pc + 1) ls (.int (nI a) :: rest))) : W p l e R s m args below meth c H locs cells slots Q (F0 m pc ls (.int 1 :: .int (nI (a + 1)) :: rest)) := lv_isub hexec hb hdg (by rw [nI_pred]; exact k)
theorem pw_icmp_eq (hexec : p.tables.exec = Jvm.exec) (hb : c.code = cc) {a b : Nat} {off : Int} {tgt : Nat} (hdg : decode cc pc = .ok (.if_icmp .eq off, 3)) (ht : (pc : Int) + off = (tgt : Int)) (ha : a < 2 ^ 31) (hb1 : b < 2 ^ 31)
    (kt : a = b → W p l e R s m args below meth c H locs cells slots Q (F0 m tgt ls rest)) (kf : ¬ a = b → W p l e R s m args below meth c H locs cells slots Q (F0 m (pc + 3) ls rest)) : W p l e R s m args below meth c H locs cells slots Q (F0 m pc ls (.int (nI b) :: .int (nI a) :: rest)) := lv_icmp_eq hexec hb hdg ht (fun z => kt ((nI_eq ha hb1).mp z)) (fun z => kf (fun y => z ((nI_eq ha hb1).mpr y)))
theorem pw_icmp_ne (hexec : p.tables.exec = Jvm.exec) (hb : c.code = cc) {a b : Nat} {off : Int} {tgt : Nat} (hdg : decode cc pc = .ok (.if_icmp .ne off, 3)) (ht : (pc : Int) + off = (tgt : Int)) (ha : a < 2 ^ 31) (hb1 : b < 2 ^ 31)
    (kt : ¬ a = b → W p l e R s m args below meth c H locs cells slots Q (F0 m tgt ls rest)) (kf : a = b → W p l e R s m args below meth c H locs cells slots Q (F0 m (pc + 3) ls rest)) : W p l e R s m args below meth c H locs cells slots Q (F0 m pc ls (.int (nI b) :: .int (nI a) :: rest)) := lv_icmp_ne hexec hb hdg ht (fun z => kt (fun y => z ((nI_eq ha hb1).mpr y))) (fun z => kf ((nI_eq ha hb1).mp z))
theorem pw_icmp_lt (hexec : p.tables.exec = Jvm.exec) (hb : c.code = cc) {a b : Nat} {off : Int} {tgt : Nat} (hdg : decode cc pc = .ok (.if_icmp .lt off, 3)) (ht : (pc : Int) + off = (tgt : Int)) (ha : a < 2 ^ 31) (hb1 : b < 2 ^ 31)
    (kt : a < b → W p l e R s m args below meth c H locs cells slots Q (F0 m tgt ls rest)) (kf : b ≤ a → W p l e R s m args below meth c H locs cells slots Q (F0 m (pc + 3) ls rest)) : W p l e R s m args below meth c H locs cells slots Q (F0 m pc ls (.int (nI b) :: .int (nI a) :: rest)) := lv_icmp_lt hexec hb hdg ht (fun z => kt ((nI_ltI ha hb1).mp z)) (fun z => kf (Nat.not_lt.mp (fun y => z ((nI_ltI ha hb1).mpr y))))
theorem pw_icmp_ge (hexec : p.tables.exec = Jvm.exec) (hb : c.code = cc) {a b : Nat} {off : Int} {tgt : Nat} (hdg : decode cc pc = .ok (.if_icmp .ge off, 3)) (ht : (pc : Int) + off = (tgt : Int)) (ha : a < 2 ^ 31) (hb1 : b < 2 ^ 31)
    (kt : b ≤ a → W p l e R s m args below meth c H locs cells slots Q (F0 m tgt ls rest)) (kf : a < b → W p l e R s m args below meth c H locs cells slots Q (F0 m (pc + 3) ls rest)) : W p l e R s m args below meth c H locs cells slots Q (F0 m pc ls (.int (nI b) :: .int (nI a) :: rest)) := lv_icmp_ge hexec hb hdg ht (fun z => kt ((nI_leI hb1 ha).mp z)) (fun z => kf (Nat.not_le.mp (fun y => z ((nI_leI hb1 ha).mpr y))))
theorem pw_icmp_gt (hexec : p.tables.exec = Jvm.exec) (hb : c.code = cc) {a b : Nat} {off : Int} {tgt : Nat} (hdg : decode cc pc = .ok (.if_icmp .gt off, 3)) (ht : (pc : Int) + off = (tgt : Int)) (ha : a < 2 ^ 31) (hb1 : b < 2 ^ 31)
    (kt : b < a → W p l e R s m args below meth c H locs cells slots Q (F0 m tgt ls rest)) (kf : a ≤ b → W p l e R s m args below meth c H locs cells slots Q (F0 m (pc + 3) ls rest)) : W p l e R s m args below meth c H locs cells slots Q (F0 m pc ls (.int (nI b) :: .int (nI a) :: rest)) := lv_icmp_gt hexec hb hdg ht (fun z => kt ((nI_ltI hb1 ha).mp z)) (fun z => kf (Nat.not_lt.mp (fun y => z ((nI_ltI hb1 ha).mpr y))))
theorem pw_icmp_le (hexec : p.tables.exec = Jvm.exec) (hb : c.code = cc) {a b : Nat} {off : Int} {tgt : Nat} (hdg : decode cc pc = .ok (.if_icmp .le off, 3)) (ht : (pc : Int) + off = (tgt : Int)) (ha : a < 2 ^ 31) (hb1 : b < 2 ^ 31)
    (kt : a ≤ b → W p l e R s m args below meth c H locs cells slots Q (F0 m tgt ls rest)) (kf : b < a → W p l e R s m args below meth c H locs cells slots Q (F0 m (pc + 3) ls rest)) : W p l e R s m args below meth c H locs cells slots Q (F0 m pc ls (.int (nI b) :: .int (nI a) :: rest)) := lv_icmp_le hexec hb hdg ht (fun z => kt ((nI_leI ha hb1).mp z)) (fun z => kf (Nat.not_le.mp (fun y => z ((nI_leI ha hb1).mpr y))))
theorem pw_if_eq (hexec : p.tables.exec = Jvm.exec) (hb : c.code = cc) {a : Nat} {off : Int} {tgt : Nat} (hdg : decode cc pc = .ok (.ifCond .eq off, 3)) (ht : (pc : Int) + off = (tgt : Int)) (ha : a < 2 ^ 31)
    (kt : a = 0 → W p l e R s m args below meth c H locs cells slots Q (F0 m tgt ls rest)) (kf : ¬ a = 0 → W p l e R s m args below meth c H locs cells slots Q (F0 m (pc + 3) ls rest)) : W p l e R s m args below meth c H locs cells slots Q (F0 m pc ls (.int (nI a) :: rest)) := lv_if_eq hexec hb hdg ht (fun z => kt ((nI_eq ha (by decide : (0:Nat) < 2 ^ 31)).mp (z.trans nI_0.symm))) (fun z => kf (fun y => z (by rw [y]; exact nI_0)))
theorem pw_if_ne (hexec : p.tables.exec = Jvm.exec) (hb : c.code = cc) {a : Nat} {off : Int} {tgt : Nat} (hdg : decode cc pc = .ok (.ifCond .ne off, 3)) (ht : (pc : Int) + off = (tgt : Int)) (ha : a < 2 ^ 31)
    (kt : ¬ a = 0 → W p l e R s m args below meth c H locs cells slots Q (F0 m tgt ls rest)) (kf : a = 0 → W p l e R s m args below meth c H locs cells slots Q (F0 m (pc + 3) ls rest)) : W p l e R s m args below meth c H locs cells slots Q (F0 m pc ls (.int (nI a) :: rest)) := lv_if_ne hexec hb hdg ht (fun z => kt (fun y => z (by rw [y]; exact nI_0))) (fun z => kf ((nI_eq ha (by decide : (0:Nat) < 2 ^ 31)).mp (z.trans nI_0.symm)))
theorem pw_if_lt (hexec : p.tables.exec = Jvm.exec) (hb : c.code = cc) {a : Nat} {off : Int} {tgt : Nat} (hdg : decode cc pc = .ok (.ifCond .lt off, 3)) (ht : (pc : Int) + off = (tgt : Int)) (ha : a < 2 ^ 31)
    (kt : False → W p l e R s m args below meth c H locs cells slots Q (F0 m tgt ls rest)) (kf : 0 ≤ a → W p l e R s m args below meth c H locs cells slots Q (F0 m (pc + 3) ls rest)) : W p l e R s m args below meth c H locs cells slots Q (F0 m pc ls (.int (nI a) :: rest)) := lv_if_lt hexec hb hdg ht (fun z => kt (nI_pos ha z)) (fun _ => kf (Nat.zero_le a))
theorem pw_if_ge (hexec : p.tables.exec = Jvm.exec) (hb : c.code = cc) {a : Nat} {off : Int} {tgt : Nat} (hdg : decode cc pc = .ok (.ifCond .ge off, 3)) (ht : (pc : Int) + off = (tgt : Int)) (ha : a < 2 ^ 31)
    (kt : 0 ≤ a → W p l e R s m args below meth c H locs cells slots Q (F0 m tgt ls rest)) (kf : False → W p l e R s m args below meth c H locs cells slots Q (F0 m (pc + 3) ls rest)) : W p l e R s m args below meth c H locs cells slots Q (F0 m pc ls (.int (nI a) :: rest)) := lv_if_ge hexec hb hdg ht (fun _ => kt (Nat.zero_le a)) (fun z => kf (z (nI_pos' ha)))
theorem pw_if_gt (hexec : p.tables.exec = Jvm.exec) (hb : c.code = cc) {a : Nat} {off : Int} {tgt : Nat} (hdg : decode cc pc = .ok (.ifCond .gt off, 3)) (ht : (pc : Int) + off = (tgt : Int)) (ha : a < 2 ^ 31)
    (kt : 0 < a → W p l e R s m args below meth c H locs cells slots Q (F0 m tgt ls rest)) (kf : a = 0 → W p l e R s m args below meth c H locs cells slots Q (F0 m (pc + 3) ls rest)) : W p l e R s m args below meth c H locs cells slots Q (F0 m pc ls (.int (nI a) :: rest)) := lv_if_gt hexec hb hdg ht (fun z => kt (Nat.pos_of_ne_zero (fun y => absurd z (by rw [y]; decide)))) (fun z => kf (Nat.eq_zero_of_not_pos (fun y => z (by rw [← nI_0]; exact nI_lt y ha))))
theorem pw_if_le (hexec : p.tables.exec = Jvm.exec) (hb : c.code = cc) {a : Nat} {off : Int} {tgt : Nat} (hdg : decode cc pc = .ok (.ifCond .le off, 3)) (ht : (pc : Int) + off = (tgt : Int)) (ha : a < 2 ^ 31)
    (kt : a = 0 → W p l e R s m args below meth c H locs cells slots Q (F0 m tgt ls rest)) (kf : 0 < a → W p l e R s m args below meth c H locs cells slots Q (F0 m (pc + 3) ls rest)) : W p l e R s m args below meth c H locs cells slots Q (F0 m pc ls (.int (nI a) :: rest)) := lv_if_le hexec hb hdg ht (fun z => kt (Nat.eq_zero_of_not_pos (fun y => nI_nle y ha z))) (fun z => kf (Nat.pos_of_ne_zero (fun y => z (by rw [y]; decide))))
end PnRows
end
section
/-! one turn of the loops over limbs -/
theorem pn_put {o : Nat → Int32} {i : Nat} {c t S : Int} (h : pn_V o i + c * pn_E i = S) : pn_V (upd o i (pn_I t)) (i + 1) + t / 4294967296 * pn_E (i + 1) = S + (t - c) * pn_E i := by
  rw [pn_V_upS, pn_u_I, pn_E_s]
  exact pn_step _ _ _ _ _ h
/-- a row read as if 0s stood behind its last limb -/
def pn_cut (f : Nat → Int32) (n : Nat) : Nat → Int32 := fun k => if k < n then f k else 0
theorem pn_cut_lt {f : Nat → Int32} {n k : Nat} (h : k < n) : pn_cut f n k = f k := if_pos h
theorem pn_cut_ge {f : Nat → Int32} {n k : Nat} (h : n ≤ k) : pn_cut f n k = 0 := if_neg (by omega)
theorem pn_V_cut {f : Nat → Int32} {n m : Nat} (h : n ≤ m) : pn_V (pn_cut f n) m = pn_V f n := by
  rw [pn_V_more h (fun i h1 _ => pn_cut_ge h1)]
  exact pn_V_congr (fun i hi => pn_cut_lt hi)
theorem pn_V_cutL {f : Nat → Int32} {n m : Nat} (h : m ≤ n) : pn_V (pn_cut f n) m = pn_V f m := pn_V_congr (fun i hi => pn_cut_lt (by omega))
/-! length in bits -/
def pn_len (v : Int) : Nat := if v = 0 then 0 else v.toNat.log2 + 1
theorem pn_len_0 : pn_len 0 = 0 := rfl
theorem pn_two (L : Nat) : ((2 : Int) ^ L) = ((2 ^ L : Nat) : Int) := by rw [Int.natCast_pow]; rfl
theorem pn_len_le {v : Int} (h : 0 ≤ v) (L : Nat) : pn_len v ≤ L ↔ v < 2 ^ L := by
  obtain ⟨n, rfl⟩ := Int.eq_ofNat_of_zero_le h
  have e : ((n : Int) < 2 ^ L) ↔ n < 2 ^ L := by
    rw [pn_two]
    omega
  rw [e]
  unfold pn_len
  split
  · have h0 : n = 0 := by omega
    subst h0
    exact ⟨fun _ => Nat.two_pow_pos L, fun _ => Nat.zero_le L⟩
  · rw [Int.toNat_natCast, Nat.add_one_le_iff, Nat.log2_lt (by omega)]
theorem pn_len_lt {v : Int} (h : 0 ≤ v) (L : Nat) : L < pn_len v ↔ 2 ^ L ≤ v := by
  have := pn_len_le h L
  omega
theorem pn_len_mono {v w : Int} (h : 0 ≤ v) (hw : v ≤ w) : pn_len v ≤ pn_len w := by
  rw [pn_len_le h]
  have := (pn_len_le (show 0 ≤ w by omega) (pn_len w)).mp (Nat.le_refl _)
  omega
theorem pn_len_is {v : Int} {L : Nat} (h : 0 ≤ v) (h1 : 2 ^ L ≤ v) (h2 : v < 2 ^ (L + 1)) : pn_len v = L + 1 := by
  have a := (pn_len_le h (L + 1)).mpr h2
  have b := (pn_len_lt h L).mpr h1
  omega
theorem pn_len_eq0 {v : Int} (h : 0 ≤ v) : pn_len v = 0 ↔ v = 0 := by
  have := pn_len_le h 0
  have e : (2 : Int) ^ 0 = 1 := rfl
  rw [e] at this
  omega
theorem pn_E_two (k : Nat) : pn_E k = 2 ^ (32 * k) := by
  rw [Int.pow_mul]
  rfl
/-- the length out of the highest limb -/
theorem pn_len_V {f : Nat → Int32} {k : Nat} (h : pn_nz f (k + 1)) : pn_len (pn_V f (k + 1)) = 32 * k + pn_len (pn_u (f k)) := by
  have hu := pn_u_nonneg (f k)
  have hp := pn_u_pos (h k rfl)
  obtain ⟨j, hj⟩ : ∃ j, pn_len (pn_u (f k)) = j + 1 := by
    have := (pn_len_eq0 hu)
    exact ⟨pn_len (pn_u (f k)) - 1, by omega⟩
  have a1 := (pn_len_le hu (j + 1)).mp (by omega)
  have a2 := (pn_len_lt hu j).mp (by omega)
  have hE := Int.le_of_lt (pn_E_pos k)
  have b1 := pn_mul_le (show pn_u (f k) + 1 ≤ 2 ^ (j + 1) by omega) hE
  have b2 := pn_mul_le a2 hE
  rw [Int.add_mul] at b1
  have c1 := pn_V_lt f k
  have c2 := pn_V_nonneg f k
  rw [hj]
  refine pn_len_is (L := 32 * k + j) (pn_V_nonneg _ _) ?_ ?_
  · rw [Int.pow_add, ← pn_E_two, pn_V_s, Int.mul_comm]
    omega
  · rw [show 32 * k + j + 1 = 32 * k + (j + 1) by omega, Int.pow_add, ← pn_E_two, pn_V_s, Int.mul_comm (pn_E k)]
    omega
theorem pn_len_u (x : Int32) : pn_len (pn_u x) ≤ 32 := (pn_len_le (pn_u_nonneg x) 32).mpr (pn_u_lt x)
/-! dividing a number by one limb, from its highest limb down: g is f with its limbs from i on replaced by the quotient's -/
theorem pn_shrink {f g : Nat → Int32} {n i : Nat} {d left q left2 : Int} (hin : i < n) (hlow : ∀ j, j ≤ i → g j = f j) (h : (pn_V g n - pn_V f (i + 1)) * d + left * pn_E (i + 1) = pn_V f n - pn_V f (i + 1))
    (hq0 : 0 ≤ q) (hq : q < 4294967296) (hd : q * d + left2 = left * 4294967296 + pn_u (f i)) : (pn_V (upd g i (pn_I q)) n - pn_V f i) * d + left2 * pn_E i = pn_V f n - pn_V f i := by
  rw [pn_V_in hin, pn_u_Ilt hq0 hq, hlow i (Nat.le_refl i)]
  rw [pn_V_s, pn_E_s] at h
  have e : left2 = left * 4294967296 + pn_u (f i) - q * d := by omega
  subst e
  grind
/-! multiples -/
theorem pn_multiple {o b : Nat → Int32} {o0 : Nat → Int32} {at_ i : Nat} {c f t : Int} (h : pn_V o (at_ + i) + c * pn_E (at_ + i) = pn_V o0 (at_ + i) + f * pn_V b i * pn_E at_)
    (ht : t = c + (f * pn_u (b i) + pn_u (o0 (at_ + i)))) : pn_V (upd o (at_ + i) (pn_I t)) (at_ + i + 1) + t / 4294967296 * pn_E (at_ + i + 1) = pn_V o0 (at_ + i + 1) + f * pn_V b (i + 1) * pn_E at_ := by
  rw [pn_put h, pn_V_s, pn_V_s, pn_E_add, ht]
  grind
end
section
/-! a stretch of a row, from one place on -/
def pn_sh (f : Nat → Int32) (a : Nat) : Nat → Int32 := fun i => f (a + i)
theorem pn_sh_upd (f : Nat → Int32) (a i : Nat) (x : Int32) : pn_sh (upd f (a + i) x) a = upd (pn_sh f a) i x := by
  funext j
  unfold pn_sh upd
  by_cases h : j = i
  · rw [if_pos h, if_pos (by omega)]
  · rw [if_neg h, if_neg (by omega)]
theorem pn_V_sh (f : Nat → Int32) (a n : Nat) : pn_V f (a + n) = pn_V f a + pn_E a * pn_V (pn_sh f a) n := pn_V_add f a n
theorem pn_sh_1 (f : Nat → Int32) (a n : Nat) : pn_V (pn_sh f a) (n + 1) = pn_u (f a) + 4294967296 * pn_V (pn_sh f (a + 1)) n := by
  have h := pn_V_add (pn_sh f a) 1 n
  rw [Nat.add_comm n 1, h, pn_E_1]
  have e1 : pn_V (pn_sh f a) 1 = pn_u (f a) := by
    rw [pn_V_s, pn_V_0, pn_E_0, Int.mul_one, Int.zero_add]
    rfl
  have e2 : pn_V (fun i => pn_sh f a (1 + i)) n = pn_V (pn_sh f (a + 1)) n := pn_V_congr (fun i _ => by unfold pn_sh; rw [Nat.add_assoc])
  rw [e1, e2]
theorem pn_div_ok {w0 w1 top c f Vd E U : Int} (hU : U = w0 + top * E) (h1 : w1 - c * E = w0 - f * Vd) (hw0 : 0 ≤ w1) (hVd : Vd ≤ E) (hlt : U < (f + 1) * Vd) (hc : c ≤ top) (hE : 0 < E) : U = f * Vd + w1 ∧ w1 < Vd := by
  have e1 : (f + 1) * Vd = f * Vd + Vd := by grind
  have e2 : (top - c) * E = top * E - c * E := Int.sub_mul _ _ _
  have ht : top = c := by
    rcases (show c < top ∨ top ≤ c by omega) with z | z
    · have h3 := pn_mul_le (show 1 ≤ top - c by omega) (Int.le_of_lt hE)
      omega
    · omega
  subst ht
  omega
theorem pn_div_back {w0 w1 w2 top c c2 f Vd E U : Int} (hU : U = w0 + top * E) (h1 : w1 - c * E = w0 - f * Vd) (hw1 : w1 < E) (h2 : w2 + c2 * E = w1 + Vd) (hw20 : 0 ≤ w2) (hw2 : w2 < E) (hVd : Vd ≤ E) (hge : f * Vd ≤ U + Vd) (hc : top < c) (hE : 0 < E) : U = (f - 1) * Vd + w2 ∧ w2 < Vd := by
  have e1 : (f - 1) * Vd = f * Vd - Vd := by grind
  have e2 : (c - top) * E = c * E - top * E := Int.sub_mul _ _ _
  have h3 := pn_mul_le (show 1 ≤ c - top by omega) (Int.le_of_lt hE)
  have e3 : U - f * Vd + Vd + 0 * E = w2 + (c2 - (c - top)) * E := by
    have e4 : (c2 - (c - top)) * E = c2 * E - (c - top) * E := Int.sub_mul _ _ _
    omega
  have h4 := pn_apart (a := U - f * Vd + Vd) (b := w2) (E := E) (by omega) (by omega) hw20 hw2 e3
  omega
/-- one limb more of the quotient -/
theorem pn_div_next {D D2 q : Nat → Int32} {k n j : Nat} {T f Vd : Int} (hT : T = Vd * (pn_E (k + 1) * pn_V (pn_sh q (k + 1)) j) + pn_V D (k + 1 + n)) (hlow : ∀ i, i < k → D2 i = D i)
    (hU : pn_V (pn_sh D k) (n + 1) = f * Vd + pn_V (pn_sh D2 k) n) (hf0 : 0 ≤ f) (hf : f < 4294967296) :
    T = Vd * (pn_E k * pn_V (pn_sh (upd q k (pn_I f)) k) (j + 1)) + pn_V D2 (k + n) := by
  have e1 : pn_V D (k + 1 + n) = pn_V D k + pn_E k * pn_V (pn_sh D k) (n + 1) := by
    rw [show k + 1 + n = k + (n + 1) by omega]
    exact pn_V_sh D k (n + 1)
  have e2 : pn_V D2 (k + n) = pn_V D k + pn_E k * pn_V (pn_sh D2 k) n := by
    rw [pn_V_sh, pn_V_congr hlow]
  have e3 : pn_V (pn_sh (upd q k (pn_I f)) k) (j + 1) = f + 4294967296 * pn_V (pn_sh q (k + 1)) j := by
    rw [pn_sh_1, pk_us, pn_u_Ilt hf0 hf]
    have : pn_V (pn_sh (upd q k (pn_I f)) (k + 1)) j = pn_V (pn_sh q (k + 1)) j := pn_V_congr (fun i _ => by unfold pn_sh; exact pk_un (by omega))
    rw [this]
  rw [hT, e1, e2, e3, hU, pn_E_s]
  grind
/-- the stretch that is divided next is less than the divisor times 2^32 -/
theorem pn_div_room {D : Nat → Int32} {k n : Nat} {Vd : Int} (h : pn_V (pn_sh D (k + 1)) n < Vd) : pn_V (pn_sh D k) (n + 1) < 4294967296 * Vd := by
  rw [pn_sh_1]
  have := pn_u_lt (D k)
  omega
/-! adding 1 -/
theorem pn_V_ones {f : Nat → Int32} {i : Nat} (h : ∀ j, j < i → f j = -1) : pn_V f i = pn_E i - 1 := by
  induction i with
  | zero => rfl
  | succ i ih =>
    have e : pn_u (-1) = 4294967295 := by decide
    rw [pn_V_s, ih (fun j hj => h j (by omega)), h i (by omega), e, pn_E_s]
    omega
theorem pn_u_inc {x : Int32} (h : x ≠ -1) : pn_u (x + 1) = pn_u x + 1 := by
  have e : x + 1 = pn_I (pn_u x + 1) := by
    have e1 : (1 : Int32) = pn_I 1 := by decide
    conv => lhs; rw [← pn_I_u x, e1, pn_I_add]
  have e2 : pn_u x ≠ 4294967295 := fun z => h (pn_u_inj (by rw [z]; decide))
  have h1 := pn_u_lt x
  have h2 := pn_u_nonneg x
  rw [e, pn_u_Ilt (by omega) (by omega)]
theorem pn_V_inc {f g : Nat → Int32} {i n : Nat} (hi : i < n) (h1 : ∀ j, j < i → f j = -1) (h2 : f i ≠ -1) (g1 : ∀ j, j < i → g j = 0) (g2 : g i = f i + 1) (g3 : ∀ j, i < j → g j = f j) : pn_V g n = pn_V f n + 1 := by
  have a := pn_V_above (f := g) (g := f) (show i + 1 ≤ n by omega) (fun j hj _ => g3 j (by omega))
  have e1 := pn_V_ones h1
  have e2 := pn_V_zero g1
  rw [pn_V_s, pn_V_s, e1, e2, g2, pn_u_inc h2, Int.add_mul] at a
  omega
end
section
-- ===== PART A: goes FIRST, ahead of the names: the tables' words, and 'selects' of the private methods out of them =====
/-- a private method of a class that the tables say can be made, by its rows of tables_1 -/
def lw_okq (q : MethodName × Nat) : Prop := (q.1.cls ≠ "java/lang/invoke/MethodHandle" ∧ q.1.cls ≠ "java/lang/invoke/VarHandle") ∧ Cond.instantiable q.1.cls q.2 ∈ tables_1 ∧ Cond.privateMethod q.1 ∈ tables_1 ∧ Cond.instanceMethod q.1 ∈ tables_1
theorem lw_p0 : lw_okq (⟨"PackedNumbers$Text", "at", "(I)I"⟩, 2) := ⟨⟨by decide +kernel, by decide +kernel⟩, List.mem_of_getElem? (i := 70) (by decide +kernel), List.mem_of_getElem? (i := 139) (by decide +kernel), List.mem_of_getElem? (i := 140) (by decide +kernel)⟩
theorem lw_p1 : lw_okq (⟨"PackedNumbers", "needRegister", "(I)V"⟩, 7) := ⟨⟨by decide +kernel, by decide +kernel⟩, List.mem_of_getElem? (i := 19) (by decide +kernel), List.mem_of_getElem? (i := 151) (by decide +kernel), List.mem_of_getElem? (i := 152) (by decide +kernel)⟩
theorem lw_p2 : lw_okq (⟨"java/lang/Throwable", "fillInStackTrace", "(I)Ljava/lang/Throwable;"⟩, 6) := ⟨⟨by decide +kernel, by decide +kernel⟩, List.mem_of_getElem? (i := 194) (by decide +kernel), List.mem_of_getElem? (i := 192) (by decide +kernel), List.mem_of_getElem? (i := 193) (by decide +kernel)⟩
theorem lw_p3 : lw_okq (⟨"PackedNumbers$Row", "become", "(J)V"⟩, 3) := ⟨⟨by decide +kernel, by decide +kernel⟩, List.mem_of_getElem? (i := 84) (by decide +kernel), List.mem_of_getElem? (i := 223) (by decide +kernel), List.mem_of_getElem? (i := 224) (by decide +kernel)⟩
theorem lw_p4 : lw_okq (⟨"PackedNumbers$Row", "fit", "(I)V"⟩, 3) := ⟨⟨by decide +kernel, by decide +kernel⟩, List.mem_of_getElem? (i := 84) (by decide +kernel), List.mem_of_getElem? (i := 227) (by decide +kernel), List.mem_of_getElem? (i := 228) (by decide +kernel)⟩
theorem lw_p5 : lw_okq (⟨"PackedNumbers", "keep", "(ILPackedNumbers$Row;)I"⟩, 7) := ⟨⟨by decide +kernel, by decide +kernel⟩, List.mem_of_getElem? (i := 19) (by decide +kernel), List.mem_of_getElem? (i := 231) (by decide +kernel), List.mem_of_getElem? (i := 232) (by decide +kernel)⟩
theorem lw_p6 : lw_okq (⟨"PackedNumbers$Row", "bits", "()I"⟩, 3) := ⟨⟨by decide +kernel, by decide +kernel⟩, List.mem_of_getElem? (i := 84) (by decide +kernel), List.mem_of_getElem? (i := 235) (by decide +kernel), List.mem_of_getElem? (i := 236) (by decide +kernel)⟩
theorem lw_p7 : lw_okq (⟨"PackedNumbers", "needLength", "(I)V"⟩, 7) := ⟨⟨by decide +kernel, by decide +kernel⟩, List.mem_of_getElem? (i := 19) (by decide +kernel), List.mem_of_getElem? (i := 243) (by decide +kernel), List.mem_of_getElem? (i := 244) (by decide +kernel)⟩
theorem lw_p8 : lw_okq (⟨"PackedNumbers$Store", "write", "(ILPackedNumbers$Row;)V"⟩, 5) := ⟨⟨by decide +kernel, by decide +kernel⟩, List.mem_of_getElem? (i := 27) (by decide +kernel), List.mem_of_getElem? (i := 263) (by decide +kernel), List.mem_of_getElem? (i := 264) (by decide +kernel)⟩
theorem lw_p9 : lw_okq (⟨"PackedNumbers$Store", "pack", "()V"⟩, 5) := ⟨⟨by decide +kernel, by decide +kernel⟩, List.mem_of_getElem? (i := 27) (by decide +kernel), List.mem_of_getElem? (i := 267) (by decide +kernel), List.mem_of_getElem? (i := 268) (by decide +kernel)⟩
theorem lw_p10 : lw_okq (⟨"PackedNumbers$Store", "firstFrom", "(I)I"⟩, 5) := ⟨⟨by decide +kernel, by decide +kernel⟩, List.mem_of_getElem? (i := 27) (by decide +kernel), List.mem_of_getElem? (i := 271) (by decide +kernel), List.mem_of_getElem? (i := 272) (by decide +kernel)⟩
theorem lw_p11 : lw_okq (⟨"PackedNumbers$Store", "read", "(ILPackedNumbers$Row;)V"⟩, 5) := ⟨⟨by decide +kernel, by decide +kernel⟩, List.mem_of_getElem? (i := 27) (by decide +kernel), List.mem_of_getElem? (i := 286) (by decide +kernel), List.mem_of_getElem? (i := 287) (by decide +kernel)⟩
theorem lw_p12 : lw_okq (⟨"PackedNumbers$Row", "putBelow", "(I)V"⟩, 3) := ⟨⟨by decide +kernel, by decide +kernel⟩, List.mem_of_getElem? (i := 84) (by decide +kernel), List.mem_of_getElem? (i := 290) (by decide +kernel), List.mem_of_getElem? (i := 291) (by decide +kernel)⟩
theorem lw_p13 : lw_okq (⟨"PackedNumbers$Row", "turnBelowIf", "(Z)V"⟩, 3) := ⟨⟨by decide +kernel, by decide +kernel⟩, List.mem_of_getElem? (i := 84) (by decide +kernel), List.mem_of_getElem? (i := 295) (by decide +kernel), List.mem_of_getElem? (i := 296) (by decide +kernel)⟩
theorem lw_p14 : lw_okq (⟨"PackedNumbers", "needRegisters", "(II)V"⟩, 7) := ⟨⟨by decide +kernel, by decide +kernel⟩, List.mem_of_getElem? (i := 19) (by decide +kernel), List.mem_of_getElem? (i := 306) (by decide +kernel), List.mem_of_getElem? (i := 307) (by decide +kernel)⟩
theorem lw_p15 : lw_okq (⟨"PackedNumbers$Store", "exchange", "(II)V"⟩, 5) := ⟨⟨by decide +kernel, by decide +kernel⟩, List.mem_of_getElem? (i := 27) (by decide +kernel), List.mem_of_getElem? (i := 317) (by decide +kernel), List.mem_of_getElem? (i := 318) (by decide +kernel)⟩
def lw_privs_1 : List (MethodName × Nat) := [(⟨"PackedNumbers$Text", "at", "(I)I"⟩, 2), (⟨"PackedNumbers", "needRegister", "(I)V"⟩, 7), (⟨"java/lang/Throwable", "fillInStackTrace", "(I)Ljava/lang/Throwable;"⟩, 6), (⟨"PackedNumbers$Row", "become", "(J)V"⟩, 3), (⟨"PackedNumbers$Row", "fit", "(I)V"⟩, 3), (⟨"PackedNumbers", "keep", "(ILPackedNumbers$Row;)I"⟩, 7), (⟨"PackedNumbers$Row", "bits", "()I"⟩, 3), (⟨"PackedNumbers", "needLength", "(I)V"⟩, 7), (⟨"PackedNumbers$Store", "write", "(ILPackedNumbers$Row;)V"⟩, 5), (⟨"PackedNumbers$Store", "pack", "()V"⟩, 5), (⟨"PackedNumbers$Store", "firstFrom", "(I)I"⟩, 5), (⟨"PackedNumbers$Store", "read", "(ILPackedNumbers$Row;)V"⟩, 5), (⟨"PackedNumbers$Row", "putBelow", "(I)V"⟩, 3), (⟨"PackedNumbers$Row", "turnBelowIf", "(Z)V"⟩, 3), (⟨"PackedNumbers", "needRegisters", "(II)V"⟩, 7), (⟨"PackedNumbers$Store", "exchange", "(II)V"⟩, 5)]
theorem lw_r1 : ∀ q ∈ lw_privs_1, lw_okq q := List.forall_mem_cons.mpr ⟨lw_p0, List.forall_mem_cons.mpr ⟨lw_p1, List.forall_mem_cons.mpr ⟨lw_p2, List.forall_mem_cons.mpr ⟨lw_p3, List.forall_mem_cons.mpr ⟨lw_p4, List.forall_mem_cons.mpr ⟨lw_p5, List.forall_mem_cons.mpr ⟨lw_p6, List.forall_mem_cons.mpr ⟨lw_p7, List.forall_mem_cons.mpr ⟨lw_p8, List.forall_mem_cons.mpr ⟨lw_p9, List.forall_mem_cons.mpr ⟨lw_p10, List.forall_mem_cons.mpr ⟨lw_p11, List.forall_mem_cons.mpr ⟨lw_p12, List.forall_mem_cons.mpr ⟨lw_p13, List.forall_mem_cons.mpr ⟨lw_p14, List.forall_mem_cons.mpr ⟨lw_p15, fun _ h => absurd h List.not_mem_nil⟩⟩⟩⟩⟩⟩⟩⟩⟩⟩⟩⟩⟩⟩⟩⟩
theorem lw_p16 : lw_okq (⟨"PackedNumbers$Store", "turn", "(I)V"⟩, 5) := ⟨⟨by decide +kernel, by decide +kernel⟩, List.mem_of_getElem? (i := 27) (by decide +kernel), List.mem_of_getElem? (i := 332) (by decide +kernel), List.mem_of_getElem? (i := 333) (by decide +kernel)⟩
theorem lw_p17 : lw_okq (⟨"PackedNumbers", "keepSum", "(IIIZ)I"⟩, 7) := ⟨⟨by decide +kernel, by decide +kernel⟩, List.mem_of_getElem? (i := 19) (by decide +kernel), List.mem_of_getElem? (i := 343) (by decide +kernel), List.mem_of_getElem? (i := 344) (by decide +kernel)⟩
theorem lw_p18 : lw_okq (⟨"PackedNumbers", "readBoth", "(II)V"⟩, 7) := ⟨⟨by decide +kernel, by decide +kernel⟩, List.mem_of_getElem? (i := 19) (by decide +kernel), List.mem_of_getElem? (i := 347) (by decide +kernel), List.mem_of_getElem? (i := 348) (by decide +kernel)⟩
theorem lw_p19 : lw_okq (⟨"PackedNumbers$Row", "becomeSum", "(LPackedNumbers$Row;LPackedNumbers$Row;Z)V"⟩, 3) := ⟨⟨by decide +kernel, by decide +kernel⟩, List.mem_of_getElem? (i := 84) (by decide +kernel), List.mem_of_getElem? (i := 351) (by decide +kernel), List.mem_of_getElem? (i := 352) (by decide +kernel)⟩
theorem lw_p20 : lw_okq (⟨"PackedNumbers$Row", "becomeSizeSum", "(LPackedNumbers$Row;LPackedNumbers$Row;)V"⟩, 3) := ⟨⟨by decide +kernel, by decide +kernel⟩, List.mem_of_getElem? (i := 84) (by decide +kernel), List.mem_of_getElem? (i := 355) (by decide +kernel), List.mem_of_getElem? (i := 356) (by decide +kernel)⟩
theorem lw_p21 : lw_okq (⟨"PackedNumbers$Row", "limbAt", "(I)J"⟩, 3) := ⟨⟨by decide +kernel, by decide +kernel⟩, List.mem_of_getElem? (i := 84) (by decide +kernel), List.mem_of_getElem? (i := 362) (by decide +kernel), List.mem_of_getElem? (i := 363) (by decide +kernel)⟩
theorem lw_p22 : lw_okq (⟨"PackedNumbers$Row", "compareSize", "(LPackedNumbers$Row;)I"⟩, 3) := ⟨⟨by decide +kernel, by decide +kernel⟩, List.mem_of_getElem? (i := 84) (by decide +kernel), List.mem_of_getElem? (i := 367) (by decide +kernel), List.mem_of_getElem? (i := 368) (by decide +kernel)⟩
theorem lw_p23 : lw_okq (⟨"PackedNumbers$Row", "becomeSizeDifference", "(LPackedNumbers$Row;LPackedNumbers$Row;)V"⟩, 3) := ⟨⟨by decide +kernel, by decide +kernel⟩, List.mem_of_getElem? (i := 84) (by decide +kernel), List.mem_of_getElem? (i := 371) (by decide +kernel), List.mem_of_getElem? (i := 372) (by decide +kernel)⟩
theorem lw_p24 : lw_okq (⟨"PackedNumbers", "leastProductBits", "()I"⟩, 7) := ⟨⟨by decide +kernel, by decide +kernel⟩, List.mem_of_getElem? (i := 19) (by decide +kernel), List.mem_of_getElem? (i := 389) (by decide +kernel), List.mem_of_getElem? (i := 390) (by decide +kernel)⟩
theorem lw_p25 : lw_okq (⟨"PackedNumbers$Row", "becomeProduct", "(LPackedNumbers$Row;LPackedNumbers$Row;)V"⟩, 3) := ⟨⟨by decide +kernel, by decide +kernel⟩, List.mem_of_getElem? (i := 84) (by decide +kernel), List.mem_of_getElem? (i := 393) (by decide +kernel), List.mem_of_getElem? (i := 394) (by decide +kernel)⟩
theorem lw_p26 : lw_okq (⟨"PackedNumbers$Row", "clear", "(II)V"⟩, 3) := ⟨⟨by decide +kernel, by decide +kernel⟩, List.mem_of_getElem? (i := 84) (by decide +kernel), List.mem_of_getElem? (i := 397) (by decide +kernel), List.mem_of_getElem? (i := 398) (by decide +kernel)⟩
theorem lw_p27 : lw_okq (⟨"PackedNumbers$Row", "addMultiple", "(LPackedNumbers$Row;JI)I"⟩, 3) := ⟨⟨by decide +kernel, by decide +kernel⟩, List.mem_of_getElem? (i := 84) (by decide +kernel), List.mem_of_getElem? (i := 401) (by decide +kernel), List.mem_of_getElem? (i := 402) (by decide +kernel)⟩
theorem lw_p28 : lw_okq (⟨"PackedNumbers", "needDivisorAboveZero", "()V"⟩, 7) := ⟨⟨by decide +kernel, by decide +kernel⟩, List.mem_of_getElem? (i := 19) (by decide +kernel), List.mem_of_getElem? (i := 437) (by decide +kernel), List.mem_of_getElem? (i := 438) (by decide +kernel)⟩
theorem lw_p29 : lw_okq (⟨"PackedNumbers$Row", "signum", "()I"⟩, 3) := ⟨⟨by decide +kernel, by decide +kernel⟩, List.mem_of_getElem? (i := 84) (by decide +kernel), List.mem_of_getElem? (i := 441) (by decide +kernel), List.mem_of_getElem? (i := 442) (by decide +kernel)⟩
theorem lw_p30 : lw_okq (⟨"PackedNumbers$Row", "take", "(LPackedNumbers$Row;)V"⟩, 3) := ⟨⟨by decide +kernel, by decide +kernel⟩, List.mem_of_getElem? (i := 84) (by decide +kernel), List.mem_of_getElem? (i := 466) (by decide +kernel), List.mem_of_getElem? (i := 467) (by decide +kernel)⟩
theorem lw_p31 : lw_okq (⟨"PackedNumbers$Row", "shrink", "(J)J"⟩, 3) := ⟨⟨by decide +kernel, by decide +kernel⟩, List.mem_of_getElem? (i := 84) (by decide +kernel), List.mem_of_getElem? (i := 471) (by decide +kernel), List.mem_of_getElem? (i := 472) (by decide +kernel)⟩
def lw_privs_2 : List (MethodName × Nat) := [(⟨"PackedNumbers$Store", "turn", "(I)V"⟩, 5), (⟨"PackedNumbers", "keepSum", "(IIIZ)I"⟩, 7), (⟨"PackedNumbers", "readBoth", "(II)V"⟩, 7), (⟨"PackedNumbers$Row", "becomeSum", "(LPackedNumbers$Row;LPackedNumbers$Row;Z)V"⟩, 3), (⟨"PackedNumbers$Row", "becomeSizeSum", "(LPackedNumbers$Row;LPackedNumbers$Row;)V"⟩, 3), (⟨"PackedNumbers$Row", "limbAt", "(I)J"⟩, 3), (⟨"PackedNumbers$Row", "compareSize", "(LPackedNumbers$Row;)I"⟩, 3), (⟨"PackedNumbers$Row", "becomeSizeDifference", "(LPackedNumbers$Row;LPackedNumbers$Row;)V"⟩, 3), (⟨"PackedNumbers", "leastProductBits", "()I"⟩, 7), (⟨"PackedNumbers$Row", "becomeProduct", "(LPackedNumbers$Row;LPackedNumbers$Row;)V"⟩, 3), (⟨"PackedNumbers$Row", "clear", "(II)V"⟩, 3), (⟨"PackedNumbers$Row", "addMultiple", "(LPackedNumbers$Row;JI)I"⟩, 3), (⟨"PackedNumbers", "needDivisorAboveZero", "()V"⟩, 7), (⟨"PackedNumbers$Row", "signum", "()I"⟩, 3), (⟨"PackedNumbers$Row", "take", "(LPackedNumbers$Row;)V"⟩, 3), (⟨"PackedNumbers$Row", "shrink", "(J)J"⟩, 3)]
theorem lw_r2 : ∀ q ∈ lw_privs_2, lw_okq q := List.forall_mem_cons.mpr ⟨lw_p16, List.forall_mem_cons.mpr ⟨lw_p17, List.forall_mem_cons.mpr ⟨lw_p18, List.forall_mem_cons.mpr ⟨lw_p19, List.forall_mem_cons.mpr ⟨lw_p20, List.forall_mem_cons.mpr ⟨lw_p21, List.forall_mem_cons.mpr ⟨lw_p22, List.forall_mem_cons.mpr ⟨lw_p23, List.forall_mem_cons.mpr ⟨lw_p24, List.forall_mem_cons.mpr ⟨lw_p25, List.forall_mem_cons.mpr ⟨lw_p26, List.forall_mem_cons.mpr ⟨lw_p27, List.forall_mem_cons.mpr ⟨lw_p28, List.forall_mem_cons.mpr ⟨lw_p29, List.forall_mem_cons.mpr ⟨lw_p30, List.forall_mem_cons.mpr ⟨lw_p31, fun _ h => absurd h List.not_mem_nil⟩⟩⟩⟩⟩⟩⟩⟩⟩⟩⟩⟩⟩⟩⟩⟩
theorem lw_p32 : lw_okq (⟨"PackedNumbers$Row", "shiftUp", "(I)V"⟩, 3) := ⟨⟨by decide +kernel, by decide +kernel⟩, List.mem_of_getElem? (i := 84) (by decide +kernel), List.mem_of_getElem? (i := 483) (by decide +kernel), List.mem_of_getElem? (i := 484) (by decide +kernel)⟩
theorem lw_p33 : lw_okq (⟨"PackedNumbers$Row", "shiftDown", "(I)V"⟩, 3) := ⟨⟨by decide +kernel, by decide +kernel⟩, List.mem_of_getElem? (i := 84) (by decide +kernel), List.mem_of_getElem? (i := 499) (by decide +kernel), List.mem_of_getElem? (i := 500) (by decide +kernel)⟩
theorem lw_p34 : lw_okq (⟨"PackedNumbers$Row", "increase", "()V"⟩, 3) := ⟨⟨by decide +kernel, by decide +kernel⟩, List.mem_of_getElem? (i := 84) (by decide +kernel), List.mem_of_getElem? (i := 503) (by decide +kernel), List.mem_of_getElem? (i := 504) (by decide +kernel)⟩
theorem lw_p35 : lw_okq (⟨"PackedNumbers$Row", "isOdd", "()Z"⟩, 3) := ⟨⟨by decide +kernel, by decide +kernel⟩, List.mem_of_getElem? (i := 84) (by decide +kernel), List.mem_of_getElem? (i := 528) (by decide +kernel), List.mem_of_getElem? (i := 529) (by decide +kernel)⟩
theorem lw_p36 : lw_okq (⟨"PackedNumbers$Euclid", "greatest", "(LPackedNumbers$Row;LPackedNumbers$Row;LPackedNumbers$Row;)LPackedNumbers$Row;"⟩, 4) := ⟨⟨by decide +kernel, by decide +kernel⟩, List.mem_of_getElem? (i := 51) (by decide +kernel), List.mem_of_getElem? (i := 539) (by decide +kernel), List.mem_of_getElem? (i := 540) (by decide +kernel)⟩
theorem lw_p37 : lw_okq (⟨"PackedNumbers$Row", "bitsFrom", "(I)J"⟩, 3) := ⟨⟨by decide +kernel, by decide +kernel⟩, List.mem_of_getElem? (i := 84) (by decide +kernel), List.mem_of_getElem? (i := 547) (by decide +kernel), List.mem_of_getElem? (i := 548) (by decide +kernel)⟩
theorem lw_p38 : lw_okq (⟨"PackedNumbers$Euclid", "foresee", "(JJ)V"⟩, 4) := ⟨⟨by decide +kernel, by decide +kernel⟩, List.mem_of_getElem? (i := 51) (by decide +kernel), List.mem_of_getElem? (i := 551) (by decide +kernel), List.mem_of_getElem? (i := 552) (by decide +kernel)⟩
theorem lw_p39 : lw_okq (⟨"PackedNumbers$Euclid", "follow", "(LPackedNumbers$Row;LPackedNumbers$Row;)V"⟩, 4) := ⟨⟨by decide +kernel, by decide +kernel⟩, List.mem_of_getElem? (i := 51) (by decide +kernel), List.mem_of_getElem? (i := 559) (by decide +kernel), List.mem_of_getElem? (i := 560) (by decide +kernel)⟩
theorem lw_p40 : lw_okq (⟨"PackedNumbers$Text", "write", "(LPackedNumbers$Row;)I"⟩, 2) := ⟨⟨by decide +kernel, by decide +kernel⟩, List.mem_of_getElem? (i := 70) (by decide +kernel), List.mem_of_getElem? (i := 610) (by decide +kernel), List.mem_of_getElem? (i := 611) (by decide +kernel)⟩
theorem lw_p41 : lw_okq (⟨"PackedNumbers$Text", "putBefore", "(I)V"⟩, 2) := ⟨⟨by decide +kernel, by decide +kernel⟩, List.mem_of_getElem? (i := 70) (by decide +kernel), List.mem_of_getElem? (i := 614) (by decide +kernel), List.mem_of_getElem? (i := 615) (by decide +kernel)⟩
theorem lw_p42 : lw_okq (⟨"PackedNumbers$Text", "writeChunk", "(IZ)V"⟩, 2) := ⟨⟨by decide +kernel, by decide +kernel⟩, List.mem_of_getElem? (i := 70) (by decide +kernel), List.mem_of_getElem? (i := 620) (by decide +kernel), List.mem_of_getElem? (i := 621) (by decide +kernel)⟩
theorem lw_p43 : lw_okq (⟨"PackedNumbersModel", "refuses", "(I)Z"⟩, 9) := ⟨⟨by decide +kernel, by decide +kernel⟩, List.mem_of_getElem? (i := 624) (by decide +kernel), List.mem_of_getElem? (i := 670) (by decide +kernel), List.mem_of_getElem? (i := 671) (by decide +kernel)⟩
theorem lw_p44 : lw_okq (⟨"PackedNumbersModel", "setLong", "(IJ)V"⟩, 9) := ⟨⟨by decide +kernel, by decide +kernel⟩, List.mem_of_getElem? (i := 624) (by decide +kernel), List.mem_of_getElem? (i := 674) (by decide +kernel), List.mem_of_getElem? (i := 675) (by decide +kernel)⟩
theorem lw_p45 : lw_okq (⟨"PackedNumbersModel", "put", "(IIII)I"⟩, 9) := ⟨⟨by decide +kernel, by decide +kernel⟩, List.mem_of_getElem? (i := 624) (by decide +kernel), List.mem_of_getElem? (i := 679) (by decide +kernel), List.mem_of_getElem? (i := 680) (by decide +kernel)⟩
theorem lw_p46 : lw_okq (⟨"PackedNumbersModel", "bits", "(I)I"⟩, 9) := ⟨⟨by decide +kernel, by decide +kernel⟩, List.mem_of_getElem? (i := 624) (by decide +kernel), List.mem_of_getElem? (i := 683) (by decide +kernel), List.mem_of_getElem? (i := 684) (by decide +kernel)⟩
theorem lw_p47 : lw_okq (⟨"PackedNumbersModel", "parts", "(I)I"⟩, 9) := ⟨⟨by decide +kernel, by decide +kernel⟩, List.mem_of_getElem? (i := 624) (by decide +kernel), List.mem_of_getElem? (i := 687) (by decide +kernel), List.mem_of_getElem? (i := 688) (by decide +kernel)⟩
def lw_privs_3 : List (MethodName × Nat) := [(⟨"PackedNumbers$Row", "shiftUp", "(I)V"⟩, 3), (⟨"PackedNumbers$Row", "shiftDown", "(I)V"⟩, 3), (⟨"PackedNumbers$Row", "increase", "()V"⟩, 3), (⟨"PackedNumbers$Row", "isOdd", "()Z"⟩, 3), (⟨"PackedNumbers$Euclid", "greatest", "(LPackedNumbers$Row;LPackedNumbers$Row;LPackedNumbers$Row;)LPackedNumbers$Row;"⟩, 4), (⟨"PackedNumbers$Row", "bitsFrom", "(I)J"⟩, 3), (⟨"PackedNumbers$Euclid", "foresee", "(JJ)V"⟩, 4), (⟨"PackedNumbers$Euclid", "follow", "(LPackedNumbers$Row;LPackedNumbers$Row;)V"⟩, 4), (⟨"PackedNumbers$Text", "write", "(LPackedNumbers$Row;)I"⟩, 2), (⟨"PackedNumbers$Text", "putBefore", "(I)V"⟩, 2), (⟨"PackedNumbers$Text", "writeChunk", "(IZ)V"⟩, 2), (⟨"PackedNumbersModel", "refuses", "(I)Z"⟩, 9), (⟨"PackedNumbersModel", "setLong", "(IJ)V"⟩, 9), (⟨"PackedNumbersModel", "put", "(IIII)I"⟩, 9), (⟨"PackedNumbersModel", "bits", "(I)I"⟩, 9), (⟨"PackedNumbersModel", "parts", "(I)I"⟩, 9)]
theorem lw_r3 : ∀ q ∈ lw_privs_3, lw_okq q := List.forall_mem_cons.mpr ⟨lw_p32, List.forall_mem_cons.mpr ⟨lw_p33, List.forall_mem_cons.mpr ⟨lw_p34, List.forall_mem_cons.mpr ⟨lw_p35, List.forall_mem_cons.mpr ⟨lw_p36, List.forall_mem_cons.mpr ⟨lw_p37, List.forall_mem_cons.mpr ⟨lw_p38, List.forall_mem_cons.mpr ⟨lw_p39, List.forall_mem_cons.mpr ⟨lw_p40, List.forall_mem_cons.mpr ⟨lw_p41, List.forall_mem_cons.mpr ⟨lw_p42, List.forall_mem_cons.mpr ⟨lw_p43, List.forall_mem_cons.mpr ⟨lw_p44, List.forall_mem_cons.mpr ⟨lw_p45, List.forall_mem_cons.mpr ⟨lw_p46, List.forall_mem_cons.mpr ⟨lw_p47, fun _ h => absurd h List.not_mem_nil⟩⟩⟩⟩⟩⟩⟩⟩⟩⟩⟩⟩⟩⟩⟩⟩
theorem lw_p48 : lw_okq (⟨"PackedNumbersModel", "copyTo", "(II)V"⟩, 9) := ⟨⟨by decide +kernel, by decide +kernel⟩, List.mem_of_getElem? (i := 624) (by decide +kernel), List.mem_of_getElem? (i := 691) (by decide +kernel), List.mem_of_getElem? (i := 692) (by decide +kernel)⟩
theorem lw_p49 : lw_okq (⟨"PackedNumbersModel", "trim", "(II)V"⟩, 9) := ⟨⟨by decide +kernel, by decide +kernel⟩, List.mem_of_getElem? (i := 624) (by decide +kernel), List.mem_of_getElem? (i := 696) (by decide +kernel), List.mem_of_getElem? (i := 697) (by decide +kernel)⟩
theorem lw_p50 : lw_okq (⟨"PackedNumbersModel", "load", "(II)V"⟩, 9) := ⟨⟨by decide +kernel, by decide +kernel⟩, List.mem_of_getElem? (i := 624) (by decide +kernel), List.mem_of_getElem? (i := 704) (by decide +kernel), List.mem_of_getElem? (i := 705) (by decide +kernel)⟩
theorem lw_p51 : lw_okq (⟨"PackedNumbersModel", "small", "(II)V"⟩, 9) := ⟨⟨by decide +kernel, by decide +kernel⟩, List.mem_of_getElem? (i := 624) (by decide +kernel), List.mem_of_getElem? (i := 708) (by decide +kernel), List.mem_of_getElem? (i := 709) (by decide +kernel)⟩
theorem lw_p52 : lw_okq (⟨"PackedNumbersModel", "addTo", "(II)V"⟩, 9) := ⟨⟨by decide +kernel, by decide +kernel⟩, List.mem_of_getElem? (i := 624) (by decide +kernel), List.mem_of_getElem? (i := 713) (by decide +kernel), List.mem_of_getElem? (i := 714) (by decide +kernel)⟩
theorem lw_p53 : lw_okq (⟨"PackedNumbersModel", "figure", "(II)I"⟩, 9) := ⟨⟨by decide +kernel, by decide +kernel⟩, List.mem_of_getElem? (i := 624) (by decide +kernel), List.mem_of_getElem? (i := 717) (by decide +kernel), List.mem_of_getElem? (i := 718) (by decide +kernel)⟩
theorem lw_p54 : lw_okq (⟨"PackedNumbersModel", "sum", "(II)I"⟩, 9) := ⟨⟨by decide +kernel, by decide +kernel⟩, List.mem_of_getElem? (i := 624) (by decide +kernel), List.mem_of_getElem? (i := 740) (by decide +kernel), List.mem_of_getElem? (i := 741) (by decide +kernel)⟩
theorem lw_p55 : lw_okq (⟨"PackedNumbersModel", "order", "(II)I"⟩, 9) := ⟨⟨by decide +kernel, by decide +kernel⟩, List.mem_of_getElem? (i := 624) (by decide +kernel), List.mem_of_getElem? (i := 744) (by decide +kernel), List.mem_of_getElem? (i := 745) (by decide +kernel)⟩
theorem lw_p56 : lw_okq (⟨"PackedNumbersModel", "takeFrom", "(II)V"⟩, 9) := ⟨⟨by decide +kernel, by decide +kernel⟩, List.mem_of_getElem? (i := 624) (by decide +kernel), List.mem_of_getElem? (i := 748) (by decide +kernel), List.mem_of_getElem? (i := 749) (by decide +kernel)⟩
theorem lw_p57 : lw_okq (⟨"PackedNumbersModel", "product", "(III)V"⟩, 9) := ⟨⟨by decide +kernel, by decide +kernel⟩, List.mem_of_getElem? (i := 624) (by decide +kernel), List.mem_of_getElem? (i := 760) (by decide +kernel), List.mem_of_getElem? (i := 761) (by decide +kernel)⟩
theorem lw_p58 : lw_okq (⟨"PackedNumbersModel", "down", "(Z)V"⟩, 9) := ⟨⟨by decide +kernel, by decide +kernel⟩, List.mem_of_getElem? (i := 624) (by decide +kernel), List.mem_of_getElem? (i := 772) (by decide +kernel), List.mem_of_getElem? (i := 773) (by decide +kernel)⟩
theorem lw_p59 : lw_okq (⟨"PackedNumbersModel", "divideBy", "(III)V"⟩, 9) := ⟨⟨by decide +kernel, by decide +kernel⟩, List.mem_of_getElem? (i := 624) (by decide +kernel), List.mem_of_getElem? (i := 776) (by decide +kernel), List.mem_of_getElem? (i := 777) (by decide +kernel)⟩
theorem lw_p60 : lw_okq (⟨"PackedNumbersModel", "takes", "(IIII)Z"⟩, 9) := ⟨⟨by decide +kernel, by decide +kernel⟩, List.mem_of_getElem? (i := 624) (by decide +kernel), List.mem_of_getElem? (i := 782) (by decide +kernel), List.mem_of_getElem? (i := 783) (by decide +kernel)⟩
theorem lw_p61 : lw_okq (⟨"PackedNumbersModel", "common", "(II)V"⟩, 9) := ⟨⟨by decide +kernel, by decide +kernel⟩, List.mem_of_getElem? (i := 624) (by decide +kernel), List.mem_of_getElem? (i := 798) (by decide +kernel), List.mem_of_getElem? (i := 799) (by decide +kernel)⟩
def lw_privs_4 : List (MethodName × Nat) := [(⟨"PackedNumbersModel", "copyTo", "(II)V"⟩, 9), (⟨"PackedNumbersModel", "trim", "(II)V"⟩, 9), (⟨"PackedNumbersModel", "load", "(II)V"⟩, 9), (⟨"PackedNumbersModel", "small", "(II)V"⟩, 9), (⟨"PackedNumbersModel", "addTo", "(II)V"⟩, 9), (⟨"PackedNumbersModel", "figure", "(II)I"⟩, 9), (⟨"PackedNumbersModel", "sum", "(II)I"⟩, 9), (⟨"PackedNumbersModel", "order", "(II)I"⟩, 9), (⟨"PackedNumbersModel", "takeFrom", "(II)V"⟩, 9), (⟨"PackedNumbersModel", "product", "(III)V"⟩, 9), (⟨"PackedNumbersModel", "down", "(Z)V"⟩, 9), (⟨"PackedNumbersModel", "divideBy", "(III)V"⟩, 9), (⟨"PackedNumbersModel", "takes", "(IIII)Z"⟩, 9), (⟨"PackedNumbersModel", "common", "(II)V"⟩, 9)]
theorem lw_r4 : ∀ q ∈ lw_privs_4, lw_okq q := List.forall_mem_cons.mpr ⟨lw_p48, List.forall_mem_cons.mpr ⟨lw_p49, List.forall_mem_cons.mpr ⟨lw_p50, List.forall_mem_cons.mpr ⟨lw_p51, List.forall_mem_cons.mpr ⟨lw_p52, List.forall_mem_cons.mpr ⟨lw_p53, List.forall_mem_cons.mpr ⟨lw_p54, List.forall_mem_cons.mpr ⟨lw_p55, List.forall_mem_cons.mpr ⟨lw_p56, List.forall_mem_cons.mpr ⟨lw_p57, List.forall_mem_cons.mpr ⟨lw_p58, List.forall_mem_cons.mpr ⟨lw_p59, List.forall_mem_cons.mpr ⟨lw_p60, List.forall_mem_cons.mpr ⟨lw_p61, fun _ h => absurd h List.not_mem_nil⟩⟩⟩⟩⟩⟩⟩⟩⟩⟩⟩⟩⟩⟩
def lw_privs : List (MethodName × Nat) := lw_privs_1 ++ (lw_privs_2 ++ (lw_privs_3 ++ (lw_privs_4)))
def lw_tbl : List Cond := k2_sels lw_privs ++ tables_1
theorem lw_privs_ok : ∀ q ∈ lw_privs, lw_okq q := by
  show ∀ q ∈ lw_privs_1 ++ (lw_privs_2 ++ (lw_privs_3 ++ (lw_privs_4))), lw_okq q
  exact List.forall_mem_append.mpr ⟨lw_r1, List.forall_mem_append.mpr ⟨lw_r2, List.forall_mem_append.mpr ⟨lw_r3, lw_r4⟩⟩⟩
/-! the words that every contract carries: the good ones of the tables; and those that name private members of nest mates -/
def pn_all : List Cond := lw_tbl.filter goodWord
theorem pn_inS {q : MethodName × Nat} (i : Nat) (h : lw_privs[i]? = some q) : Cond.selects q.1.cls q.1 q.1 ∈ pn_all := List.mem_filter.mpr ⟨List.mem_append_left _ (List.mem_map.mpr ⟨q, List.mem_of_getElem? h, rfl⟩), rfl⟩
theorem pn_all_good : GoodIn pn_all pn_all := fun w hw => ⟨hw, good_of_word (List.mem_filter.mp hw).2⟩
theorem pn_good {w : Cond} (h : w ∈ pn_all) : GoodIn pn_all (w :: pn_all) := fun v hv => (List.mem_cons.mp hv).elim (fun e => by rw [e]; exact pn_all_good w h) (pn_all_good v)
def pn_isN : Cond → Bool
  | .fieldLinkNest .. => true
  | .methodLinkNest .. => true
  | _ => false
def pn_nest : List Cond := lw_tbl.filter pn_isN
def pn_N (U : State) : Prop := ∀ w ∈ pn_nest, va_Nw w U
theorem pn_N.warm {s U : State} (hW : s.WarmedH U.vm) (h : pn_N s) : pn_N U := by
  intro w hw
  have h1 := h w hw
  have h2 := (List.mem_filter.mp hw).2
  cases w <;> first | exact va_Nw.warmF hW h1 | exact va_Nw.warmM hW h1 | exact absurd h2 (by simp [pn_isN])
theorem pn_N.same {s U : State} (hv : s.vm = U.vm) (h : pn_N s) : pn_N U := by
  intro w hw
  have h1 := h w hw
  have h2 := (List.mem_filter.mp hw).2
  cases w <;> first | exact va_Nw.same rfl hv h1 | exact absurd h2 (by simp [pn_isN])
theorem pn_sub1 {w : Cond} (h : w ∈ tables_1_1) : w ∈ lw_tbl := List.mem_append_right _ (show w ∈ tables_1_1 ++ (tables_1_2 ++ (tables_1_3 ++ tables_1_4)) from List.mem_append_left _ h)
theorem pn_in1 {w : Cond} (i : Nat) (h : tables_1_1[i]? = some w) (hg : goodWord w = true) : w ∈ pn_all := List.mem_filter.mpr ⟨pn_sub1 (List.mem_of_getElem? h), hg⟩
theorem pn_inN1 {w : Cond} (i : Nat) (h : tables_1_1[i]? = some w) (hg : pn_isN w = true) : w ∈ pn_nest := List.mem_filter.mpr ⟨pn_sub1 (List.mem_of_getElem? h), hg⟩
theorem pn_sub2 {w : Cond} (h : w ∈ tables_1_2) : w ∈ lw_tbl := List.mem_append_right _ (show w ∈ tables_1_1 ++ (tables_1_2 ++ (tables_1_3 ++ tables_1_4)) from List.mem_append_right _ (List.mem_append_left _ h))
theorem pn_in2 {w : Cond} (i : Nat) (h : tables_1_2[i]? = some w) (hg : goodWord w = true) : w ∈ pn_all := List.mem_filter.mpr ⟨pn_sub2 (List.mem_of_getElem? h), hg⟩
theorem pn_inN2 {w : Cond} (i : Nat) (h : tables_1_2[i]? = some w) (hg : pn_isN w = true) : w ∈ pn_nest := List.mem_filter.mpr ⟨pn_sub2 (List.mem_of_getElem? h), hg⟩
theorem pn_sub3 {w : Cond} (h : w ∈ tables_1_3) : w ∈ lw_tbl := List.mem_append_right _ (show w ∈ tables_1_1 ++ (tables_1_2 ++ (tables_1_3 ++ tables_1_4)) from List.mem_append_right _ (List.mem_append_right _ (List.mem_append_left _ h)))
theorem pn_in3 {w : Cond} (i : Nat) (h : tables_1_3[i]? = some w) (hg : goodWord w = true) : w ∈ pn_all := List.mem_filter.mpr ⟨pn_sub3 (List.mem_of_getElem? h), hg⟩
theorem pn_inN3 {w : Cond} (i : Nat) (h : tables_1_3[i]? = some w) (hg : pn_isN w = true) : w ∈ pn_nest := List.mem_filter.mpr ⟨pn_sub3 (List.mem_of_getElem? h), hg⟩
theorem pn_sub4 {w : Cond} (h : w ∈ tables_1_4) : w ∈ lw_tbl := List.mem_append_right _ (show w ∈ tables_1_1 ++ (tables_1_2 ++ (tables_1_3 ++ tables_1_4)) from List.mem_append_right _ (List.mem_append_right _ (List.mem_append_right _ h)))
theorem pn_in4 {w : Cond} (i : Nat) (h : tables_1_4[i]? = some w) (hg : goodWord w = true) : w ∈ pn_all := List.mem_filter.mpr ⟨pn_sub4 (List.mem_of_getElem? h), hg⟩
theorem pn_inN4 {w : Cond} (i : Nat) (h : tables_1_4[i]? = some w) (hg : pn_isN w = true) : w ∈ pn_nest := List.mem_filter.mpr ⟨pn_sub4 (List.mem_of_getElem? h), hg⟩
theorem kw_0 : (Jvm.Cond.initialized "PackedNumbersLaw") ∈ pn_all := pn_in1 0 rfl rfl
theorem kw_1 : (Jvm.Cond.initialized "PackedNumbers") ∈ pn_all := pn_in1 1 rfl rfl
theorem kw_2 : (Jvm.Cond.initialized "PackedNumbers$Store") ∈ pn_all := pn_in1 2 rfl rfl
theorem kw_3 : (Jvm.Cond.initialized "PackedNumbers$Euclid") ∈ pn_all := pn_in1 3 rfl rfl
theorem kw_4 : (Jvm.Cond.initialized "PackedNumbers$Text") ∈ pn_all := pn_in1 4 rfl rfl
theorem kw_5 : (Jvm.Cond.initialized "PackedNumbers$Row") ∈ pn_all := pn_in1 5 rfl rfl
theorem kw_6 : (Jvm.Cond.initialized "PackedNumbersModel") ∈ pn_all := pn_in1 6 rfl rfl
theorem kw_7 : (Jvm.Cond.initialized "java/lang/Throwable") ∈ pn_all := pn_in1 7 rfl rfl
theorem kw_8 : (Jvm.Cond.initialized "java/lang/Exception") ∈ pn_all := pn_in1 8 rfl rfl
theorem kw_9 : (Jvm.Cond.initialized "java/lang/RuntimeException") ∈ pn_all := pn_in1 9 rfl rfl
theorem kw_10 : (Jvm.Cond.initialized "java/lang/IndexOutOfBoundsException") ∈ pn_all := pn_in1 10 rfl rfl
theorem kw_11 : (Jvm.Cond.initialized "java/lang/Integer") ∈ pn_all := pn_in1 11 rfl rfl
theorem kw_12 : (Jvm.Cond.initialized "java/lang/UnsupportedOperationException") ∈ pn_all := pn_in1 12 rfl rfl
theorem kw_13 : (Jvm.Cond.initialized "java/lang/System") ∈ pn_all := pn_in1 13 rfl rfl
theorem kw_14 : (Jvm.Cond.initialized "java/lang/Math") ∈ pn_all := pn_in1 14 rfl rfl
theorem kw_15 : (Jvm.Cond.initialized "java/lang/IllegalArgumentException") ∈ pn_all := pn_in1 15 rfl rfl
theorem kw_16 : (Jvm.Cond.initialized "java/lang/ArithmeticException") ∈ pn_all := pn_in1 16 rfl rfl
theorem kw_17 : (Jvm.Cond.initialized "PackedNumbers$Division") ∈ pn_all := pn_in1 17 rfl rfl
theorem kw_18 : (Jvm.Cond.classLink "PackedNumbersLaw" (8 : Nat) "PackedNumbers") ∈ pn_all := pn_in1 18 rfl rfl
theorem kw_19 : (Jvm.Cond.instantiable "PackedNumbers" (7 : Nat)) ∈ pn_all := pn_in1 19 rfl rfl
theorem kw_20 : (Jvm.Cond.methodLink "PackedNumbersLaw" (80 : Nat) ({ cls := "PackedNumbers", name := "<init>", desc := "()V" } : Jvm.MethodName)) ∈ pn_all := pn_in1 20 rfl rfl
theorem kw_21 : (Jvm.Cond.instanceMethod ({ cls := "PackedNumbers", name := "<init>", desc := "()V" } : Jvm.MethodName)) ∈ pn_all := pn_in1 21 rfl rfl
theorem kw_22 : (Jvm.Cond.code ({ cls := "PackedNumbers", name := "<init>", desc := "()V" } : Jvm.MethodName) prog_1_method_1_code (1 : Nat) (Option.none : Option Jvm.ClassFile.FieldType)) ∈ pn_all := pn_in1 22 rfl rfl
theorem kw_23 : (Jvm.Cond.methodLink "PackedNumbers" (3 : Nat) ({ cls := "java/lang/Object", name := "<init>", desc := "()V" } : Jvm.MethodName)) ∈ pn_all := pn_in1 23 rfl rfl
theorem kw_24 : (Jvm.Cond.instanceMethod ({ cls := "java/lang/Object", name := "<init>", desc := "()V" } : Jvm.MethodName)) ∈ pn_all := pn_in1 24 rfl rfl
theorem kw_25 : (Jvm.Cond.code ({ cls := "java/lang/Object", name := "<init>", desc := "()V" } : Jvm.MethodName) object_method_1_code (1 : Nat) (Option.none : Option Jvm.ClassFile.FieldType)) ∈ pn_all := pn_in1 25 rfl rfl
theorem kw_26 : (Jvm.Cond.classLink "PackedNumbers" (9 : Nat) "PackedNumbers$Store") ∈ pn_all := pn_in1 26 rfl rfl
theorem kw_27 : (Jvm.Cond.instantiable "PackedNumbers$Store" (5 : Nat)) ∈ pn_all := pn_in1 27 rfl rfl
theorem kn_28 : (Jvm.Cond.methodLinkNest "PackedNumbers" (11 : Nat) ({ cls := "PackedNumbers$Store", name := "<init>", desc := "()V" } : Jvm.MethodName) "PackedNumbers") ∈ pn_nest := pn_inN1 28 rfl rfl
theorem kw_29 : (Jvm.Cond.instanceMethod ({ cls := "PackedNumbers$Store", name := "<init>", desc := "()V" } : Jvm.MethodName)) ∈ pn_all := pn_in1 29 rfl rfl
theorem kw_30 : (Jvm.Cond.code ({ cls := "PackedNumbers$Store", name := "<init>", desc := "()V" } : Jvm.MethodName) prog_5_method_1_code (1 : Nat) (Option.none : Option Jvm.ClassFile.FieldType)) ∈ pn_all := pn_in1 30 rfl rfl
theorem kw_31 : (Jvm.Cond.methodLink "PackedNumbers$Store" (3 : Nat) ({ cls := "java/lang/Object", name := "<init>", desc := "()V" } : Jvm.MethodName)) ∈ pn_all := pn_in1 31 rfl rfl
theorem kw_32 : (Jvm.Cond.fieldLink "PackedNumbers$Store" (9 : Nat) "PackedNumbers$Store" "cells" "[I") ∈ pn_all := pn_in1 32 rfl rfl
theorem kw_33 : (Jvm.Cond.fieldLink "PackedNumbers$Store" (15 : Nat) "PackedNumbers$Store" "starts" "[I") ∈ pn_all := pn_in1 33 rfl rfl
theorem kw_34 : (Jvm.Cond.fieldLink "PackedNumbers$Store" (18 : Nat) "PackedNumbers$Store" "counts" "[I") ∈ pn_all := pn_in1 34 rfl rfl
theorem kw_35 : (Jvm.Cond.fieldLink "PackedNumbers$Store" (21 : Nat) "PackedNumbers$Store" "belows" "[Z") ∈ pn_all := pn_in1 35 rfl rfl
theorem kw_36 : (Jvm.Cond.fieldLink "PackedNumbers$Store" (25 : Nat) "PackedNumbers$Store" "used" "I") ∈ pn_all := pn_in1 36 rfl rfl
theorem kw_48 : (Jvm.Cond.arrayClass Jvm.ClassFile.FieldType.int) ∈ pn_all := pn_in1 48 rfl rfl
theorem kw_49 : (Jvm.Cond.arrayClass Jvm.ClassFile.FieldType.boolean) ∈ pn_all := pn_in1 49 rfl rfl
theorem kw_50 : (Jvm.Cond.classLink "PackedNumbers" (16 : Nat) "PackedNumbers$Euclid") ∈ pn_all := pn_in1 50 rfl rfl
theorem kw_51 : (Jvm.Cond.instantiable "PackedNumbers$Euclid" (4 : Nat)) ∈ pn_all := pn_in1 51 rfl rfl
theorem kn_52 : (Jvm.Cond.methodLinkNest "PackedNumbers" (18 : Nat) ({ cls := "PackedNumbers$Euclid", name := "<init>", desc := "()V" } : Jvm.MethodName) "PackedNumbers") ∈ pn_nest := pn_inN1 52 rfl rfl
theorem kw_53 : (Jvm.Cond.instanceMethod ({ cls := "PackedNumbers$Euclid", name := "<init>", desc := "()V" } : Jvm.MethodName)) ∈ pn_all := pn_in1 53 rfl rfl
theorem kw_54 : (Jvm.Cond.code ({ cls := "PackedNumbers$Euclid", name := "<init>", desc := "()V" } : Jvm.MethodName) prog_3_method_1_code (1 : Nat) (Option.none : Option Jvm.ClassFile.FieldType)) ∈ pn_all := pn_in1 54 rfl rfl
theorem kw_55 : (Jvm.Cond.methodLink "PackedNumbers$Euclid" (3 : Nat) ({ cls := "java/lang/Object", name := "<init>", desc := "()V" } : Jvm.MethodName)) ∈ pn_all := pn_in1 55 rfl rfl
theorem kw_56 : (Jvm.Cond.fieldLink "PackedNumbers$Euclid" (9 : Nat) "PackedNumbers$Euclid" "a" "J") ∈ pn_all := pn_in1 56 rfl rfl
theorem kw_57 : (Jvm.Cond.fieldLink "PackedNumbers$Euclid" (15 : Nat) "PackedNumbers$Euclid" "b" "J") ∈ pn_all := pn_in1 57 rfl rfl
theorem kw_58 : (Jvm.Cond.fieldLink "PackedNumbers$Euclid" (18 : Nat) "PackedNumbers$Euclid" "c" "J") ∈ pn_all := pn_in1 58 rfl rfl
theorem kw_59 : (Jvm.Cond.fieldLink "PackedNumbers$Euclid" (21 : Nat) "PackedNumbers$Euclid" "d" "J") ∈ pn_all := pn_in1 59 rfl rfl
theorem kw_69 : (Jvm.Cond.classLink "PackedNumbers" (23 : Nat) "PackedNumbers$Text") ∈ pn_all := pn_in1 69 rfl rfl
theorem kw_70 : (Jvm.Cond.instantiable "PackedNumbers$Text" (2 : Nat)) ∈ pn_all := pn_in1 70 rfl rfl
theorem kn_71 : (Jvm.Cond.methodLinkNest "PackedNumbers" (25 : Nat) ({ cls := "PackedNumbers$Text", name := "<init>", desc := "()V" } : Jvm.MethodName) "PackedNumbers") ∈ pn_nest := pn_inN1 71 rfl rfl
theorem kw_72 : (Jvm.Cond.instanceMethod ({ cls := "PackedNumbers$Text", name := "<init>", desc := "()V" } : Jvm.MethodName)) ∈ pn_all := pn_in1 72 rfl rfl
theorem kw_73 : (Jvm.Cond.code ({ cls := "PackedNumbers$Text", name := "<init>", desc := "()V" } : Jvm.MethodName) prog_6_method_1_code (1 : Nat) (Option.none : Option Jvm.ClassFile.FieldType)) ∈ pn_all := pn_in1 73 rfl rfl
theorem kw_74 : (Jvm.Cond.methodLink "PackedNumbers$Text" (5 : Nat) ({ cls := "java/lang/Object", name := "<init>", desc := "()V" } : Jvm.MethodName)) ∈ pn_all := pn_in1 74 rfl rfl
theorem kw_75 : (Jvm.Cond.fieldLink "PackedNumbers$Text" (11 : Nat) "PackedNumbers$Text" "characters" "[B") ∈ pn_all := pn_in1 75 rfl rfl
theorem kw_76 : (Jvm.Cond.fieldLink "PackedNumbers$Text" (15 : Nat) "PackedNumbers$Text" "start" "I") ∈ pn_all := pn_in1 76 rfl rfl
theorem kw_82 : (Jvm.Cond.arrayClass Jvm.ClassFile.FieldType.byte) ∈ pn_all := pn_in1 82 rfl rfl
theorem kw_83 : (Jvm.Cond.classLink "PackedNumbers" (30 : Nat) "PackedNumbers$Row") ∈ pn_all := pn_in1 83 rfl rfl
theorem kw_84 : (Jvm.Cond.instantiable "PackedNumbers$Row" (3 : Nat)) ∈ pn_all := pn_in1 84 rfl rfl
theorem kn_85 : (Jvm.Cond.methodLinkNest "PackedNumbers" (32 : Nat) ({ cls := "PackedNumbers$Row", name := "<init>", desc := "()V" } : Jvm.MethodName) "PackedNumbers") ∈ pn_nest := pn_inN1 85 rfl rfl
theorem kw_86 : (Jvm.Cond.instanceMethod ({ cls := "PackedNumbers$Row", name := "<init>", desc := "()V" } : Jvm.MethodName)) ∈ pn_all := pn_in1 86 rfl rfl
theorem kw_87 : (Jvm.Cond.code ({ cls := "PackedNumbers$Row", name := "<init>", desc := "()V" } : Jvm.MethodName) prog_4_method_1_code (1 : Nat) (Option.none : Option Jvm.ClassFile.FieldType)) ∈ pn_all := pn_in1 87 rfl rfl
theorem kw_88 : (Jvm.Cond.methodLink "PackedNumbers$Row" (3 : Nat) ({ cls := "java/lang/Object", name := "<init>", desc := "()V" } : Jvm.MethodName)) ∈ pn_all := pn_in1 88 rfl rfl
theorem kw_89 : (Jvm.Cond.fieldLink "PackedNumbers$Row" (9 : Nat) "PackedNumbers$Row" "limbs" "[I") ∈ pn_all := pn_in1 89 rfl rfl
theorem kn_90 : (Jvm.Cond.fieldLinkNest "PackedNumbers$Store" (29 : Nat) "PackedNumbers$Row" "limbs" "[I" "PackedNumbers") ∈ pn_nest := pn_inN1 90 rfl rfl
theorem kn_91 : (Jvm.Cond.fieldLinkNest "PackedNumbers$Division" (49 : Nat) "PackedNumbers$Row" "limbs" "[I" "PackedNumbers") ∈ pn_nest := pn_inN1 91 rfl rfl
theorem kn_92 : (Jvm.Cond.fieldLinkNest "PackedNumbers$Euclid" (77 : Nat) "PackedNumbers$Row" "limbs" "[I" "PackedNumbers") ∈ pn_nest := pn_inN1 92 rfl rfl
theorem kw_93 : (Jvm.Cond.fieldLink "PackedNumbers$Row" (15 : Nat) "PackedNumbers$Row" "count" "I") ∈ pn_all := pn_in1 93 rfl rfl
theorem kn_94 : (Jvm.Cond.fieldLinkNest "PackedNumbers$Text" (25 : Nat) "PackedNumbers$Row" "count" "I" "PackedNumbers") ∈ pn_nest := pn_inN1 94 rfl rfl
theorem kn_95 : (Jvm.Cond.fieldLinkNest "PackedNumbers$Division" (23 : Nat) "PackedNumbers$Row" "count" "I" "PackedNumbers") ∈ pn_nest := pn_inN1 95 rfl rfl
theorem kn_96 : (Jvm.Cond.fieldLinkNest "PackedNumbers$Store" (40 : Nat) "PackedNumbers$Row" "count" "I" "PackedNumbers") ∈ pn_nest := pn_inN1 96 rfl rfl
theorem kn_97 : (Jvm.Cond.fieldLinkNest "PackedNumbers$Euclid" (31 : Nat) "PackedNumbers$Row" "count" "I" "PackedNumbers") ∈ pn_nest := pn_inN1 97 rfl rfl
theorem kn_98 : (Jvm.Cond.fieldLinkNest "PackedNumbers" (121 : Nat) "PackedNumbers$Row" "count" "I" "PackedNumbers") ∈ pn_nest := pn_inN1 98 rfl rfl
theorem kw_99 : (Jvm.Cond.fieldLink "PackedNumbers$Row" (19 : Nat) "PackedNumbers$Row" "below" "Z") ∈ pn_all := pn_in1 99 rfl rfl
theorem kn_100 : (Jvm.Cond.fieldLinkNest "PackedNumbers$Text" (19 : Nat) "PackedNumbers$Row" "below" "Z" "PackedNumbers") ∈ pn_nest := pn_inN1 100 rfl rfl
theorem kn_101 : (Jvm.Cond.fieldLinkNest "PackedNumbers$Division" (19 : Nat) "PackedNumbers$Row" "below" "Z" "PackedNumbers") ∈ pn_nest := pn_inN1 101 rfl rfl
theorem kn_102 : (Jvm.Cond.fieldLinkNest "PackedNumbers$Store" (43 : Nat) "PackedNumbers$Row" "below" "Z" "PackedNumbers") ∈ pn_nest := pn_inN1 102 rfl rfl
theorem kn_103 : (Jvm.Cond.fieldLinkNest "PackedNumbers$Euclid" (63 : Nat) "PackedNumbers$Row" "below" "Z" "PackedNumbers") ∈ pn_nest := pn_inN1 103 rfl rfl
theorem kn_104 : (Jvm.Cond.fieldLinkNest "PackedNumbers" (111 : Nat) "PackedNumbers$Row" "below" "Z" "PackedNumbers") ∈ pn_nest := pn_inN1 104 rfl rfl
theorem kw_112 : (Jvm.Cond.fieldLink "PackedNumbers" (12 : Nat) "PackedNumbers" "store" "LPackedNumbers$Store;") ∈ pn_all := pn_in1 112 rfl rfl
theorem kw_113 : (Jvm.Cond.fieldLink "PackedNumbers" (19 : Nat) "PackedNumbers" "euclid" "LPackedNumbers$Euclid;") ∈ pn_all := pn_in1 113 rfl rfl
theorem kw_114 : (Jvm.Cond.fieldLink "PackedNumbers" (26 : Nat) "PackedNumbers" "text" "LPackedNumbers$Text;") ∈ pn_all := pn_in1 114 rfl rfl
theorem kw_115 : (Jvm.Cond.fieldLink "PackedNumbers" (33 : Nat) "PackedNumbers" "first" "LPackedNumbers$Row;") ∈ pn_all := pn_in1 115 rfl rfl
theorem kw_116 : (Jvm.Cond.fieldLink "PackedNumbers" (37 : Nat) "PackedNumbers" "second" "LPackedNumbers$Row;") ∈ pn_all := pn_in1 116 rfl rfl
theorem kw_117 : (Jvm.Cond.fieldLink "PackedNumbers" (40 : Nat) "PackedNumbers" "third" "LPackedNumbers$Row;") ∈ pn_all := pn_in1 117 rfl rfl
theorem kw_118 : (Jvm.Cond.fieldLink "PackedNumbers" (43 : Nat) "PackedNumbers" "fourth" "LPackedNumbers$Row;") ∈ pn_all := pn_in1 118 rfl rfl
theorem kw_134 : (Jvm.Cond.methodLink "PackedNumbersLaw" (155 : Nat) ({ cls := "PackedNumbers", name := "character", desc := "(I)I" } : Jvm.MethodName)) ∈ pn_all := pn_in1 134 rfl rfl
theorem kw_135 : (Jvm.Cond.instanceMethod ({ cls := "PackedNumbers", name := "character", desc := "(I)I" } : Jvm.MethodName)) ∈ pn_all := pn_in1 135 rfl rfl
theorem kw_136 : (Jvm.Cond.selects "PackedNumbers" ({ cls := "PackedNumbers", name := "character", desc := "(I)I" } : Jvm.MethodName) ({ cls := "PackedNumbers", name := "character", desc := "(I)I" } : Jvm.MethodName)) ∈ pn_all := pn_in1 136 rfl rfl
theorem kw_137 : (Jvm.Cond.code ({ cls := "PackedNumbers", name := "character", desc := "(I)I" } : Jvm.MethodName) prog_1_method_21_code (2 : Nat) (Option.some Jvm.ClassFile.FieldType.int)) ∈ pn_all := pn_in1 137 rfl rfl
theorem kn_138 : (Jvm.Cond.methodLinkNest "PackedNumbers" (185 : Nat) ({ cls := "PackedNumbers$Text", name := "at", desc := "(I)I" } : Jvm.MethodName) "PackedNumbers") ∈ pn_nest := pn_inN1 138 rfl rfl
theorem kw_140 : (Jvm.Cond.instanceMethod ({ cls := "PackedNumbers$Text", name := "at", desc := "(I)I" } : Jvm.MethodName)) ∈ pn_all := pn_in1 140 rfl rfl
theorem kw_141 : (Jvm.Cond.code ({ cls := "PackedNumbers$Text", name := "at", desc := "(I)I" } : Jvm.MethodName) prog_6_method_5_code (2 : Nat) (Option.some Jvm.ClassFile.FieldType.int)) ∈ pn_all := pn_in1 141 rfl rfl
theorem kw_142 : (Jvm.Cond.methodLink "PackedNumbersLaw" (86 : Nat) ({ cls := "PackedNumbersLaw", name := "set", desc := "(LPackedNumbers;IJ[J)I" } : Jvm.MethodName)) ∈ pn_all := pn_in1 142 rfl rfl
theorem kw_143 : (Jvm.Cond.static ({ cls := "PackedNumbersLaw", name := "set", desc := "(LPackedNumbers;IJ[J)I" } : Jvm.MethodName)) ∈ pn_all := pn_in1 143 rfl rfl
theorem kw_144 : (Jvm.Cond.codeWith ({ cls := "PackedNumbersLaw", name := "set", desc := "(LPackedNumbers;IJ[J)I" } : Jvm.MethodName) method_3_code (6 : Nat) (Option.some Jvm.ClassFile.FieldType.int) [((0 : Nat), (11 : Nat), (14 : Nat), (13 : Nat))]) ∈ pn_all := pn_in1 144 rfl rfl
theorem kw_145 : (Jvm.Cond.classLink "PackedNumbersLaw" (13 : Nat) "java/lang/IndexOutOfBoundsException") ∈ pn_all := pn_in1 145 rfl rfl
theorem kw_146 : (Jvm.Cond.methodLink "PackedNumbersLaw" (7 : Nat) ({ cls := "PackedNumbers", name := "set", desc := "(IJ)I" } : Jvm.MethodName)) ∈ pn_all := pn_in1 146 rfl rfl
theorem kw_147 : (Jvm.Cond.instanceMethod ({ cls := "PackedNumbers", name := "set", desc := "(IJ)I" } : Jvm.MethodName)) ∈ pn_all := pn_in1 147 rfl rfl
theorem kw_148 : (Jvm.Cond.selects "PackedNumbers" ({ cls := "PackedNumbers", name := "set", desc := "(IJ)I" } : Jvm.MethodName) ({ cls := "PackedNumbers", name := "set", desc := "(IJ)I" } : Jvm.MethodName)) ∈ pn_all := pn_in1 148 rfl rfl
theorem kw_149 : (Jvm.Cond.code ({ cls := "PackedNumbers", name := "set", desc := "(IJ)I" } : Jvm.MethodName) prog_1_method_2_code (4 : Nat) (Option.some Jvm.ClassFile.FieldType.int)) ∈ pn_all := pn_in1 149 rfl rfl
theorem kw_150 : (Jvm.Cond.methodLink "PackedNumbers" (46 : Nat) ({ cls := "PackedNumbers", name := "needRegister", desc := "(I)V" } : Jvm.MethodName)) ∈ pn_all := pn_in1 150 rfl rfl
theorem kw_152 : (Jvm.Cond.instanceMethod ({ cls := "PackedNumbers", name := "needRegister", desc := "(I)V" } : Jvm.MethodName)) ∈ pn_all := pn_in1 152 rfl rfl
theorem kw_153 : (Jvm.Cond.code ({ cls := "PackedNumbers", name := "needRegister", desc := "(I)V" } : Jvm.MethodName) prog_1_method_22_code (2 : Nat) (Option.none : Option Jvm.ClassFile.FieldType)) ∈ pn_all := pn_in1 153 rfl rfl
theorem kw_154 : (Jvm.Cond.classLink "PackedNumbers" (167 : Nat) "java/lang/IndexOutOfBoundsException") ∈ pn_all := pn_in1 154 rfl rfl
theorem kw_155 : (Jvm.Cond.instantiable "java/lang/IndexOutOfBoundsException" (6 : Nat)) ∈ pn_all := pn_in1 155 rfl rfl
theorem kw_163 : (Jvm.Cond.selects "java/lang/IndexOutOfBoundsException" ({ cls := "java/lang/Throwable", name := "fillInStackTrace", desc := "(I)Ljava/lang/Throwable;" } : Jvm.MethodName) ({ cls := "java/lang/Throwable", name := "fillInStackTrace", desc := "(I)Ljava/lang/Throwable;" } : Jvm.MethodName)) ∈ pn_all := pn_in1 163 rfl rfl
theorem kw_164 : (Jvm.Cond.selects "java/lang/IndexOutOfBoundsException" ({ cls := "java/lang/Throwable", name := "fillInStackTrace", desc := "()Ljava/lang/Throwable;" } : Jvm.MethodName) ({ cls := "java/lang/Throwable", name := "fillInStackTrace", desc := "()Ljava/lang/Throwable;" } : Jvm.MethodName)) ∈ pn_all := pn_in1 164 rfl rfl
theorem kw_175 : (Jvm.Cond.fieldLink "java/lang/Throwable" (198 : Nat) "java/lang/Throwable" "backtrace" "Ljava/lang/Object;") ∈ pn_all := pn_in1 175 rfl rfl
theorem kw_177 : (Jvm.Cond.instanceMethod ({ cls := "java/lang/Throwable", name := "<init>", desc := "()V" } : Jvm.MethodName)) ∈ pn_all := pn_in1 177 rfl rfl
theorem kw_178 : (Jvm.Cond.code ({ cls := "java/lang/Throwable", name := "<init>", desc := "()V" } : Jvm.MethodName) prog_18_method_1_code (1 : Nat) (Option.none : Option Jvm.ClassFile.FieldType)) ∈ pn_all := pn_in1 178 rfl rfl
theorem kw_179 : (Jvm.Cond.methodLink "java/lang/Throwable" (1 : Nat) ({ cls := "java/lang/Object", name := "<init>", desc := "()V" } : Jvm.MethodName)) ∈ pn_all := pn_in1 179 rfl rfl
theorem kw_180 : (Jvm.Cond.fieldLink "java/lang/Throwable" (13 : Nat) "java/lang/Throwable" "UNASSIGNED_STACK" "[Ljava/lang/StackTraceElement;") ∈ pn_all := pn_in1 180 rfl rfl
theorem kw_182 : (Jvm.Cond.fieldLink "java/lang/Throwable" (20 : Nat) "java/lang/Throwable" "SUPPRESSED_SENTINEL" "Ljava/util/List;") ∈ pn_all := pn_in1 182 rfl rfl
theorem kw_184 : (Jvm.Cond.methodLink "java/lang/Throwable" (27 : Nat) ({ cls := "java/lang/Throwable", name := "fillInStackTrace", desc := "()Ljava/lang/Throwable;" } : Jvm.MethodName)) ∈ pn_all := pn_in1 184 rfl rfl
theorem kw_185 : (Jvm.Cond.instanceMethod ({ cls := "java/lang/Throwable", name := "fillInStackTrace", desc := "()Ljava/lang/Throwable;" } : Jvm.MethodName)) ∈ pn_all := pn_in1 185 rfl rfl
theorem kw_187 : (Jvm.Cond.selects "java/lang/ArithmeticException" ({ cls := "java/lang/Throwable", name := "fillInStackTrace", desc := "()Ljava/lang/Throwable;" } : Jvm.MethodName) ({ cls := "java/lang/Throwable", name := "fillInStackTrace", desc := "()Ljava/lang/Throwable;" } : Jvm.MethodName)) ∈ pn_all := pn_in1 187 rfl rfl
theorem kw_188 : (Jvm.Cond.selects "java/lang/IllegalArgumentException" ({ cls := "java/lang/Throwable", name := "fillInStackTrace", desc := "()Ljava/lang/Throwable;" } : Jvm.MethodName) ({ cls := "java/lang/Throwable", name := "fillInStackTrace", desc := "()Ljava/lang/Throwable;" } : Jvm.MethodName)) ∈ pn_all := pn_in1 188 rfl rfl
theorem kw_189 : (Jvm.Cond.selects "java/lang/UnsupportedOperationException" ({ cls := "java/lang/Throwable", name := "fillInStackTrace", desc := "()Ljava/lang/Throwable;" } : Jvm.MethodName) ({ cls := "java/lang/Throwable", name := "fillInStackTrace", desc := "()Ljava/lang/Throwable;" } : Jvm.MethodName)) ∈ pn_all := pn_in1 189 rfl rfl
theorem kw_191 : (Jvm.Cond.methodLink "java/lang/Throwable" (202 : Nat) ({ cls := "java/lang/Throwable", name := "fillInStackTrace", desc := "(I)Ljava/lang/Throwable;" } : Jvm.MethodName)) ∈ pn_all := pn_in1 191 rfl rfl
theorem kw_193 : (Jvm.Cond.instanceMethod ({ cls := "java/lang/Throwable", name := "fillInStackTrace", desc := "(I)Ljava/lang/Throwable;" } : Jvm.MethodName)) ∈ pn_all := pn_in1 193 rfl rfl
theorem kw_194 : (Jvm.Cond.instantiable "java/lang/Throwable" (6 : Nat)) ∈ pn_all := pn_in1 194 rfl rfl
theorem kw_195 : (Jvm.Cond.native ({ cls := "java/lang/Throwable", name := "fillInStackTrace", desc := "(I)Ljava/lang/Throwable;" } : Jvm.MethodName)) ∈ pn_all := pn_in1 195 rfl rfl
theorem kw_197 : (Jvm.Cond.methodLink "PackedNumbers" (171 : Nat) ({ cls := "java/lang/IndexOutOfBoundsException", name := "<init>", desc := "(Ljava/lang/String;)V" } : Jvm.MethodName)) ∈ pn_all := pn_in1 197 rfl rfl
theorem kw_198 : (Jvm.Cond.instanceMethod ({ cls := "java/lang/IndexOutOfBoundsException", name := "<init>", desc := "(Ljava/lang/String;)V" } : Jvm.MethodName)) ∈ pn_all := pn_in1 198 rfl rfl
theorem kw_199 : (Jvm.Cond.code ({ cls := "java/lang/IndexOutOfBoundsException", name := "<init>", desc := "(Ljava/lang/String;)V" } : Jvm.MethodName) prog_12_method_2_code (2 : Nat) (Option.none : Option Jvm.ClassFile.FieldType)) ∈ pn_all := pn_in1 199 rfl rfl
theorem kw_200 : (Jvm.Cond.methodLink "java/lang/IndexOutOfBoundsException" (7 : Nat) ({ cls := "java/lang/RuntimeException", name := "<init>", desc := "(Ljava/lang/String;)V" } : Jvm.MethodName)) ∈ pn_all := pn_in1 200 rfl rfl
theorem kw_201 : (Jvm.Cond.instanceMethod ({ cls := "java/lang/RuntimeException", name := "<init>", desc := "(Ljava/lang/String;)V" } : Jvm.MethodName)) ∈ pn_all := pn_in1 201 rfl rfl
theorem kw_202 : (Jvm.Cond.code ({ cls := "java/lang/RuntimeException", name := "<init>", desc := "(Ljava/lang/String;)V" } : Jvm.MethodName) prog_15_method_2_code (2 : Nat) (Option.none : Option Jvm.ClassFile.FieldType)) ∈ pn_all := pn_in1 202 rfl rfl
theorem kw_203 : (Jvm.Cond.methodLink "java/lang/RuntimeException" (7 : Nat) ({ cls := "java/lang/Exception", name := "<init>", desc := "(Ljava/lang/String;)V" } : Jvm.MethodName)) ∈ pn_all := pn_in1 203 rfl rfl
theorem kw_204 : (Jvm.Cond.instanceMethod ({ cls := "java/lang/Exception", name := "<init>", desc := "(Ljava/lang/String;)V" } : Jvm.MethodName)) ∈ pn_all := pn_in1 204 rfl rfl
theorem kw_205 : (Jvm.Cond.code ({ cls := "java/lang/Exception", name := "<init>", desc := "(Ljava/lang/String;)V" } : Jvm.MethodName) prog_10_method_2_code (2 : Nat) (Option.none : Option Jvm.ClassFile.FieldType)) ∈ pn_all := pn_in1 205 rfl rfl
theorem kw_206 : (Jvm.Cond.methodLink "java/lang/Exception" (7 : Nat) ({ cls := "java/lang/Throwable", name := "<init>", desc := "(Ljava/lang/String;)V" } : Jvm.MethodName)) ∈ pn_all := pn_in1 206 rfl rfl
theorem kw_207 : (Jvm.Cond.instanceMethod ({ cls := "java/lang/Throwable", name := "<init>", desc := "(Ljava/lang/String;)V" } : Jvm.MethodName)) ∈ pn_all := pn_in1 207 rfl rfl
theorem kw_208 : (Jvm.Cond.code ({ cls := "java/lang/Throwable", name := "<init>", desc := "(Ljava/lang/String;)V" } : Jvm.MethodName) prog_18_method_2_code (2 : Nat) (Option.none : Option Jvm.ClassFile.FieldType)) ∈ pn_all := pn_in1 208 rfl rfl
theorem kw_209 : (Jvm.Cond.fieldLink "java/lang/Throwable" (198 : Nat) "java/lang/Throwable" "backtrace" "Ljava/lang/Object;") ∈ pn_all := pn_in1 209 rfl rfl
theorem kw_210 : (Jvm.Cond.fieldLink "java/lang/Throwable" (31 : Nat) "java/lang/Throwable" "detailMessage" "Ljava/lang/String;") ∈ pn_all := pn_in1 210 rfl rfl
theorem kw_211 : (Jvm.Cond.fieldLink "java/lang/Throwable" (7 : Nat) "java/lang/Throwable" "cause" "Ljava/lang/Throwable;") ∈ pn_all := pn_in1 211 rfl rfl
theorem kw_212 : (Jvm.Cond.fieldLink "java/lang/Throwable" (17 : Nat) "java/lang/Throwable" "stackTrace" "[Ljava/lang/StackTraceElement;") ∈ pn_all := pn_in1 212 rfl rfl
theorem kw_213 : (Jvm.Cond.fieldLink "java/lang/Throwable" (24 : Nat) "java/lang/Throwable" "suppressedExceptions" "Ljava/util/List;") ∈ pn_all := pn_in1 213 rfl rfl
theorem kn_222 : (Jvm.Cond.methodLinkNest "PackedNumbers" (50 : Nat) ({ cls := "PackedNumbers$Row", name := "become", desc := "(J)V" } : Jvm.MethodName) "PackedNumbers") ∈ pn_nest := pn_inN1 222 rfl rfl
theorem kw_224 : (Jvm.Cond.instanceMethod ({ cls := "PackedNumbers$Row", name := "become", desc := "(J)V" } : Jvm.MethodName)) ∈ pn_all := pn_in1 224 rfl rfl
theorem kw_225 : (Jvm.Cond.code ({ cls := "PackedNumbers$Row", name := "become", desc := "(J)V" } : Jvm.MethodName) prog_4_method_2_code (5 : Nat) (Option.none : Option Jvm.ClassFile.FieldType)) ∈ pn_all := pn_in1 225 rfl rfl
theorem kw_226 : (Jvm.Cond.methodLink "PackedNumbers$Row" (23 : Nat) ({ cls := "PackedNumbers$Row", name := "fit", desc := "(I)V" } : Jvm.MethodName)) ∈ pn_all := pn_in1 226 rfl rfl
theorem kw_228 : (Jvm.Cond.instanceMethod ({ cls := "PackedNumbers$Row", name := "fit", desc := "(I)V" } : Jvm.MethodName)) ∈ pn_all := pn_in1 228 rfl rfl
theorem kw_229 : (Jvm.Cond.code ({ cls := "PackedNumbers$Row", name := "fit", desc := "(I)V" } : Jvm.MethodName) prog_4_method_4_code (3 : Nat) (Option.none : Option Jvm.ClassFile.FieldType)) ∈ pn_all := pn_in1 229 rfl rfl
theorem kw_230 : (Jvm.Cond.methodLink "PackedNumbers" (54 : Nat) ({ cls := "PackedNumbers", name := "keep", desc := "(ILPackedNumbers$Row;)I" } : Jvm.MethodName)) ∈ pn_all := pn_in1 230 rfl rfl
theorem kw_232 : (Jvm.Cond.instanceMethod ({ cls := "PackedNumbers", name := "keep", desc := "(ILPackedNumbers$Row;)I" } : Jvm.MethodName)) ∈ pn_all := pn_in1 232 rfl rfl
theorem kw_233 : (Jvm.Cond.code ({ cls := "PackedNumbers", name := "keep", desc := "(ILPackedNumbers$Row;)I" } : Jvm.MethodName) prog_1_method_29_code (4 : Nat) (Option.some Jvm.ClassFile.FieldType.int)) ∈ pn_all := pn_in1 233 rfl rfl
theorem kn_234 : (Jvm.Cond.methodLinkNest "PackedNumbers" (164 : Nat) ({ cls := "PackedNumbers$Row", name := "bits", desc := "()I" } : Jvm.MethodName) "PackedNumbers") ∈ pn_nest := pn_inN1 234 rfl rfl
theorem kw_236 : (Jvm.Cond.instanceMethod ({ cls := "PackedNumbers$Row", name := "bits", desc := "()I" } : Jvm.MethodName)) ∈ pn_all := pn_in1 236 rfl rfl
theorem kw_237 : (Jvm.Cond.code ({ cls := "PackedNumbers$Row", name := "bits", desc := "()I" } : Jvm.MethodName) prog_4_method_7_code (1 : Nat) (Option.some Jvm.ClassFile.FieldType.int)) ∈ pn_all := pn_in1 237 rfl rfl
theorem kw_238 : (Jvm.Cond.methodLink "PackedNumbers$Row" (33 : Nat) ({ cls := "java/lang/Integer", name := "numberOfLeadingZeros", desc := "(I)I" } : Jvm.MethodName)) ∈ pn_all := pn_in1 238 rfl rfl
theorem kw_239 : (Jvm.Cond.static ({ cls := "java/lang/Integer", name := "numberOfLeadingZeros", desc := "(I)I" } : Jvm.MethodName)) ∈ pn_all := pn_in1 239 rfl rfl
theorem kw_240 : (Jvm.Cond.code ({ cls := "java/lang/Integer", name := "numberOfLeadingZeros", desc := "(I)I" } : Jvm.MethodName) prog_13_method_47_code (2 : Nat) (Option.some Jvm.ClassFile.FieldType.int)) ∈ pn_all := pn_in2 0 rfl rfl
theorem kw_241 : (Jvm.Cond.constant "java/lang/Integer" (264 : Nat) (65536 : Int32)) ∈ pn_all := pn_in2 1 rfl rfl
theorem kw_242 : (Jvm.Cond.methodLink "PackedNumbers" (90 : Nat) ({ cls := "PackedNumbers", name := "needLength", desc := "(I)V" } : Jvm.MethodName)) ∈ pn_all := pn_in2 2 rfl rfl
theorem kw_244 : (Jvm.Cond.instanceMethod ({ cls := "PackedNumbers", name := "needLength", desc := "(I)V" } : Jvm.MethodName)) ∈ pn_all := pn_in2 4 rfl rfl
theorem kw_245 : (Jvm.Cond.code ({ cls := "PackedNumbers", name := "needLength", desc := "(I)V" } : Jvm.MethodName) prog_1_method_24_code (2 : Nat) (Option.none : Option Jvm.ClassFile.FieldType)) ∈ pn_all := pn_in2 5 rfl rfl
theorem kw_246 : (Jvm.Cond.classLink "PackedNumbers" (190 : Nat) "java/lang/UnsupportedOperationException") ∈ pn_all := pn_in2 6 rfl rfl
theorem kw_247 : (Jvm.Cond.instantiable "java/lang/UnsupportedOperationException" (6 : Nat)) ∈ pn_all := pn_in2 7 rfl rfl
theorem kw_249 : (Jvm.Cond.selects "java/lang/UnsupportedOperationException" ({ cls := "java/lang/Throwable", name := "fillInStackTrace", desc := "(I)Ljava/lang/Throwable;" } : Jvm.MethodName) ({ cls := "java/lang/Throwable", name := "fillInStackTrace", desc := "(I)Ljava/lang/Throwable;" } : Jvm.MethodName)) ∈ pn_all := pn_in2 9 rfl rfl
theorem kw_256 : (Jvm.Cond.methodLink "PackedNumbers" (194 : Nat) ({ cls := "java/lang/UnsupportedOperationException", name := "<init>", desc := "(Ljava/lang/String;)V" } : Jvm.MethodName)) ∈ pn_all := pn_in2 16 rfl rfl
theorem kw_257 : (Jvm.Cond.instanceMethod ({ cls := "java/lang/UnsupportedOperationException", name := "<init>", desc := "(Ljava/lang/String;)V" } : Jvm.MethodName)) ∈ pn_all := pn_in2 17 rfl rfl
theorem kw_258 : (Jvm.Cond.code ({ cls := "java/lang/UnsupportedOperationException", name := "<init>", desc := "(Ljava/lang/String;)V" } : Jvm.MethodName) prog_19_method_2_code (2 : Nat) (Option.none : Option Jvm.ClassFile.FieldType)) ∈ pn_all := pn_in2 18 rfl rfl
theorem kw_259 : (Jvm.Cond.methodLink "java/lang/UnsupportedOperationException" (7 : Nat) ({ cls := "java/lang/RuntimeException", name := "<init>", desc := "(Ljava/lang/String;)V" } : Jvm.MethodName)) ∈ pn_all := pn_in2 19 rfl rfl
theorem kn_262 : (Jvm.Cond.methodLinkNest "PackedNumbers" (197 : Nat) ({ cls := "PackedNumbers$Store", name := "write", desc := "(ILPackedNumbers$Row;)V" } : Jvm.MethodName) "PackedNumbers") ∈ pn_nest := pn_inN2 22 rfl rfl
theorem kw_264 : (Jvm.Cond.instanceMethod ({ cls := "PackedNumbers$Store", name := "write", desc := "(ILPackedNumbers$Row;)V" } : Jvm.MethodName)) ∈ pn_all := pn_in2 24 rfl rfl
theorem kw_265 : (Jvm.Cond.code ({ cls := "PackedNumbers$Store", name := "write", desc := "(ILPackedNumbers$Row;)V" } : Jvm.MethodName) prog_5_method_3_code (3 : Nat) (Option.none : Option Jvm.ClassFile.FieldType)) ∈ pn_all := pn_in2 25 rfl rfl
theorem kw_266 : (Jvm.Cond.methodLink "PackedNumbers$Store" (47 : Nat) ({ cls := "PackedNumbers$Store", name := "pack", desc := "()V" } : Jvm.MethodName)) ∈ pn_all := pn_in2 26 rfl rfl
theorem kw_268 : (Jvm.Cond.instanceMethod ({ cls := "PackedNumbers$Store", name := "pack", desc := "()V" } : Jvm.MethodName)) ∈ pn_all := pn_in2 28 rfl rfl
theorem kw_269 : (Jvm.Cond.code ({ cls := "PackedNumbers$Store", name := "pack", desc := "()V" } : Jvm.MethodName) prog_5_method_6_code (6 : Nat) (Option.none : Option Jvm.ClassFile.FieldType)) ∈ pn_all := pn_in2 29 rfl rfl
theorem kw_270 : (Jvm.Cond.methodLink "PackedNumbers$Store" (50 : Nat) ({ cls := "PackedNumbers$Store", name := "firstFrom", desc := "(I)I" } : Jvm.MethodName)) ∈ pn_all := pn_in2 30 rfl rfl
theorem kw_272 : (Jvm.Cond.instanceMethod ({ cls := "PackedNumbers$Store", name := "firstFrom", desc := "(I)I" } : Jvm.MethodName)) ∈ pn_all := pn_in2 32 rfl rfl
theorem kw_273 : (Jvm.Cond.code ({ cls := "PackedNumbers$Store", name := "firstFrom", desc := "(I)I" } : Jvm.MethodName) prog_5_method_7_code (5 : Nat) (Option.some Jvm.ClassFile.FieldType.int)) ∈ pn_all := pn_in2 33 rfl rfl
theorem kw_274 : (Jvm.Cond.methodLink "PackedNumbers$Store" (34 : Nat) ({ cls := "java/lang/System", name := "arraycopy", desc := "(Ljava/lang/Object;ILjava/lang/Object;II)V" } : Jvm.MethodName)) ∈ pn_all := pn_in2 34 rfl rfl
theorem kw_275 : (Jvm.Cond.static ({ cls := "java/lang/System", name := "arraycopy", desc := "(Ljava/lang/Object;ILjava/lang/Object;II)V" } : Jvm.MethodName)) ∈ pn_all := pn_in2 35 rfl rfl
theorem kw_276 : (Jvm.Cond.native ({ cls := "java/lang/System", name := "arraycopy", desc := "(Ljava/lang/Object;ILjava/lang/Object;II)V" } : Jvm.MethodName)) ∈ pn_all := pn_in2 36 rfl rfl
theorem kw_277 : (Jvm.Cond.methodLink "PackedNumbersLaw" (96 : Nat) ({ cls := "PackedNumbersLaw", name := "push", desc := "(LPackedNumbers;II[J)I" } : Jvm.MethodName)) ∈ pn_all := pn_in2 37 rfl rfl
theorem kw_278 : (Jvm.Cond.static ({ cls := "PackedNumbersLaw", name := "push", desc := "(LPackedNumbers;II[J)I" } : Jvm.MethodName)) ∈ pn_all := pn_in2 38 rfl rfl
theorem kw_279 : (Jvm.Cond.codeWith ({ cls := "PackedNumbersLaw", name := "push", desc := "(LPackedNumbers;II[J)I" } : Jvm.MethodName) method_4_code (5 : Nat) (Option.some Jvm.ClassFile.FieldType.int) [((0 : Nat), (10 : Nat), (13 : Nat), (13 : Nat)), ((0 : Nat), (10 : Nat), (17 : Nat), (19 : Nat))]) ∈ pn_all := pn_in2 39 rfl rfl
theorem kw_280 : (Jvm.Cond.classLink "PackedNumbersLaw" (19 : Nat) "java/lang/UnsupportedOperationException") ∈ pn_all := pn_in2 40 rfl rfl
theorem kw_281 : (Jvm.Cond.methodLink "PackedNumbersLaw" (15 : Nat) ({ cls := "PackedNumbers", name := "push", desc := "(II)I" } : Jvm.MethodName)) ∈ pn_all := pn_in2 41 rfl rfl
theorem kw_282 : (Jvm.Cond.instanceMethod ({ cls := "PackedNumbers", name := "push", desc := "(II)I" } : Jvm.MethodName)) ∈ pn_all := pn_in2 42 rfl rfl
theorem kw_283 : (Jvm.Cond.selects "PackedNumbers" ({ cls := "PackedNumbers", name := "push", desc := "(II)I" } : Jvm.MethodName) ({ cls := "PackedNumbers", name := "push", desc := "(II)I" } : Jvm.MethodName)) ∈ pn_all := pn_in2 43 rfl rfl
theorem kw_284 : (Jvm.Cond.code ({ cls := "PackedNumbers", name := "push", desc := "(II)I" } : Jvm.MethodName) prog_1_method_3_code (3 : Nat) (Option.some Jvm.ClassFile.FieldType.int)) ∈ pn_all := pn_in2 44 rfl rfl
theorem kn_285 : (Jvm.Cond.methodLinkNest "PackedNumbers" (58 : Nat) ({ cls := "PackedNumbers$Store", name := "read", desc := "(ILPackedNumbers$Row;)V" } : Jvm.MethodName) "PackedNumbers") ∈ pn_nest := pn_inN2 45 rfl rfl
theorem kw_287 : (Jvm.Cond.instanceMethod ({ cls := "PackedNumbers$Store", name := "read", desc := "(ILPackedNumbers$Row;)V" } : Jvm.MethodName)) ∈ pn_all := pn_in2 47 rfl rfl
theorem kw_288 : (Jvm.Cond.code ({ cls := "PackedNumbers$Store", name := "read", desc := "(ILPackedNumbers$Row;)V" } : Jvm.MethodName) prog_5_method_2_code (3 : Nat) (Option.none : Option Jvm.ClassFile.FieldType)) ∈ pn_all := pn_in2 48 rfl rfl
theorem kn_289 : (Jvm.Cond.methodLinkNest "PackedNumbers" (62 : Nat) ({ cls := "PackedNumbers$Row", name := "putBelow", desc := "(I)V" } : Jvm.MethodName) "PackedNumbers") ∈ pn_nest := pn_inN2 49 rfl rfl
theorem kw_291 : (Jvm.Cond.instanceMethod ({ cls := "PackedNumbers$Row", name := "putBelow", desc := "(I)V" } : Jvm.MethodName)) ∈ pn_all := pn_in2 51 rfl rfl
theorem kw_292 : (Jvm.Cond.code ({ cls := "PackedNumbers$Row", name := "putBelow", desc := "(I)V" } : Jvm.MethodName) prog_4_method_11_code (3 : Nat) (Option.none : Option Jvm.ClassFile.FieldType)) ∈ pn_all := pn_in2 52 rfl rfl
theorem kw_293 : (Jvm.Cond.methodLink "PackedNumbers$Row" (27 : Nat) ({ cls := "java/lang/System", name := "arraycopy", desc := "(Ljava/lang/Object;ILjava/lang/Object;II)V" } : Jvm.MethodName)) ∈ pn_all := pn_in2 53 rfl rfl
theorem kw_294 : (Jvm.Cond.methodLink "PackedNumbers$Row" (45 : Nat) ({ cls := "PackedNumbers$Row", name := "turnBelowIf", desc := "(Z)V" } : Jvm.MethodName)) ∈ pn_all := pn_in2 54 rfl rfl
theorem kw_296 : (Jvm.Cond.instanceMethod ({ cls := "PackedNumbers$Row", name := "turnBelowIf", desc := "(Z)V" } : Jvm.MethodName)) ∈ pn_all := pn_in2 56 rfl rfl
theorem kw_297 : (Jvm.Cond.code ({ cls := "PackedNumbers$Row", name := "turnBelowIf", desc := "(Z)V" } : Jvm.MethodName) prog_4_method_6_code (2 : Nat) (Option.none : Option Jvm.ClassFile.FieldType)) ∈ pn_all := pn_in2 57 rfl rfl
theorem kw_298 : (Jvm.Cond.methodLink "PackedNumbersLaw" (100 : Nat) ({ cls := "PackedNumbersLaw", name := "copy", desc := "(LPackedNumbers;II[J)I" } : Jvm.MethodName)) ∈ pn_all := pn_in2 58 rfl rfl
theorem kw_299 : (Jvm.Cond.static ({ cls := "PackedNumbersLaw", name := "copy", desc := "(LPackedNumbers;II[J)I" } : Jvm.MethodName)) ∈ pn_all := pn_in2 59 rfl rfl
theorem kw_300 : (Jvm.Cond.codeWith ({ cls := "PackedNumbersLaw", name := "copy", desc := "(LPackedNumbers;II[J)I" } : Jvm.MethodName) method_5_code (5 : Nat) (Option.some Jvm.ClassFile.FieldType.int) [((0 : Nat), (10 : Nat), (13 : Nat), (13 : Nat))]) ∈ pn_all := pn_in2 60 rfl rfl
theorem kw_301 : (Jvm.Cond.methodLink "PackedNumbersLaw" (21 : Nat) ({ cls := "PackedNumbers", name := "copy", desc := "(II)I" } : Jvm.MethodName)) ∈ pn_all := pn_in2 61 rfl rfl
theorem kw_302 : (Jvm.Cond.instanceMethod ({ cls := "PackedNumbers", name := "copy", desc := "(II)I" } : Jvm.MethodName)) ∈ pn_all := pn_in2 62 rfl rfl
theorem kw_303 : (Jvm.Cond.selects "PackedNumbers" ({ cls := "PackedNumbers", name := "copy", desc := "(II)I" } : Jvm.MethodName) ({ cls := "PackedNumbers", name := "copy", desc := "(II)I" } : Jvm.MethodName)) ∈ pn_all := pn_in2 63 rfl rfl
theorem kw_304 : (Jvm.Cond.code ({ cls := "PackedNumbers", name := "copy", desc := "(II)I" } : Jvm.MethodName) prog_1_method_4_code (3 : Nat) (Option.some Jvm.ClassFile.FieldType.int)) ∈ pn_all := pn_in2 64 rfl rfl
theorem kw_305 : (Jvm.Cond.methodLink "PackedNumbers" (65 : Nat) ({ cls := "PackedNumbers", name := "needRegisters", desc := "(II)V" } : Jvm.MethodName)) ∈ pn_all := pn_in2 65 rfl rfl
theorem kw_307 : (Jvm.Cond.instanceMethod ({ cls := "PackedNumbers", name := "needRegisters", desc := "(II)V" } : Jvm.MethodName)) ∈ pn_all := pn_in2 67 rfl rfl
theorem kw_308 : (Jvm.Cond.code ({ cls := "PackedNumbers", name := "needRegisters", desc := "(II)V" } : Jvm.MethodName) prog_1_method_23_code (3 : Nat) (Option.none : Option Jvm.ClassFile.FieldType)) ∈ pn_all := pn_in2 68 rfl rfl
theorem kw_309 : (Jvm.Cond.methodLink "PackedNumbersLaw" (103 : Nat) ({ cls := "PackedNumbersLaw", name := "swap", desc := "(LPackedNumbers;II[J)I" } : Jvm.MethodName)) ∈ pn_all := pn_in2 69 rfl rfl
theorem kw_310 : (Jvm.Cond.static ({ cls := "PackedNumbersLaw", name := "swap", desc := "(LPackedNumbers;II[J)I" } : Jvm.MethodName)) ∈ pn_all := pn_in2 70 rfl rfl
theorem kw_311 : (Jvm.Cond.codeWith ({ cls := "PackedNumbersLaw", name := "swap", desc := "(LPackedNumbers;II[J)I" } : Jvm.MethodName) method_6_code (5 : Nat) (Option.some Jvm.ClassFile.FieldType.int) [((0 : Nat), (10 : Nat), (13 : Nat), (13 : Nat))]) ∈ pn_all := pn_in2 71 rfl rfl
theorem kw_312 : (Jvm.Cond.methodLink "PackedNumbersLaw" (24 : Nat) ({ cls := "PackedNumbers", name := "swap", desc := "(II)I" } : Jvm.MethodName)) ∈ pn_all := pn_in2 72 rfl rfl
theorem kw_313 : (Jvm.Cond.instanceMethod ({ cls := "PackedNumbers", name := "swap", desc := "(II)I" } : Jvm.MethodName)) ∈ pn_all := pn_in2 73 rfl rfl
theorem kw_314 : (Jvm.Cond.selects "PackedNumbers" ({ cls := "PackedNumbers", name := "swap", desc := "(II)I" } : Jvm.MethodName) ({ cls := "PackedNumbers", name := "swap", desc := "(II)I" } : Jvm.MethodName)) ∈ pn_all := pn_in2 74 rfl rfl
theorem kw_315 : (Jvm.Cond.code ({ cls := "PackedNumbers", name := "swap", desc := "(II)I" } : Jvm.MethodName) prog_1_method_5_code (3 : Nat) (Option.some Jvm.ClassFile.FieldType.int)) ∈ pn_all := pn_in2 75 rfl rfl
theorem kn_316 : (Jvm.Cond.methodLinkNest "PackedNumbers" (69 : Nat) ({ cls := "PackedNumbers$Store", name := "exchange", desc := "(II)V" } : Jvm.MethodName) "PackedNumbers") ∈ pn_nest := pn_inN2 76 rfl rfl
theorem kw_318 : (Jvm.Cond.instanceMethod ({ cls := "PackedNumbers$Store", name := "exchange", desc := "(II)V" } : Jvm.MethodName)) ∈ pn_all := pn_in2 78 rfl rfl
theorem kw_319 : (Jvm.Cond.code ({ cls := "PackedNumbers$Store", name := "exchange", desc := "(II)V" } : Jvm.MethodName) prog_5_method_4_code (6 : Nat) (Option.none : Option Jvm.ClassFile.FieldType)) ∈ pn_all := pn_in2 79 rfl rfl
theorem kw_320 : (Jvm.Cond.methodLink "PackedNumbers" (72 : Nat) ({ cls := "PackedNumbers", name := "length", desc := "(I)I" } : Jvm.MethodName)) ∈ pn_all := pn_in2 80 rfl rfl
theorem kw_321 : (Jvm.Cond.instanceMethod ({ cls := "PackedNumbers", name := "length", desc := "(I)I" } : Jvm.MethodName)) ∈ pn_all := pn_in2 81 rfl rfl
theorem kw_322 : (Jvm.Cond.selects "PackedNumbers" ({ cls := "PackedNumbers", name := "length", desc := "(I)I" } : Jvm.MethodName) ({ cls := "PackedNumbers", name := "length", desc := "(I)I" } : Jvm.MethodName)) ∈ pn_all := pn_in2 82 rfl rfl
theorem kw_323 : (Jvm.Cond.code ({ cls := "PackedNumbers", name := "length", desc := "(I)I" } : Jvm.MethodName) prog_1_method_17_code (2 : Nat) (Option.some Jvm.ClassFile.FieldType.int)) ∈ pn_all := pn_in2 83 rfl rfl
theorem kw_324 : (Jvm.Cond.methodLink "PackedNumbersLaw" (106 : Nat) ({ cls := "PackedNumbersLaw", name := "negate", desc := "(LPackedNumbers;I[J)I" } : Jvm.MethodName)) ∈ pn_all := pn_in2 84 rfl rfl
theorem kw_325 : (Jvm.Cond.static ({ cls := "PackedNumbersLaw", name := "negate", desc := "(LPackedNumbers;I[J)I" } : Jvm.MethodName)) ∈ pn_all := pn_in2 85 rfl rfl
theorem kw_326 : (Jvm.Cond.codeWith ({ cls := "PackedNumbersLaw", name := "negate", desc := "(LPackedNumbers;I[J)I" } : Jvm.MethodName) method_7_code (4 : Nat) (Option.some Jvm.ClassFile.FieldType.int) [((0 : Nat), (9 : Nat), (12 : Nat), (13 : Nat))]) ∈ pn_all := pn_in2 86 rfl rfl
theorem kw_327 : (Jvm.Cond.methodLink "PackedNumbersLaw" (27 : Nat) ({ cls := "PackedNumbers", name := "negate", desc := "(I)I" } : Jvm.MethodName)) ∈ pn_all := pn_in2 87 rfl rfl
theorem kw_328 : (Jvm.Cond.instanceMethod ({ cls := "PackedNumbers", name := "negate", desc := "(I)I" } : Jvm.MethodName)) ∈ pn_all := pn_in2 88 rfl rfl
theorem kw_329 : (Jvm.Cond.selects "PackedNumbers" ({ cls := "PackedNumbers", name := "negate", desc := "(I)I" } : Jvm.MethodName) ({ cls := "PackedNumbers", name := "negate", desc := "(I)I" } : Jvm.MethodName)) ∈ pn_all := pn_in2 89 rfl rfl
theorem kw_330 : (Jvm.Cond.code ({ cls := "PackedNumbers", name := "negate", desc := "(I)I" } : Jvm.MethodName) prog_1_method_6_code (2 : Nat) (Option.some Jvm.ClassFile.FieldType.int)) ∈ pn_all := pn_in2 90 rfl rfl
theorem kn_331 : (Jvm.Cond.methodLinkNest "PackedNumbers" (76 : Nat) ({ cls := "PackedNumbers$Store", name := "turn", desc := "(I)V" } : Jvm.MethodName) "PackedNumbers") ∈ pn_nest := pn_inN2 91 rfl rfl
theorem kw_333 : (Jvm.Cond.instanceMethod ({ cls := "PackedNumbers$Store", name := "turn", desc := "(I)V" } : Jvm.MethodName)) ∈ pn_all := pn_in2 93 rfl rfl
theorem kw_334 : (Jvm.Cond.code ({ cls := "PackedNumbers$Store", name := "turn", desc := "(I)V" } : Jvm.MethodName) prog_5_method_5_code (2 : Nat) (Option.none : Option Jvm.ClassFile.FieldType)) ∈ pn_all := pn_in2 94 rfl rfl
theorem kw_335 : (Jvm.Cond.methodLink "PackedNumbersLaw" (110 : Nat) ({ cls := "PackedNumbersLaw", name := "add", desc := "(LPackedNumbers;III[J)I" } : Jvm.MethodName)) ∈ pn_all := pn_in2 95 rfl rfl
theorem kw_336 : (Jvm.Cond.static ({ cls := "PackedNumbersLaw", name := "add", desc := "(LPackedNumbers;III[J)I" } : Jvm.MethodName)) ∈ pn_all := pn_in2 96 rfl rfl
theorem kw_337 : (Jvm.Cond.codeWith ({ cls := "PackedNumbersLaw", name := "add", desc := "(LPackedNumbers;III[J)I" } : Jvm.MethodName) method_8_code (6 : Nat) (Option.some Jvm.ClassFile.FieldType.int) [((0 : Nat), (12 : Nat), (15 : Nat), (13 : Nat)), ((0 : Nat), (12 : Nat), (19 : Nat), (19 : Nat))]) ∈ pn_all := pn_in2 97 rfl rfl
theorem kw_338 : (Jvm.Cond.methodLink "PackedNumbersLaw" (31 : Nat) ({ cls := "PackedNumbers", name := "add", desc := "(III)I" } : Jvm.MethodName)) ∈ pn_all := pn_in2 98 rfl rfl
theorem kw_339 : (Jvm.Cond.instanceMethod ({ cls := "PackedNumbers", name := "add", desc := "(III)I" } : Jvm.MethodName)) ∈ pn_all := pn_in2 99 rfl rfl
theorem kw_340 : (Jvm.Cond.selects "PackedNumbers" ({ cls := "PackedNumbers", name := "add", desc := "(III)I" } : Jvm.MethodName) ({ cls := "PackedNumbers", name := "add", desc := "(III)I" } : Jvm.MethodName)) ∈ pn_all := pn_in2 100 rfl rfl
theorem kw_341 : (Jvm.Cond.code ({ cls := "PackedNumbers", name := "add", desc := "(III)I" } : Jvm.MethodName) prog_1_method_7_code (4 : Nat) (Option.some Jvm.ClassFile.FieldType.int)) ∈ pn_all := pn_in2 101 rfl rfl
theorem kw_342 : (Jvm.Cond.methodLink "PackedNumbers" (79 : Nat) ({ cls := "PackedNumbers", name := "keepSum", desc := "(IIIZ)I" } : Jvm.MethodName)) ∈ pn_all := pn_in2 102 rfl rfl
theorem kw_344 : (Jvm.Cond.instanceMethod ({ cls := "PackedNumbers", name := "keepSum", desc := "(IIIZ)I" } : Jvm.MethodName)) ∈ pn_all := pn_in2 104 rfl rfl
theorem kw_345 : (Jvm.Cond.code ({ cls := "PackedNumbers", name := "keepSum", desc := "(IIIZ)I" } : Jvm.MethodName) prog_1_method_28_code (5 : Nat) (Option.some Jvm.ClassFile.FieldType.int)) ∈ pn_all := pn_in2 105 rfl rfl
theorem kw_346 : (Jvm.Cond.methodLink "PackedNumbers" (83 : Nat) ({ cls := "PackedNumbers", name := "readBoth", desc := "(II)V" } : Jvm.MethodName)) ∈ pn_all := pn_in2 106 rfl rfl
theorem kw_348 : (Jvm.Cond.instanceMethod ({ cls := "PackedNumbers", name := "readBoth", desc := "(II)V" } : Jvm.MethodName)) ∈ pn_all := pn_in2 108 rfl rfl
theorem kw_349 : (Jvm.Cond.code ({ cls := "PackedNumbers", name := "readBoth", desc := "(II)V" } : Jvm.MethodName) prog_1_method_26_code (3 : Nat) (Option.none : Option Jvm.ClassFile.FieldType)) ∈ pn_all := pn_in2 109 rfl rfl
theorem kn_350 : (Jvm.Cond.methodLinkNest "PackedNumbers" (97 : Nat) ({ cls := "PackedNumbers$Row", name := "becomeSum", desc := "(LPackedNumbers$Row;LPackedNumbers$Row;Z)V" } : Jvm.MethodName) "PackedNumbers") ∈ pn_nest := pn_inN2 110 rfl rfl
theorem kw_352 : (Jvm.Cond.instanceMethod ({ cls := "PackedNumbers$Row", name := "becomeSum", desc := "(LPackedNumbers$Row;LPackedNumbers$Row;Z)V" } : Jvm.MethodName)) ∈ pn_all := pn_in2 112 rfl rfl
theorem kw_353 : (Jvm.Cond.code ({ cls := "PackedNumbers$Row", name := "becomeSum", desc := "(LPackedNumbers$Row;LPackedNumbers$Row;Z)V" } : Jvm.MethodName) prog_4_method_13_code (5 : Nat) (Option.none : Option Jvm.ClassFile.FieldType)) ∈ pn_all := pn_in2 113 rfl rfl
theorem kw_354 : (Jvm.Cond.methodLink "PackedNumbers$Row" (49 : Nat) ({ cls := "PackedNumbers$Row", name := "becomeSizeSum", desc := "(LPackedNumbers$Row;LPackedNumbers$Row;)V" } : Jvm.MethodName)) ∈ pn_all := pn_in2 114 rfl rfl
theorem kw_356 : (Jvm.Cond.instanceMethod ({ cls := "PackedNumbers$Row", name := "becomeSizeSum", desc := "(LPackedNumbers$Row;LPackedNumbers$Row;)V" } : Jvm.MethodName)) ∈ pn_all := pn_in2 116 rfl rfl
theorem kw_357 : (Jvm.Cond.code ({ cls := "PackedNumbers$Row", name := "becomeSizeSum", desc := "(LPackedNumbers$Row;LPackedNumbers$Row;)V" } : Jvm.MethodName) prog_4_method_14_code (7 : Nat) (Option.none : Option Jvm.ClassFile.FieldType)) ∈ pn_all := pn_in2 117 rfl rfl
theorem kw_358 : (Jvm.Cond.methodLink "PackedNumbers$Row" (60 : Nat) ({ cls := "java/lang/Math", name := "max", desc := "(II)I" } : Jvm.MethodName)) ∈ pn_all := pn_in2 118 rfl rfl
theorem kw_359 : (Jvm.Cond.static ({ cls := "java/lang/Math", name := "max", desc := "(II)I" } : Jvm.MethodName)) ∈ pn_all := pn_in2 119 rfl rfl
theorem kw_360 : (Jvm.Cond.code ({ cls := "java/lang/Math", name := "max", desc := "(II)I" } : Jvm.MethodName) prog_14_method_65_code (2 : Nat) (Option.some Jvm.ClassFile.FieldType.int)) ∈ pn_all := pn_in2 120 rfl rfl
theorem kw_361 : (Jvm.Cond.methodLink "PackedNumbers$Row" (39 : Nat) ({ cls := "PackedNumbers$Row", name := "limbAt", desc := "(I)J" } : Jvm.MethodName)) ∈ pn_all := pn_in2 121 rfl rfl
theorem kw_363 : (Jvm.Cond.instanceMethod ({ cls := "PackedNumbers$Row", name := "limbAt", desc := "(I)J" } : Jvm.MethodName)) ∈ pn_all := pn_in2 123 rfl rfl
theorem kw_364 : (Jvm.Cond.code ({ cls := "PackedNumbers$Row", name := "limbAt", desc := "(I)J" } : Jvm.MethodName) prog_4_method_10_code (2 : Nat) (Option.some Jvm.ClassFile.FieldType.long)) ∈ pn_all := pn_in2 124 rfl rfl
theorem kw_365 : (Jvm.Cond.constantLong "PackedNumbers$Row" (43 : Nat) (4294967295 : Int64)) ∈ pn_all := pn_in2 125 rfl rfl
theorem kw_366 : (Jvm.Cond.methodLink "PackedNumbers$Row" (53 : Nat) ({ cls := "PackedNumbers$Row", name := "compareSize", desc := "(LPackedNumbers$Row;)I" } : Jvm.MethodName)) ∈ pn_all := pn_in2 126 rfl rfl
theorem kw_368 : (Jvm.Cond.instanceMethod ({ cls := "PackedNumbers$Row", name := "compareSize", desc := "(LPackedNumbers$Row;)I" } : Jvm.MethodName)) ∈ pn_all := pn_in2 128 rfl rfl
theorem kw_369 : (Jvm.Cond.code ({ cls := "PackedNumbers$Row", name := "compareSize", desc := "(LPackedNumbers$Row;)I" } : Jvm.MethodName) prog_4_method_12_code (3 : Nat) (Option.some Jvm.ClassFile.FieldType.int)) ∈ pn_all := pn_in2 129 rfl rfl
theorem kw_370 : (Jvm.Cond.methodLink "PackedNumbers$Row" (57 : Nat) ({ cls := "PackedNumbers$Row", name := "becomeSizeDifference", desc := "(LPackedNumbers$Row;LPackedNumbers$Row;)V" } : Jvm.MethodName)) ∈ pn_all := pn_in2 130 rfl rfl
theorem kw_372 : (Jvm.Cond.instanceMethod ({ cls := "PackedNumbers$Row", name := "becomeSizeDifference", desc := "(LPackedNumbers$Row;LPackedNumbers$Row;)V" } : Jvm.MethodName)) ∈ pn_all := pn_in2 132 rfl rfl
theorem kw_373 : (Jvm.Cond.code ({ cls := "PackedNumbers$Row", name := "becomeSizeDifference", desc := "(LPackedNumbers$Row;LPackedNumbers$Row;)V" } : Jvm.MethodName) prog_4_method_15_code (6 : Nat) (Option.none : Option Jvm.ClassFile.FieldType)) ∈ pn_all := pn_in2 133 rfl rfl
theorem kw_374 : (Jvm.Cond.methodLink "PackedNumbersLaw" (114 : Nat) ({ cls := "PackedNumbersLaw", name := "subtract", desc := "(LPackedNumbers;III[J)I" } : Jvm.MethodName)) ∈ pn_all := pn_in2 134 rfl rfl
theorem kw_375 : (Jvm.Cond.static ({ cls := "PackedNumbersLaw", name := "subtract", desc := "(LPackedNumbers;III[J)I" } : Jvm.MethodName)) ∈ pn_all := pn_in2 135 rfl rfl
theorem kw_376 : (Jvm.Cond.codeWith ({ cls := "PackedNumbersLaw", name := "subtract", desc := "(LPackedNumbers;III[J)I" } : Jvm.MethodName) method_9_code (6 : Nat) (Option.some Jvm.ClassFile.FieldType.int) [((0 : Nat), (12 : Nat), (15 : Nat), (13 : Nat)), ((0 : Nat), (12 : Nat), (19 : Nat), (19 : Nat))]) ∈ pn_all := pn_in2 136 rfl rfl
theorem kw_377 : (Jvm.Cond.methodLink "PackedNumbersLaw" (35 : Nat) ({ cls := "PackedNumbers", name := "subtract", desc := "(III)I" } : Jvm.MethodName)) ∈ pn_all := pn_in2 137 rfl rfl
theorem kw_378 : (Jvm.Cond.instanceMethod ({ cls := "PackedNumbers", name := "subtract", desc := "(III)I" } : Jvm.MethodName)) ∈ pn_all := pn_in2 138 rfl rfl
theorem kw_379 : (Jvm.Cond.selects "PackedNumbers" ({ cls := "PackedNumbers", name := "subtract", desc := "(III)I" } : Jvm.MethodName) ({ cls := "PackedNumbers", name := "subtract", desc := "(III)I" } : Jvm.MethodName)) ∈ pn_all := pn_in2 139 rfl rfl
theorem kw_380 : (Jvm.Cond.code ({ cls := "PackedNumbers", name := "subtract", desc := "(III)I" } : Jvm.MethodName) prog_1_method_8_code (4 : Nat) (Option.some Jvm.ClassFile.FieldType.int)) ∈ pn_all := pn_in2 140 rfl rfl
theorem kw_381 : (Jvm.Cond.methodLink "PackedNumbersLaw" (117 : Nat) ({ cls := "PackedNumbersLaw", name := "multiply", desc := "(LPackedNumbers;III[J)I" } : Jvm.MethodName)) ∈ pn_all := pn_in2 141 rfl rfl
theorem kw_382 : (Jvm.Cond.static ({ cls := "PackedNumbersLaw", name := "multiply", desc := "(LPackedNumbers;III[J)I" } : Jvm.MethodName)) ∈ pn_all := pn_in2 142 rfl rfl
theorem kw_383 : (Jvm.Cond.codeWith ({ cls := "PackedNumbersLaw", name := "multiply", desc := "(LPackedNumbers;III[J)I" } : Jvm.MethodName) method_10_code (6 : Nat) (Option.some Jvm.ClassFile.FieldType.int) [((0 : Nat), (12 : Nat), (15 : Nat), (13 : Nat)), ((0 : Nat), (12 : Nat), (19 : Nat), (19 : Nat))]) ∈ pn_all := pn_in2 143 rfl rfl
theorem kw_384 : (Jvm.Cond.methodLink "PackedNumbersLaw" (38 : Nat) ({ cls := "PackedNumbers", name := "multiply", desc := "(III)I" } : Jvm.MethodName)) ∈ pn_all := pn_in2 144 rfl rfl
theorem kw_385 : (Jvm.Cond.instanceMethod ({ cls := "PackedNumbers", name := "multiply", desc := "(III)I" } : Jvm.MethodName)) ∈ pn_all := pn_in2 145 rfl rfl
theorem kw_386 : (Jvm.Cond.selects "PackedNumbers" ({ cls := "PackedNumbers", name := "multiply", desc := "(III)I" } : Jvm.MethodName) ({ cls := "PackedNumbers", name := "multiply", desc := "(III)I" } : Jvm.MethodName)) ∈ pn_all := pn_in2 146 rfl rfl
theorem kw_387 : (Jvm.Cond.code ({ cls := "PackedNumbers", name := "multiply", desc := "(III)I" } : Jvm.MethodName) prog_1_method_9_code (4 : Nat) (Option.some Jvm.ClassFile.FieldType.int)) ∈ pn_all := pn_in2 147 rfl rfl
theorem kw_388 : (Jvm.Cond.methodLink "PackedNumbers" (86 : Nat) ({ cls := "PackedNumbers", name := "leastProductBits", desc := "()I" } : Jvm.MethodName)) ∈ pn_all := pn_in2 148 rfl rfl
theorem kw_390 : (Jvm.Cond.instanceMethod ({ cls := "PackedNumbers", name := "leastProductBits", desc := "()I" } : Jvm.MethodName)) ∈ pn_all := pn_in2 150 rfl rfl
theorem kw_391 : (Jvm.Cond.code ({ cls := "PackedNumbers", name := "leastProductBits", desc := "()I" } : Jvm.MethodName) prog_1_method_27_code (1 : Nat) (Option.some Jvm.ClassFile.FieldType.int)) ∈ pn_all := pn_in2 151 rfl rfl
theorem kn_392 : (Jvm.Cond.methodLinkNest "PackedNumbers" (93 : Nat) ({ cls := "PackedNumbers$Row", name := "becomeProduct", desc := "(LPackedNumbers$Row;LPackedNumbers$Row;)V" } : Jvm.MethodName) "PackedNumbers") ∈ pn_nest := pn_inN2 152 rfl rfl
theorem kw_394 : (Jvm.Cond.instanceMethod ({ cls := "PackedNumbers$Row", name := "becomeProduct", desc := "(LPackedNumbers$Row;LPackedNumbers$Row;)V" } : Jvm.MethodName)) ∈ pn_all := pn_in2 154 rfl rfl
theorem kw_395 : (Jvm.Cond.code ({ cls := "PackedNumbers$Row", name := "becomeProduct", desc := "(LPackedNumbers$Row;LPackedNumbers$Row;)V" } : Jvm.MethodName) prog_4_method_16_code (5 : Nat) (Option.none : Option Jvm.ClassFile.FieldType)) ∈ pn_all := pn_in2 155 rfl rfl
theorem kw_396 : (Jvm.Cond.methodLink "PackedNumbers$Row" (66 : Nat) ({ cls := "PackedNumbers$Row", name := "clear", desc := "(II)V" } : Jvm.MethodName)) ∈ pn_all := pn_in2 156 rfl rfl
theorem kw_398 : (Jvm.Cond.instanceMethod ({ cls := "PackedNumbers$Row", name := "clear", desc := "(II)V" } : Jvm.MethodName)) ∈ pn_all := pn_in2 158 rfl rfl
theorem kw_399 : (Jvm.Cond.code ({ cls := "PackedNumbers$Row", name := "clear", desc := "(II)V" } : Jvm.MethodName) prog_4_method_5_code (4 : Nat) (Option.none : Option Jvm.ClassFile.FieldType)) ∈ pn_all := pn_in2 159 rfl rfl
theorem kw_400 : (Jvm.Cond.methodLink "PackedNumbers$Row" (70 : Nat) ({ cls := "PackedNumbers$Row", name := "addMultiple", desc := "(LPackedNumbers$Row;JI)I" } : Jvm.MethodName)) ∈ pn_all := pn_in2 160 rfl rfl
theorem kw_402 : (Jvm.Cond.instanceMethod ({ cls := "PackedNumbers$Row", name := "addMultiple", desc := "(LPackedNumbers$Row;JI)I" } : Jvm.MethodName)) ∈ pn_all := pn_in2 162 rfl rfl
theorem kw_403 : (Jvm.Cond.code ({ cls := "PackedNumbers$Row", name := "addMultiple", desc := "(LPackedNumbers$Row;JI)I" } : Jvm.MethodName) prog_4_method_17_code (8 : Nat) (Option.some Jvm.ClassFile.FieldType.int)) ∈ pn_all := pn_in2 163 rfl rfl
theorem kw_404 : (Jvm.Cond.methodLink "PackedNumbersLaw" (120 : Nat) ({ cls := "PackedNumbersLaw", name := "addProduct", desc := "(LPackedNumbers;IIIZ[J)I" } : Jvm.MethodName)) ∈ pn_all := pn_in2 164 rfl rfl
theorem kw_405 : (Jvm.Cond.static ({ cls := "PackedNumbersLaw", name := "addProduct", desc := "(LPackedNumbers;IIIZ[J)I" } : Jvm.MethodName)) ∈ pn_all := pn_in2 165 rfl rfl
theorem kw_406 : (Jvm.Cond.codeWith ({ cls := "PackedNumbersLaw", name := "addProduct", desc := "(LPackedNumbers;IIIZ[J)I" } : Jvm.MethodName) method_11_code (7 : Nat) (Option.some Jvm.ClassFile.FieldType.int) [((0 : Nat), (14 : Nat), (17 : Nat), (13 : Nat)), ((0 : Nat), (14 : Nat), (21 : Nat), (19 : Nat))]) ∈ pn_all := pn_in2 166 rfl rfl
theorem kw_407 : (Jvm.Cond.methodLink "PackedNumbersLaw" (41 : Nat) ({ cls := "PackedNumbers", name := "addProduct", desc := "(IIIZ)I" } : Jvm.MethodName)) ∈ pn_all := pn_in2 167 rfl rfl
theorem kw_408 : (Jvm.Cond.instanceMethod ({ cls := "PackedNumbers", name := "addProduct", desc := "(IIIZ)I" } : Jvm.MethodName)) ∈ pn_all := pn_in2 168 rfl rfl
theorem kw_409 : (Jvm.Cond.selects "PackedNumbers" ({ cls := "PackedNumbers", name := "addProduct", desc := "(IIIZ)I" } : Jvm.MethodName) ({ cls := "PackedNumbers", name := "addProduct", desc := "(IIIZ)I" } : Jvm.MethodName)) ∈ pn_all := pn_in2 169 rfl rfl
theorem kw_410 : (Jvm.Cond.code ({ cls := "PackedNumbers", name := "addProduct", desc := "(IIIZ)I" } : Jvm.MethodName) prog_1_method_10_code (5 : Nat) (Option.some Jvm.ClassFile.FieldType.int)) ∈ pn_all := pn_in2 170 rfl rfl
theorem kw_411 : (Jvm.Cond.methodLink "PackedNumbersLaw" (124 : Nat) ({ cls := "PackedNumbersLaw", name := "divide", desc := "(LPackedNumbers;IIII[J)I" } : Jvm.MethodName)) ∈ pn_all := pn_in2 171 rfl rfl
theorem kw_412 : (Jvm.Cond.static ({ cls := "PackedNumbersLaw", name := "divide", desc := "(LPackedNumbers;IIII[J)I" } : Jvm.MethodName)) ∈ pn_all := pn_in2 172 rfl rfl
theorem kw_413 : (Jvm.Cond.codeWith ({ cls := "PackedNumbersLaw", name := "divide", desc := "(LPackedNumbers;IIII[J)I" } : Jvm.MethodName) method_12_code (7 : Nat) (Option.some Jvm.ClassFile.FieldType.int) [((0 : Nat), (14 : Nat), (17 : Nat), (13 : Nat)), ((0 : Nat), (14 : Nat), (21 : Nat), (49 : Nat)), ((0 : Nat), (14 : Nat), (25 : Nat), (51 : Nat))]) ∈ pn_all := pn_in2 173 rfl rfl
theorem kw_414 : (Jvm.Cond.classLink "PackedNumbersLaw" (49 : Nat) "java/lang/IllegalArgumentException") ∈ pn_all := pn_in2 174 rfl rfl
theorem kw_415 : (Jvm.Cond.classLink "PackedNumbersLaw" (51 : Nat) "java/lang/ArithmeticException") ∈ pn_all := pn_in2 175 rfl rfl
theorem kw_416 : (Jvm.Cond.methodLink "PackedNumbersLaw" (45 : Nat) ({ cls := "PackedNumbers", name := "divide", desc := "(IIII)I" } : Jvm.MethodName)) ∈ pn_all := pn_in2 176 rfl rfl
theorem kw_417 : (Jvm.Cond.instanceMethod ({ cls := "PackedNumbers", name := "divide", desc := "(IIII)I" } : Jvm.MethodName)) ∈ pn_all := pn_in2 177 rfl rfl
theorem kw_418 : (Jvm.Cond.selects "PackedNumbers" ({ cls := "PackedNumbers", name := "divide", desc := "(IIII)I" } : Jvm.MethodName) ({ cls := "PackedNumbers", name := "divide", desc := "(IIII)I" } : Jvm.MethodName)) ∈ pn_all := pn_in2 178 rfl rfl
theorem kw_419 : (Jvm.Cond.code ({ cls := "PackedNumbers", name := "divide", desc := "(IIII)I" } : Jvm.MethodName) prog_1_method_11_code (6 : Nat) (Option.some Jvm.ClassFile.FieldType.int)) ∈ pn_all := pn_in2 179 rfl rfl
theorem kw_420 : (Jvm.Cond.classLink "PackedNumbers" (101 : Nat) "java/lang/IllegalArgumentException") ∈ pn_all := pn_in2 180 rfl rfl
theorem kw_421 : (Jvm.Cond.instantiable "java/lang/IllegalArgumentException" (6 : Nat)) ∈ pn_all := pn_in2 181 rfl rfl
theorem kw_423 : (Jvm.Cond.selects "java/lang/IllegalArgumentException" ({ cls := "java/lang/Throwable", name := "fillInStackTrace", desc := "(I)Ljava/lang/Throwable;" } : Jvm.MethodName) ({ cls := "java/lang/Throwable", name := "fillInStackTrace", desc := "(I)Ljava/lang/Throwable;" } : Jvm.MethodName)) ∈ pn_all := pn_in2 183 rfl rfl
theorem kw_430 : (Jvm.Cond.methodLink "PackedNumbers" (105 : Nat) ({ cls := "java/lang/IllegalArgumentException", name := "<init>", desc := "(Ljava/lang/String;)V" } : Jvm.MethodName)) ∈ pn_all := pn_in2 190 rfl rfl
theorem kw_431 : (Jvm.Cond.instanceMethod ({ cls := "java/lang/IllegalArgumentException", name := "<init>", desc := "(Ljava/lang/String;)V" } : Jvm.MethodName)) ∈ pn_all := pn_in2 191 rfl rfl
theorem kw_432 : (Jvm.Cond.code ({ cls := "java/lang/IllegalArgumentException", name := "<init>", desc := "(Ljava/lang/String;)V" } : Jvm.MethodName) prog_11_method_2_code (2 : Nat) (Option.none : Option Jvm.ClassFile.FieldType)) ∈ pn_all := pn_in2 192 rfl rfl
theorem kw_433 : (Jvm.Cond.methodLink "java/lang/IllegalArgumentException" (7 : Nat) ({ cls := "java/lang/RuntimeException", name := "<init>", desc := "(Ljava/lang/String;)V" } : Jvm.MethodName)) ∈ pn_all := pn_in2 193 rfl rfl
theorem kw_436 : (Jvm.Cond.methodLink "PackedNumbers" (108 : Nat) ({ cls := "PackedNumbers", name := "needDivisorAboveZero", desc := "()V" } : Jvm.MethodName)) ∈ pn_all := pn_in2 196 rfl rfl
theorem kw_438 : (Jvm.Cond.instanceMethod ({ cls := "PackedNumbers", name := "needDivisorAboveZero", desc := "()V" } : Jvm.MethodName)) ∈ pn_all := pn_in2 198 rfl rfl
theorem kw_439 : (Jvm.Cond.code ({ cls := "PackedNumbers", name := "needDivisorAboveZero", desc := "()V" } : Jvm.MethodName) prog_1_method_25_code (1 : Nat) (Option.none : Option Jvm.ClassFile.FieldType)) ∈ pn_all := pn_in2 199 rfl rfl
theorem kn_440 : (Jvm.Cond.methodLinkNest "PackedNumbers" (161 : Nat) ({ cls := "PackedNumbers$Row", name := "signum", desc := "()I" } : Jvm.MethodName) "PackedNumbers") ∈ pn_nest := pn_inN2 200 rfl rfl
theorem kw_442 : (Jvm.Cond.instanceMethod ({ cls := "PackedNumbers$Row", name := "signum", desc := "()I" } : Jvm.MethodName)) ∈ pn_all := pn_in2 202 rfl rfl
theorem kw_443 : (Jvm.Cond.code ({ cls := "PackedNumbers$Row", name := "signum", desc := "()I" } : Jvm.MethodName) prog_4_method_8_code (1 : Nat) (Option.some Jvm.ClassFile.FieldType.int)) ∈ pn_all := pn_in2 203 rfl rfl
theorem kw_444 : (Jvm.Cond.classLink "PackedNumbers" (139 : Nat) "java/lang/ArithmeticException") ∈ pn_all := pn_in2 204 rfl rfl
theorem kw_445 : (Jvm.Cond.instantiable "java/lang/ArithmeticException" (6 : Nat)) ∈ pn_all := pn_in2 205 rfl rfl
theorem kw_447 : (Jvm.Cond.selects "java/lang/ArithmeticException" ({ cls := "java/lang/Throwable", name := "fillInStackTrace", desc := "(I)Ljava/lang/Throwable;" } : Jvm.MethodName) ({ cls := "java/lang/Throwable", name := "fillInStackTrace", desc := "(I)Ljava/lang/Throwable;" } : Jvm.MethodName)) ∈ pn_all := pn_in2 207 rfl rfl
theorem kw_454 : (Jvm.Cond.methodLink "PackedNumbers" (143 : Nat) ({ cls := "java/lang/ArithmeticException", name := "<init>", desc := "(Ljava/lang/String;)V" } : Jvm.MethodName)) ∈ pn_all := pn_in2 214 rfl rfl
theorem kw_455 : (Jvm.Cond.instanceMethod ({ cls := "java/lang/ArithmeticException", name := "<init>", desc := "(Ljava/lang/String;)V" } : Jvm.MethodName)) ∈ pn_all := pn_in2 215 rfl rfl
theorem kw_456 : (Jvm.Cond.code ({ cls := "java/lang/ArithmeticException", name := "<init>", desc := "(Ljava/lang/String;)V" } : Jvm.MethodName) prog_9_method_2_code (2 : Nat) (Option.none : Option Jvm.ClassFile.FieldType)) ∈ pn_all := pn_in2 216 rfl rfl
theorem kw_457 : (Jvm.Cond.methodLink "java/lang/ArithmeticException" (7 : Nat) ({ cls := "java/lang/RuntimeException", name := "<init>", desc := "(Ljava/lang/String;)V" } : Jvm.MethodName)) ∈ pn_all := pn_in2 217 rfl rfl
theorem kn_460 : (Jvm.Cond.methodLinkNest "PackedNumbers" (115 : Nat) ({ cls := "PackedNumbers$Division", name := "split", desc := "(LPackedNumbers$Row;LPackedNumbers$Row;LPackedNumbers$Row;)V" } : Jvm.MethodName) "PackedNumbers") ∈ pn_nest := pn_inN2 220 rfl rfl
theorem kw_461 : (Jvm.Cond.static ({ cls := "PackedNumbers$Division", name := "split", desc := "(LPackedNumbers$Row;LPackedNumbers$Row;LPackedNumbers$Row;)V" } : Jvm.MethodName)) ∈ pn_all := pn_in2 221 rfl rfl
theorem kw_462 : (Jvm.Cond.code ({ cls := "PackedNumbers$Division", name := "split", desc := "(LPackedNumbers$Row;LPackedNumbers$Row;LPackedNumbers$Row;)V" } : Jvm.MethodName) prog_2_method_2_code (5 : Nat) (Option.none : Option Jvm.ClassFile.FieldType)) ∈ pn_all := pn_in2 222 rfl rfl
theorem kn_463 : (Jvm.Cond.methodLinkNest "PackedNumbers$Division" (9 : Nat) ({ cls := "PackedNumbers$Row", name := "compareSize", desc := "(LPackedNumbers$Row;)I" } : Jvm.MethodName) "PackedNumbers") ∈ pn_nest := pn_inN2 223 rfl rfl
theorem kn_464 : (Jvm.Cond.methodLinkNest "PackedNumbers$Division" (15 : Nat) ({ cls := "PackedNumbers$Row", name := "fit", desc := "(I)V" } : Jvm.MethodName) "PackedNumbers") ∈ pn_nest := pn_inN2 224 rfl rfl
theorem kn_465 : (Jvm.Cond.methodLinkNest "PackedNumbers$Division" (27 : Nat) ({ cls := "PackedNumbers$Row", name := "take", desc := "(LPackedNumbers$Row;)V" } : Jvm.MethodName) "PackedNumbers") ∈ pn_nest := pn_inN2 225 rfl rfl
theorem kw_467 : (Jvm.Cond.instanceMethod ({ cls := "PackedNumbers$Row", name := "take", desc := "(LPackedNumbers$Row;)V" } : Jvm.MethodName)) ∈ pn_all := pn_in2 227 rfl rfl
theorem kw_468 : (Jvm.Cond.code ({ cls := "PackedNumbers$Row", name := "take", desc := "(LPackedNumbers$Row;)V" } : Jvm.MethodName) prog_4_method_3_code (2 : Nat) (Option.none : Option Jvm.ClassFile.FieldType)) ∈ pn_all := pn_in2 228 rfl rfl
theorem kn_469 : (Jvm.Cond.methodLinkNest "PackedNumbers$Division" (31 : Nat) ({ cls := "PackedNumbers$Row", name := "limbAt", desc := "(I)J" } : Jvm.MethodName) "PackedNumbers") ∈ pn_nest := pn_inN2 229 rfl rfl
theorem kn_470 : (Jvm.Cond.methodLinkNest "PackedNumbers$Division" (35 : Nat) ({ cls := "PackedNumbers$Row", name := "shrink", desc := "(J)J" } : Jvm.MethodName) "PackedNumbers") ∈ pn_nest := pn_inN2 230 rfl rfl
theorem kw_472 : (Jvm.Cond.instanceMethod ({ cls := "PackedNumbers$Row", name := "shrink", desc := "(J)J" } : Jvm.MethodName)) ∈ pn_all := pn_in2 232 rfl rfl
theorem kw_473 : (Jvm.Cond.code ({ cls := "PackedNumbers$Row", name := "shrink", desc := "(J)J" } : Jvm.MethodName) prog_4_method_19_code (10 : Nat) (Option.some Jvm.ClassFile.FieldType.long)) ∈ pn_all := pn_in2 233 rfl rfl
theorem kn_474 : (Jvm.Cond.methodLinkNest "PackedNumbers$Row" (74 : Nat) ({ cls := "PackedNumbers$Division", name := "unsigned", desc := "(JJ)J" } : Jvm.MethodName) "PackedNumbers") ∈ pn_nest := pn_inN2 234 rfl rfl
theorem kw_475 : (Jvm.Cond.static ({ cls := "PackedNumbers$Division", name := "unsigned", desc := "(JJ)J" } : Jvm.MethodName)) ∈ pn_all := pn_in2 235 rfl rfl
theorem kw_476 : (Jvm.Cond.code ({ cls := "PackedNumbers$Division", name := "unsigned", desc := "(JJ)J" } : Jvm.MethodName) prog_2_method_7_code (6 : Nat) (Option.some Jvm.ClassFile.FieldType.long)) ∈ pn_all := pn_in2 236 rfl rfl
theorem kn_477 : (Jvm.Cond.methodLinkNest "PackedNumbers$Division" (39 : Nat) ({ cls := "PackedNumbers$Row", name := "become", desc := "(J)V" } : Jvm.MethodName) "PackedNumbers") ∈ pn_nest := pn_inN2 237 rfl rfl
theorem kw_478 : (Jvm.Cond.methodLink "PackedNumbers$Division" (43 : Nat) ({ cls := "PackedNumbers$Division", name := "splitByLong", desc := "(LPackedNumbers$Row;LPackedNumbers$Row;LPackedNumbers$Row;)V" } : Jvm.MethodName)) ∈ pn_all := pn_in2 238 rfl rfl
theorem kw_479 : (Jvm.Cond.static ({ cls := "PackedNumbers$Division", name := "splitByLong", desc := "(LPackedNumbers$Row;LPackedNumbers$Row;LPackedNumbers$Row;)V" } : Jvm.MethodName)) ∈ pn_all := pn_in2 239 rfl rfl
theorem kw_480 : (Jvm.Cond.code ({ cls := "PackedNumbers$Division", name := "splitByLong", desc := "(LPackedNumbers$Row;LPackedNumbers$Row;LPackedNumbers$Row;)V" } : Jvm.MethodName) prog_2_method_3_code (9 : Nat) (Option.none : Option Jvm.ClassFile.FieldType)) ∈ pn_all := pn_in3 0 rfl rfl
theorem kw_481 : (Jvm.Cond.methodLink "PackedNumbers$Division" (53 : Nat) ({ cls := "java/lang/Integer", name := "numberOfLeadingZeros", desc := "(I)I" } : Jvm.MethodName)) ∈ pn_all := pn_in3 1 rfl rfl
theorem kn_482 : (Jvm.Cond.methodLinkNest "PackedNumbers$Division" (59 : Nat) ({ cls := "PackedNumbers$Row", name := "shiftUp", desc := "(I)V" } : Jvm.MethodName) "PackedNumbers") ∈ pn_nest := pn_inN3 2 rfl rfl
theorem kw_484 : (Jvm.Cond.instanceMethod ({ cls := "PackedNumbers$Row", name := "shiftUp", desc := "(I)V" } : Jvm.MethodName)) ∈ pn_all := pn_in3 4 rfl rfl
theorem kw_485 : (Jvm.Cond.code ({ cls := "PackedNumbers$Row", name := "shiftUp", desc := "(I)V" } : Jvm.MethodName) prog_4_method_20_code (7 : Nat) (Option.none : Option Jvm.ClassFile.FieldType)) ∈ pn_all := pn_in3 5 rfl rfl
theorem kw_486 : (Jvm.Cond.constantLong "PackedNumbers$Division" (62 : Nat) (4294967295 : Int64)) ∈ pn_all := pn_in3 6 rfl rfl
theorem kw_487 : (Jvm.Cond.methodLink "PackedNumbers$Division" (64 : Nat) ({ cls := "PackedNumbers$Division", name := "guess", desc := "([IIJJ)J" } : Jvm.MethodName)) ∈ pn_all := pn_in3 7 rfl rfl
theorem kw_488 : (Jvm.Cond.static ({ cls := "PackedNumbers$Division", name := "guess", desc := "([IIJJ)J" } : Jvm.MethodName)) ∈ pn_all := pn_in3 8 rfl rfl
theorem kw_489 : (Jvm.Cond.code ({ cls := "PackedNumbers$Division", name := "guess", desc := "([IIJJ)J" } : Jvm.MethodName) prog_2_method_4_code (15 : Nat) (Option.some Jvm.ClassFile.FieldType.long)) ∈ pn_all := pn_in3 9 rfl rfl
theorem kw_490 : (Jvm.Cond.methodLink "PackedNumbers$Division" (79 : Nat) ({ cls := "PackedNumbers$Division", name := "unsigned", desc := "(JJ)J" } : Jvm.MethodName)) ∈ pn_all := pn_in3 10 rfl rfl
theorem kw_491 : (Jvm.Cond.constantLong "PackedNumbers$Division" (83 : Nat) (-9223372036854775808 : Int64)) ∈ pn_all := pn_in3 11 rfl rfl
theorem kw_492 : (Jvm.Cond.methodLink "PackedNumbers$Division" (68 : Nat) ({ cls := "PackedNumbers$Division", name := "takeMultiple", desc := "([IILPackedNumbers$Row;J)Z" } : Jvm.MethodName)) ∈ pn_all := pn_in3 12 rfl rfl
theorem kw_493 : (Jvm.Cond.static ({ cls := "PackedNumbers$Division", name := "takeMultiple", desc := "([IILPackedNumbers$Row;J)Z" } : Jvm.MethodName)) ∈ pn_all := pn_in3 13 rfl rfl
theorem kw_494 : (Jvm.Cond.code ({ cls := "PackedNumbers$Division", name := "takeMultiple", desc := "([IILPackedNumbers$Row;J)Z" } : Jvm.MethodName) prog_2_method_5_code (10 : Nat) (Option.some Jvm.ClassFile.FieldType.boolean)) ∈ pn_all := pn_in3 14 rfl rfl
theorem kw_495 : (Jvm.Cond.methodLink "PackedNumbers$Division" (72 : Nat) ({ cls := "PackedNumbers$Division", name := "putBack", desc := "([IILPackedNumbers$Row;)V" } : Jvm.MethodName)) ∈ pn_all := pn_in3 15 rfl rfl
theorem kw_496 : (Jvm.Cond.static ({ cls := "PackedNumbers$Division", name := "putBack", desc := "([IILPackedNumbers$Row;)V" } : Jvm.MethodName)) ∈ pn_all := pn_in3 16 rfl rfl
theorem kw_497 : (Jvm.Cond.code ({ cls := "PackedNumbers$Division", name := "putBack", desc := "([IILPackedNumbers$Row;)V" } : Jvm.MethodName) prog_2_method_6_code (6 : Nat) (Option.none : Option Jvm.ClassFile.FieldType)) ∈ pn_all := pn_in3 17 rfl rfl
theorem kn_498 : (Jvm.Cond.methodLinkNest "PackedNumbers$Division" (76 : Nat) ({ cls := "PackedNumbers$Row", name := "shiftDown", desc := "(I)V" } : Jvm.MethodName) "PackedNumbers") ∈ pn_nest := pn_inN3 18 rfl rfl
theorem kw_500 : (Jvm.Cond.instanceMethod ({ cls := "PackedNumbers$Row", name := "shiftDown", desc := "(I)V" } : Jvm.MethodName)) ∈ pn_all := pn_in3 20 rfl rfl
theorem kw_501 : (Jvm.Cond.code ({ cls := "PackedNumbers$Row", name := "shiftDown", desc := "(I)V" } : Jvm.MethodName) prog_4_method_21_code (7 : Nat) (Option.none : Option Jvm.ClassFile.FieldType)) ∈ pn_all := pn_in3 21 rfl rfl
theorem kn_502 : (Jvm.Cond.methodLinkNest "PackedNumbers" (125 : Nat) ({ cls := "PackedNumbers$Row", name := "increase", desc := "()V" } : Jvm.MethodName) "PackedNumbers") ∈ pn_nest := pn_inN3 22 rfl rfl
theorem kw_504 : (Jvm.Cond.instanceMethod ({ cls := "PackedNumbers$Row", name := "increase", desc := "()V" } : Jvm.MethodName)) ∈ pn_all := pn_in3 24 rfl rfl
theorem kw_505 : (Jvm.Cond.code ({ cls := "PackedNumbers$Row", name := "increase", desc := "()V" } : Jvm.MethodName) prog_4_method_18_code (2 : Nat) (Option.none : Option Jvm.ClassFile.FieldType)) ∈ pn_all := pn_in3 25 rfl rfl
theorem kn_506 : (Jvm.Cond.methodLinkNest "PackedNumbers" (128 : Nat) ({ cls := "PackedNumbers$Row", name := "becomeSizeDifference", desc := "(LPackedNumbers$Row;LPackedNumbers$Row;)V" } : Jvm.MethodName) "PackedNumbers") ∈ pn_nest := pn_inN3 26 rfl rfl
theorem kn_507 : (Jvm.Cond.methodLinkNest "PackedNumbers" (131 : Nat) ({ cls := "PackedNumbers$Row", name := "take", desc := "(LPackedNumbers$Row;)V" } : Jvm.MethodName) "PackedNumbers") ∈ pn_nest := pn_inN3 27 rfl rfl
theorem kn_508 : (Jvm.Cond.methodLinkNest "PackedNumbers" (135 : Nat) ({ cls := "PackedNumbers$Row", name := "turnBelowIf", desc := "(Z)V" } : Jvm.MethodName) "PackedNumbers") ∈ pn_nest := pn_inN3 28 rfl rfl
theorem kw_509 : (Jvm.Cond.methodLink "PackedNumbersLaw" (128 : Nat) ({ cls := "PackedNumbersLaw", name := "exact", desc := "(LPackedNumbers;III[J)I" } : Jvm.MethodName)) ∈ pn_all := pn_in3 29 rfl rfl
theorem kw_510 : (Jvm.Cond.static ({ cls := "PackedNumbersLaw", name := "exact", desc := "(LPackedNumbers;III[J)I" } : Jvm.MethodName)) ∈ pn_all := pn_in3 30 rfl rfl
theorem kw_511 : (Jvm.Cond.codeWith ({ cls := "PackedNumbersLaw", name := "exact", desc := "(LPackedNumbers;III[J)I" } : Jvm.MethodName) method_13_code (6 : Nat) (Option.some Jvm.ClassFile.FieldType.int) [((0 : Nat), (12 : Nat), (15 : Nat), (13 : Nat)), ((0 : Nat), (12 : Nat), (19 : Nat), (51 : Nat))]) ∈ pn_all := pn_in3 31 rfl rfl
theorem kw_512 : (Jvm.Cond.methodLink "PackedNumbersLaw" (53 : Nat) ({ cls := "PackedNumbers", name := "exact", desc := "(III)I" } : Jvm.MethodName)) ∈ pn_all := pn_in3 32 rfl rfl
theorem kw_513 : (Jvm.Cond.instanceMethod ({ cls := "PackedNumbers", name := "exact", desc := "(III)I" } : Jvm.MethodName)) ∈ pn_all := pn_in3 33 rfl rfl
theorem kw_514 : (Jvm.Cond.selects "PackedNumbers" ({ cls := "PackedNumbers", name := "exact", desc := "(III)I" } : Jvm.MethodName) ({ cls := "PackedNumbers", name := "exact", desc := "(III)I" } : Jvm.MethodName)) ∈ pn_all := pn_in3 34 rfl rfl
theorem kw_515 : (Jvm.Cond.code ({ cls := "PackedNumbers", name := "exact", desc := "(III)I" } : Jvm.MethodName) prog_1_method_12_code (5 : Nat) (Option.some Jvm.ClassFile.FieldType.int)) ∈ pn_all := pn_in3 35 rfl rfl
theorem kw_518 : (Jvm.Cond.methodLink "PackedNumbersLaw" (131 : Nat) ({ cls := "PackedNumbersLaw", name := "nearest", desc := "(LPackedNumbers;III[J)I" } : Jvm.MethodName)) ∈ pn_all := pn_in3 38 rfl rfl
theorem kw_519 : (Jvm.Cond.static ({ cls := "PackedNumbersLaw", name := "nearest", desc := "(LPackedNumbers;III[J)I" } : Jvm.MethodName)) ∈ pn_all := pn_in3 39 rfl rfl
theorem kw_520 : (Jvm.Cond.codeWith ({ cls := "PackedNumbersLaw", name := "nearest", desc := "(LPackedNumbers;III[J)I" } : Jvm.MethodName) method_14_code (6 : Nat) (Option.some Jvm.ClassFile.FieldType.int) [((0 : Nat), (12 : Nat), (15 : Nat), (13 : Nat)), ((0 : Nat), (12 : Nat), (19 : Nat), (51 : Nat))]) ∈ pn_all := pn_in3 40 rfl rfl
theorem kw_521 : (Jvm.Cond.methodLink "PackedNumbersLaw" (56 : Nat) ({ cls := "PackedNumbers", name := "nearest", desc := "(III)I" } : Jvm.MethodName)) ∈ pn_all := pn_in3 41 rfl rfl
theorem kw_522 : (Jvm.Cond.instanceMethod ({ cls := "PackedNumbers", name := "nearest", desc := "(III)I" } : Jvm.MethodName)) ∈ pn_all := pn_in3 42 rfl rfl
theorem kw_523 : (Jvm.Cond.selects "PackedNumbers" ({ cls := "PackedNumbers", name := "nearest", desc := "(III)I" } : Jvm.MethodName) ({ cls := "PackedNumbers", name := "nearest", desc := "(III)I" } : Jvm.MethodName)) ∈ pn_all := pn_in3 43 rfl rfl
theorem kw_524 : (Jvm.Cond.code ({ cls := "PackedNumbers", name := "nearest", desc := "(III)I" } : Jvm.MethodName) prog_1_method_13_code (6 : Nat) (Option.some Jvm.ClassFile.FieldType.int)) ∈ pn_all := pn_in3 44 rfl rfl
theorem kn_525 : (Jvm.Cond.methodLinkNest "PackedNumbers" (146 : Nat) ({ cls := "PackedNumbers$Row", name := "becomeSizeSum", desc := "(LPackedNumbers$Row;LPackedNumbers$Row;)V" } : Jvm.MethodName) "PackedNumbers") ∈ pn_nest := pn_inN3 45 rfl rfl
theorem kn_526 : (Jvm.Cond.methodLinkNest "PackedNumbers" (149 : Nat) ({ cls := "PackedNumbers$Row", name := "compareSize", desc := "(LPackedNumbers$Row;)I" } : Jvm.MethodName) "PackedNumbers") ∈ pn_nest := pn_inN3 46 rfl rfl
theorem kn_527 : (Jvm.Cond.methodLinkNest "PackedNumbers" (153 : Nat) ({ cls := "PackedNumbers$Row", name := "isOdd", desc := "()Z" } : Jvm.MethodName) "PackedNumbers") ∈ pn_nest := pn_inN3 47 rfl rfl
theorem kw_529 : (Jvm.Cond.instanceMethod ({ cls := "PackedNumbers$Row", name := "isOdd", desc := "()Z" } : Jvm.MethodName)) ∈ pn_all := pn_in3 49 rfl rfl
theorem kw_530 : (Jvm.Cond.code ({ cls := "PackedNumbers$Row", name := "isOdd", desc := "()Z" } : Jvm.MethodName) prog_4_method_9_code (1 : Nat) (Option.some Jvm.ClassFile.FieldType.boolean)) ∈ pn_all := pn_in3 50 rfl rfl
theorem kw_531 : (Jvm.Cond.methodLink "PackedNumbersLaw" (134 : Nat) ({ cls := "PackedNumbersLaw", name := "gcd", desc := "(LPackedNumbers;III[J)I" } : Jvm.MethodName)) ∈ pn_all := pn_in3 51 rfl rfl
theorem kw_532 : (Jvm.Cond.static ({ cls := "PackedNumbersLaw", name := "gcd", desc := "(LPackedNumbers;III[J)I" } : Jvm.MethodName)) ∈ pn_all := pn_in3 52 rfl rfl
theorem kw_533 : (Jvm.Cond.codeWith ({ cls := "PackedNumbersLaw", name := "gcd", desc := "(LPackedNumbers;III[J)I" } : Jvm.MethodName) method_15_code (6 : Nat) (Option.some Jvm.ClassFile.FieldType.int) [((0 : Nat), (12 : Nat), (15 : Nat), (13 : Nat))]) ∈ pn_all := pn_in3 53 rfl rfl
theorem kw_534 : (Jvm.Cond.methodLink "PackedNumbersLaw" (59 : Nat) ({ cls := "PackedNumbers", name := "gcd", desc := "(III)I" } : Jvm.MethodName)) ∈ pn_all := pn_in3 54 rfl rfl
theorem kw_535 : (Jvm.Cond.instanceMethod ({ cls := "PackedNumbers", name := "gcd", desc := "(III)I" } : Jvm.MethodName)) ∈ pn_all := pn_in3 55 rfl rfl
theorem kw_536 : (Jvm.Cond.selects "PackedNumbers" ({ cls := "PackedNumbers", name := "gcd", desc := "(III)I" } : Jvm.MethodName) ({ cls := "PackedNumbers", name := "gcd", desc := "(III)I" } : Jvm.MethodName)) ∈ pn_all := pn_in3 56 rfl rfl
theorem kw_537 : (Jvm.Cond.code ({ cls := "PackedNumbers", name := "gcd", desc := "(III)I" } : Jvm.MethodName) prog_1_method_14_code (4 : Nat) (Option.some Jvm.ClassFile.FieldType.int)) ∈ pn_all := pn_in3 57 rfl rfl
theorem kn_538 : (Jvm.Cond.methodLinkNest "PackedNumbers" (157 : Nat) ({ cls := "PackedNumbers$Euclid", name := "greatest", desc := "(LPackedNumbers$Row;LPackedNumbers$Row;LPackedNumbers$Row;)LPackedNumbers$Row;" } : Jvm.MethodName) "PackedNumbers") ∈ pn_nest := pn_inN3 58 rfl rfl
theorem kw_540 : (Jvm.Cond.instanceMethod ({ cls := "PackedNumbers$Euclid", name := "greatest", desc := "(LPackedNumbers$Row;LPackedNumbers$Row;LPackedNumbers$Row;)LPackedNumbers$Row;" } : Jvm.MethodName)) ∈ pn_all := pn_in3 60 rfl rfl
theorem kw_541 : (Jvm.Cond.code ({ cls := "PackedNumbers$Euclid", name := "greatest", desc := "(LPackedNumbers$Row;LPackedNumbers$Row;LPackedNumbers$Row;)LPackedNumbers$Row;" } : Jvm.MethodName) prog_3_method_2_code (10 : Nat) (Option.some (Jvm.ClassFile.FieldType.object "PackedNumbers$Row"))) ∈ pn_all := pn_in3 61 rfl rfl
theorem kn_542 : (Jvm.Cond.methodLinkNest "PackedNumbers$Euclid" (24 : Nat) ({ cls := "PackedNumbers$Row", name := "compareSize", desc := "(LPackedNumbers$Row;)I" } : Jvm.MethodName) "PackedNumbers") ∈ pn_nest := pn_inN3 62 rfl rfl
theorem kw_543 : (Jvm.Cond.constant "PackedNumbers$Euclid" (30 : Nat) (40000 : Int32)) ∈ pn_all := pn_in3 63 rfl rfl
theorem kn_544 : (Jvm.Cond.methodLinkNest "PackedNumbers$Euclid" (35 : Nat) ({ cls := "PackedNumbers$Row", name := "bits", desc := "()I" } : Jvm.MethodName) "PackedNumbers") ∈ pn_nest := pn_inN3 64 rfl rfl
theorem kw_545 : (Jvm.Cond.methodLink "PackedNumbers$Euclid" (39 : Nat) ({ cls := "java/lang/Math", name := "max", desc := "(II)I" } : Jvm.MethodName)) ∈ pn_all := pn_in3 65 rfl rfl
theorem kn_546 : (Jvm.Cond.methodLinkNest "PackedNumbers$Euclid" (45 : Nat) ({ cls := "PackedNumbers$Row", name := "bitsFrom", desc := "(I)J" } : Jvm.MethodName) "PackedNumbers") ∈ pn_nest := pn_inN3 66 rfl rfl
theorem kw_548 : (Jvm.Cond.instanceMethod ({ cls := "PackedNumbers$Row", name := "bitsFrom", desc := "(I)J" } : Jvm.MethodName)) ∈ pn_all := pn_in3 68 rfl rfl
theorem kw_549 : (Jvm.Cond.code ({ cls := "PackedNumbers$Row", name := "bitsFrom", desc := "(I)J" } : Jvm.MethodName) prog_4_method_22_code (6 : Nat) (Option.some Jvm.ClassFile.FieldType.long)) ∈ pn_all := pn_in3 69 rfl rfl
theorem kw_550 : (Jvm.Cond.methodLink "PackedNumbers$Euclid" (49 : Nat) ({ cls := "PackedNumbers$Euclid", name := "foresee", desc := "(JJ)V" } : Jvm.MethodName)) ∈ pn_all := pn_in3 70 rfl rfl
theorem kw_552 : (Jvm.Cond.instanceMethod ({ cls := "PackedNumbers$Euclid", name := "foresee", desc := "(JJ)V" } : Jvm.MethodName)) ∈ pn_all := pn_in3 72 rfl rfl
theorem kw_553 : (Jvm.Cond.code ({ cls := "PackedNumbers$Euclid", name := "foresee", desc := "(JJ)V" } : Jvm.MethodName) prog_3_method_3_code (18 : Nat) (Option.none : Option Jvm.ClassFile.FieldType)) ∈ pn_all := pn_in3 73 rfl rfl
theorem kw_554 : (Jvm.Cond.constantLong "PackedNumbers$Euclid" (67 : Nat) (2147483647 : Int64)) ∈ pn_all := pn_in3 74 rfl rfl
theorem kw_555 : (Jvm.Cond.methodLink "PackedNumbers$Euclid" (69 : Nat) ({ cls := "java/lang/Math", name := "abs", desc := "(J)J" } : Jvm.MethodName)) ∈ pn_all := pn_in3 75 rfl rfl
theorem kw_556 : (Jvm.Cond.static ({ cls := "java/lang/Math", name := "abs", desc := "(J)J" } : Jvm.MethodName)) ∈ pn_all := pn_in3 76 rfl rfl
theorem kw_557 : (Jvm.Cond.code ({ cls := "java/lang/Math", name := "abs", desc := "(J)J" } : Jvm.MethodName) prog_14_method_61_code (2 : Nat) (Option.some Jvm.ClassFile.FieldType.long)) ∈ pn_all := pn_in3 77 rfl rfl
theorem kw_558 : (Jvm.Cond.methodLink "PackedNumbers$Euclid" (53 : Nat) ({ cls := "PackedNumbers$Euclid", name := "follow", desc := "(LPackedNumbers$Row;LPackedNumbers$Row;)V" } : Jvm.MethodName)) ∈ pn_all := pn_in3 78 rfl rfl
theorem kw_560 : (Jvm.Cond.instanceMethod ({ cls := "PackedNumbers$Euclid", name := "follow", desc := "(LPackedNumbers$Row;LPackedNumbers$Row;)V" } : Jvm.MethodName)) ∈ pn_all := pn_in3 80 rfl rfl
theorem kw_561 : (Jvm.Cond.code ({ cls := "PackedNumbers$Euclid", name := "follow", desc := "(LPackedNumbers$Row;LPackedNumbers$Row;)V" } : Jvm.MethodName) prog_3_method_4_code (13 : Nat) (Option.none : Option Jvm.ClassFile.FieldType)) ∈ pn_all := pn_in3 81 rfl rfl
theorem kn_562 : (Jvm.Cond.methodLinkNest "PackedNumbers$Euclid" (73 : Nat) ({ cls := "PackedNumbers$Row", name := "clear", desc := "(II)V" } : Jvm.MethodName) "PackedNumbers") ∈ pn_nest := pn_inN3 82 rfl rfl
theorem kw_563 : (Jvm.Cond.constantLong "PackedNumbers$Euclid" (81 : Nat) (4294967295 : Int64)) ∈ pn_all := pn_in3 83 rfl rfl
theorem kn_564 : (Jvm.Cond.methodLinkNest "PackedNumbers$Euclid" (83 : Nat) ({ cls := "PackedNumbers$Row", name := "fit", desc := "(I)V" } : Jvm.MethodName) "PackedNumbers") ∈ pn_nest := pn_inN3 84 rfl rfl
theorem kn_565 : (Jvm.Cond.methodLinkNest "PackedNumbers$Euclid" (57 : Nat) ({ cls := "PackedNumbers$Division", name := "split", desc := "(LPackedNumbers$Row;LPackedNumbers$Row;LPackedNumbers$Row;)V" } : Jvm.MethodName) "PackedNumbers") ∈ pn_nest := pn_inN3 85 rfl rfl
theorem kw_566 : (Jvm.Cond.methodLink "PackedNumbersLaw" (137 : Nat) ({ cls := "PackedNumbersLaw", name := "compare", desc := "(LPackedNumbers;II[J)I" } : Jvm.MethodName)) ∈ pn_all := pn_in3 86 rfl rfl
theorem kw_567 : (Jvm.Cond.static ({ cls := "PackedNumbersLaw", name := "compare", desc := "(LPackedNumbers;II[J)I" } : Jvm.MethodName)) ∈ pn_all := pn_in3 87 rfl rfl
theorem kw_568 : (Jvm.Cond.codeWith ({ cls := "PackedNumbersLaw", name := "compare", desc := "(LPackedNumbers;II[J)I" } : Jvm.MethodName) method_16_code (5 : Nat) (Option.some Jvm.ClassFile.FieldType.int) [((0 : Nat), (10 : Nat), (13 : Nat), (13 : Nat))]) ∈ pn_all := pn_in3 88 rfl rfl
theorem kw_569 : (Jvm.Cond.methodLink "PackedNumbersLaw" (62 : Nat) ({ cls := "PackedNumbers", name := "compare", desc := "(II)I" } : Jvm.MethodName)) ∈ pn_all := pn_in3 89 rfl rfl
theorem kw_570 : (Jvm.Cond.instanceMethod ({ cls := "PackedNumbers", name := "compare", desc := "(II)I" } : Jvm.MethodName)) ∈ pn_all := pn_in3 90 rfl rfl
theorem kw_571 : (Jvm.Cond.selects "PackedNumbers" ({ cls := "PackedNumbers", name := "compare", desc := "(II)I" } : Jvm.MethodName) ({ cls := "PackedNumbers", name := "compare", desc := "(II)I" } : Jvm.MethodName)) ∈ pn_all := pn_in3 91 rfl rfl
theorem kw_572 : (Jvm.Cond.code ({ cls := "PackedNumbers", name := "compare", desc := "(II)I" } : Jvm.MethodName) prog_1_method_15_code (4 : Nat) (Option.some Jvm.ClassFile.FieldType.int)) ∈ pn_all := pn_in3 92 rfl rfl
theorem kw_573 : (Jvm.Cond.methodLink "PackedNumbersLaw" (140 : Nat) ({ cls := "PackedNumbersLaw", name := "sign", desc := "(LPackedNumbers;I[J)I" } : Jvm.MethodName)) ∈ pn_all := pn_in3 93 rfl rfl
theorem kw_574 : (Jvm.Cond.static ({ cls := "PackedNumbersLaw", name := "sign", desc := "(LPackedNumbers;I[J)I" } : Jvm.MethodName)) ∈ pn_all := pn_in3 94 rfl rfl
theorem kw_575 : (Jvm.Cond.codeWith ({ cls := "PackedNumbersLaw", name := "sign", desc := "(LPackedNumbers;I[J)I" } : Jvm.MethodName) method_17_code (4 : Nat) (Option.some Jvm.ClassFile.FieldType.int) [((0 : Nat), (9 : Nat), (12 : Nat), (13 : Nat))]) ∈ pn_all := pn_in3 95 rfl rfl
theorem kw_576 : (Jvm.Cond.methodLink "PackedNumbersLaw" (65 : Nat) ({ cls := "PackedNumbers", name := "sign", desc := "(I)I" } : Jvm.MethodName)) ∈ pn_all := pn_in3 96 rfl rfl
theorem kw_577 : (Jvm.Cond.instanceMethod ({ cls := "PackedNumbers", name := "sign", desc := "(I)I" } : Jvm.MethodName)) ∈ pn_all := pn_in3 97 rfl rfl
theorem kw_578 : (Jvm.Cond.selects "PackedNumbers" ({ cls := "PackedNumbers", name := "sign", desc := "(I)I" } : Jvm.MethodName) ({ cls := "PackedNumbers", name := "sign", desc := "(I)I" } : Jvm.MethodName)) ∈ pn_all := pn_in3 98 rfl rfl
theorem kw_579 : (Jvm.Cond.code ({ cls := "PackedNumbers", name := "sign", desc := "(I)I" } : Jvm.MethodName) prog_1_method_16_code (2 : Nat) (Option.some Jvm.ClassFile.FieldType.int)) ∈ pn_all := pn_in3 99 rfl rfl
theorem kw_580 : (Jvm.Cond.methodLink "PackedNumbersLaw" (143 : Nat) ({ cls := "PackedNumbersLaw", name := "length", desc := "(LPackedNumbers;I[J)I" } : Jvm.MethodName)) ∈ pn_all := pn_in3 100 rfl rfl
theorem kw_581 : (Jvm.Cond.static ({ cls := "PackedNumbersLaw", name := "length", desc := "(LPackedNumbers;I[J)I" } : Jvm.MethodName)) ∈ pn_all := pn_in3 101 rfl rfl
theorem kw_582 : (Jvm.Cond.codeWith ({ cls := "PackedNumbersLaw", name := "length", desc := "(LPackedNumbers;I[J)I" } : Jvm.MethodName) method_18_code (4 : Nat) (Option.some Jvm.ClassFile.FieldType.int) [((0 : Nat), (9 : Nat), (12 : Nat), (13 : Nat))]) ∈ pn_all := pn_in3 102 rfl rfl
theorem kw_583 : (Jvm.Cond.methodLink "PackedNumbersLaw" (68 : Nat) ({ cls := "PackedNumbers", name := "length", desc := "(I)I" } : Jvm.MethodName)) ∈ pn_all := pn_in3 103 rfl rfl
theorem kw_584 : (Jvm.Cond.methodLink "PackedNumbersLaw" (146 : Nat) ({ cls := "PackedNumbersLaw", name := "limb", desc := "(LPackedNumbers;II[J)I" } : Jvm.MethodName)) ∈ pn_all := pn_in3 104 rfl rfl
theorem kw_585 : (Jvm.Cond.static ({ cls := "PackedNumbersLaw", name := "limb", desc := "(LPackedNumbers;II[J)I" } : Jvm.MethodName)) ∈ pn_all := pn_in3 105 rfl rfl
theorem kw_586 : (Jvm.Cond.codeWith ({ cls := "PackedNumbersLaw", name := "limb", desc := "(LPackedNumbers;II[J)I" } : Jvm.MethodName) method_19_code (5 : Nat) (Option.some Jvm.ClassFile.FieldType.int) [((0 : Nat), (10 : Nat), (13 : Nat), (13 : Nat))]) ∈ pn_all := pn_in3 106 rfl rfl
theorem kw_587 : (Jvm.Cond.methodLink "PackedNumbersLaw" (71 : Nat) ({ cls := "PackedNumbers", name := "limb", desc := "(II)I" } : Jvm.MethodName)) ∈ pn_all := pn_in3 107 rfl rfl
theorem kw_588 : (Jvm.Cond.instanceMethod ({ cls := "PackedNumbers", name := "limb", desc := "(II)I" } : Jvm.MethodName)) ∈ pn_all := pn_in3 108 rfl rfl
theorem kw_589 : (Jvm.Cond.selects "PackedNumbers" ({ cls := "PackedNumbers", name := "limb", desc := "(II)I" } : Jvm.MethodName) ({ cls := "PackedNumbers", name := "limb", desc := "(II)I" } : Jvm.MethodName)) ∈ pn_all := pn_in3 109 rfl rfl
theorem kw_590 : (Jvm.Cond.code ({ cls := "PackedNumbers", name := "limb", desc := "(II)I" } : Jvm.MethodName) prog_1_method_18_code (3 : Nat) (Option.some Jvm.ClassFile.FieldType.int)) ∈ pn_all := pn_in3 110 rfl rfl
theorem kn_592 : (Jvm.Cond.methodLinkNest "PackedNumbers" (172 : Nat) ({ cls := "PackedNumbers$Row", name := "limbAt", desc := "(I)J" } : Jvm.MethodName) "PackedNumbers") ∈ pn_nest := pn_inN3 112 rfl rfl
theorem kw_593 : (Jvm.Cond.methodLink "PackedNumbersLaw" (149 : Nat) ({ cls := "PackedNumbersLaw", name := "rest", desc := "(LPackedNumbers;II[J)I" } : Jvm.MethodName)) ∈ pn_all := pn_in3 113 rfl rfl
theorem kw_594 : (Jvm.Cond.static ({ cls := "PackedNumbersLaw", name := "rest", desc := "(LPackedNumbers;II[J)I" } : Jvm.MethodName)) ∈ pn_all := pn_in3 114 rfl rfl
theorem kw_595 : (Jvm.Cond.codeWith ({ cls := "PackedNumbersLaw", name := "rest", desc := "(LPackedNumbers;II[J)I" } : Jvm.MethodName) method_20_code (5 : Nat) (Option.some Jvm.ClassFile.FieldType.int) [((0 : Nat), (10 : Nat), (13 : Nat), (13 : Nat)), ((0 : Nat), (10 : Nat), (17 : Nat), (49 : Nat))]) ∈ pn_all := pn_in3 115 rfl rfl
theorem kw_596 : (Jvm.Cond.methodLink "PackedNumbersLaw" (74 : Nat) ({ cls := "PackedNumbers", name := "rest", desc := "(II)I" } : Jvm.MethodName)) ∈ pn_all := pn_in3 116 rfl rfl
theorem kw_597 : (Jvm.Cond.instanceMethod ({ cls := "PackedNumbers", name := "rest", desc := "(II)I" } : Jvm.MethodName)) ∈ pn_all := pn_in3 117 rfl rfl
theorem kw_598 : (Jvm.Cond.selects "PackedNumbers" ({ cls := "PackedNumbers", name := "rest", desc := "(II)I" } : Jvm.MethodName) ({ cls := "PackedNumbers", name := "rest", desc := "(II)I" } : Jvm.MethodName)) ∈ pn_all := pn_in3 118 rfl rfl
theorem kw_599 : (Jvm.Cond.code ({ cls := "PackedNumbers", name := "rest", desc := "(II)I" } : Jvm.MethodName) prog_1_method_19_code (5 : Nat) (Option.some Jvm.ClassFile.FieldType.int)) ∈ pn_all := pn_in3 119 rfl rfl
theorem kn_601 : (Jvm.Cond.methodLinkNest "PackedNumbers" (178 : Nat) ({ cls := "PackedNumbers$Row", name := "shrink", desc := "(J)J" } : Jvm.MethodName) "PackedNumbers") ∈ pn_nest := pn_inN3 121 rfl rfl
theorem kw_602 : (Jvm.Cond.methodLink "PackedNumbersLaw" (152 : Nat) ({ cls := "PackedNumbersLaw", name := "print", desc := "(LPackedNumbers;I[J)I" } : Jvm.MethodName)) ∈ pn_all := pn_in3 122 rfl rfl
theorem kw_603 : (Jvm.Cond.static ({ cls := "PackedNumbersLaw", name := "print", desc := "(LPackedNumbers;I[J)I" } : Jvm.MethodName)) ∈ pn_all := pn_in3 123 rfl rfl
theorem kw_604 : (Jvm.Cond.codeWith ({ cls := "PackedNumbersLaw", name := "print", desc := "(LPackedNumbers;I[J)I" } : Jvm.MethodName) method_21_code (4 : Nat) (Option.some Jvm.ClassFile.FieldType.int) [((0 : Nat), (9 : Nat), (12 : Nat), (13 : Nat))]) ∈ pn_all := pn_in3 124 rfl rfl
theorem kw_605 : (Jvm.Cond.methodLink "PackedNumbersLaw" (77 : Nat) ({ cls := "PackedNumbers", name := "print", desc := "(I)I" } : Jvm.MethodName)) ∈ pn_all := pn_in3 125 rfl rfl
theorem kw_606 : (Jvm.Cond.instanceMethod ({ cls := "PackedNumbers", name := "print", desc := "(I)I" } : Jvm.MethodName)) ∈ pn_all := pn_in3 126 rfl rfl
theorem kw_607 : (Jvm.Cond.selects "PackedNumbers" ({ cls := "PackedNumbers", name := "print", desc := "(I)I" } : Jvm.MethodName) ({ cls := "PackedNumbers", name := "print", desc := "(I)I" } : Jvm.MethodName)) ∈ pn_all := pn_in3 127 rfl rfl
theorem kw_608 : (Jvm.Cond.code ({ cls := "PackedNumbers", name := "print", desc := "(I)I" } : Jvm.MethodName) prog_1_method_20_code (2 : Nat) (Option.some Jvm.ClassFile.FieldType.int)) ∈ pn_all := pn_in3 128 rfl rfl
theorem kn_609 : (Jvm.Cond.methodLinkNest "PackedNumbers" (182 : Nat) ({ cls := "PackedNumbers$Text", name := "write", desc := "(LPackedNumbers$Row;)I" } : Jvm.MethodName) "PackedNumbers") ∈ pn_nest := pn_inN3 129 rfl rfl
theorem kw_611 : (Jvm.Cond.instanceMethod ({ cls := "PackedNumbers$Text", name := "write", desc := "(LPackedNumbers$Row;)I" } : Jvm.MethodName)) ∈ pn_all := pn_in3 131 rfl rfl
theorem kw_612 : (Jvm.Cond.code ({ cls := "PackedNumbers$Text", name := "write", desc := "(LPackedNumbers$Row;)I" } : Jvm.MethodName) prog_6_method_2_code (4 : Nat) (Option.some Jvm.ClassFile.FieldType.int)) ∈ pn_all := pn_in3 132 rfl rfl
theorem kw_613 : (Jvm.Cond.methodLink "PackedNumbers$Text" (28 : Nat) ({ cls := "PackedNumbers$Text", name := "putBefore", desc := "(I)V" } : Jvm.MethodName)) ∈ pn_all := pn_in3 133 rfl rfl
theorem kw_615 : (Jvm.Cond.instanceMethod ({ cls := "PackedNumbers$Text", name := "putBefore", desc := "(I)V" } : Jvm.MethodName)) ∈ pn_all := pn_in3 135 rfl rfl
theorem kw_616 : (Jvm.Cond.code ({ cls := "PackedNumbers$Text", name := "putBefore", desc := "(I)V" } : Jvm.MethodName) prog_6_method_4_code (2 : Nat) (Option.none : Option Jvm.ClassFile.FieldType)) ∈ pn_all := pn_in3 136 rfl rfl
theorem kw_617 : (Jvm.Cond.constantLong "PackedNumbers$Text" (32 : Nat) (1000000000 : Int64)) ∈ pn_all := pn_in3 137 rfl rfl
theorem kn_618 : (Jvm.Cond.methodLinkNest "PackedNumbers$Text" (34 : Nat) ({ cls := "PackedNumbers$Row", name := "shrink", desc := "(J)J" } : Jvm.MethodName) "PackedNumbers") ∈ pn_nest := pn_inN3 138 rfl rfl
theorem kw_619 : (Jvm.Cond.methodLink "PackedNumbers$Text" (38 : Nat) ({ cls := "PackedNumbers$Text", name := "writeChunk", desc := "(IZ)V" } : Jvm.MethodName)) ∈ pn_all := pn_in3 139 rfl rfl
theorem kw_621 : (Jvm.Cond.instanceMethod ({ cls := "PackedNumbers$Text", name := "writeChunk", desc := "(IZ)V" } : Jvm.MethodName)) ∈ pn_all := pn_in3 141 rfl rfl
theorem kw_622 : (Jvm.Cond.code ({ cls := "PackedNumbers$Text", name := "writeChunk", desc := "(IZ)V" } : Jvm.MethodName) prog_6_method_3_code (5 : Nat) (Option.none : Option Jvm.ClassFile.FieldType)) ∈ pn_all := pn_in3 142 rfl rfl
theorem kw_623 : (Jvm.Cond.classLink "PackedNumbersLaw" (81 : Nat) "PackedNumbersModel") ∈ pn_all := pn_in3 143 rfl rfl
theorem kw_624 : (Jvm.Cond.instantiable "PackedNumbersModel" (9 : Nat)) ∈ pn_all := pn_in3 144 rfl rfl
theorem kw_625 : (Jvm.Cond.methodLink "PackedNumbersLaw" (83 : Nat) ({ cls := "PackedNumbersModel", name := "<init>", desc := "()V" } : Jvm.MethodName)) ∈ pn_all := pn_in3 145 rfl rfl
theorem kw_626 : (Jvm.Cond.instanceMethod ({ cls := "PackedNumbersModel", name := "<init>", desc := "()V" } : Jvm.MethodName)) ∈ pn_all := pn_in3 146 rfl rfl
theorem kw_627 : (Jvm.Cond.code ({ cls := "PackedNumbersModel", name := "<init>", desc := "()V" } : Jvm.MethodName) prog_8_method_1_code (1 : Nat) (Option.none : Option Jvm.ClassFile.FieldType)) ∈ pn_all := pn_in3 147 rfl rfl
theorem kw_628 : (Jvm.Cond.methodLink "PackedNumbersModel" (1 : Nat) ({ cls := "java/lang/Object", name := "<init>", desc := "()V" } : Jvm.MethodName)) ∈ pn_all := pn_in3 148 rfl rfl
theorem kw_629 : (Jvm.Cond.constant "PackedNumbersModel" (16 : Nat) (36480 : Int32)) ∈ pn_all := pn_in3 149 rfl rfl
theorem kw_630 : (Jvm.Cond.fieldLink "PackedNumbersModel" (32 : Nat) "PackedNumbersModel" "code" "I") ∈ pn_all := pn_in3 150 rfl rfl
theorem kw_631 : (Jvm.Cond.fieldLink "PackedNumbersModel" (7 : Nat) "PackedNumbersModel" "work" "[I") ∈ pn_all := pn_in3 151 rfl rfl
theorem kw_632 : (Jvm.Cond.fieldLink "PackedNumbersModel" (13 : Nat) "PackedNumbersModel" "many" "[I") ∈ pn_all := pn_in3 152 rfl rfl
theorem kw_633 : (Jvm.Cond.fieldLink "PackedNumbersModel" (17 : Nat) "PackedNumbersModel" "kept" "[I") ∈ pn_all := pn_in3 153 rfl rfl
theorem kw_634 : (Jvm.Cond.fieldLink "PackedNumbersModel" (20 : Nat) "PackedNumbersModel" "keptMany" "[I") ∈ pn_all := pn_in3 154 rfl rfl
theorem kw_635 : (Jvm.Cond.fieldLink "PackedNumbersModel" (23 : Nat) "PackedNumbersModel" "signs" "[I") ∈ pn_all := pn_in3 155 rfl rfl
theorem kw_636 : (Jvm.Cond.fieldLink "PackedNumbersModel" (26 : Nat) "PackedNumbersModel" "halves" "[I") ∈ pn_all := pn_in3 156 rfl rfl
theorem kw_637 : (Jvm.Cond.fieldLink "PackedNumbersModel" (29 : Nat) "PackedNumbersModel" "printed" "[I") ∈ pn_all := pn_in3 157 rfl rfl
theorem kw_638 : (Jvm.Cond.fieldLink "PackedNumbersModel" (118 : Nat) "PackedNumbersModel" "printedLength" "I") ∈ pn_all := pn_in3 158 rfl rfl
theorem kw_658 : (Jvm.Cond.methodLink "PackedNumbersLaw" (92 : Nat) ({ cls := "PackedNumbersModel", name := "thrown", desc := "()I" } : Jvm.MethodName)) ∈ pn_all := pn_in3 178 rfl rfl
theorem kw_659 : (Jvm.Cond.instanceMethod ({ cls := "PackedNumbersModel", name := "thrown", desc := "()I" } : Jvm.MethodName)) ∈ pn_all := pn_in3 179 rfl rfl
theorem kw_660 : (Jvm.Cond.selects "PackedNumbersModel" ({ cls := "PackedNumbersModel", name := "thrown", desc := "()I" } : Jvm.MethodName) ({ cls := "PackedNumbersModel", name := "thrown", desc := "()I" } : Jvm.MethodName)) ∈ pn_all := pn_in3 180 rfl rfl
theorem kw_661 : (Jvm.Cond.code ({ cls := "PackedNumbersModel", name := "thrown", desc := "()I" } : Jvm.MethodName) prog_8_method_2_code (1 : Nat) (Option.some Jvm.ClassFile.FieldType.int)) ∈ pn_all := pn_in3 181 rfl rfl
theorem kw_662 : (Jvm.Cond.methodLink "PackedNumbersLaw" (91 : Nat) ({ cls := "PackedNumbersModel", name := "set", desc := "(IJ)I" } : Jvm.MethodName)) ∈ pn_all := pn_in3 182 rfl rfl
theorem kw_663 : (Jvm.Cond.instanceMethod ({ cls := "PackedNumbersModel", name := "set", desc := "(IJ)I" } : Jvm.MethodName)) ∈ pn_all := pn_in3 183 rfl rfl
theorem kw_664 : (Jvm.Cond.selects "PackedNumbersModel" ({ cls := "PackedNumbersModel", name := "set", desc := "(IJ)I" } : Jvm.MethodName) ({ cls := "PackedNumbersModel", name := "set", desc := "(IJ)I" } : Jvm.MethodName)) ∈ pn_all := pn_in3 184 rfl rfl
theorem kw_665 : (Jvm.Cond.code ({ cls := "PackedNumbersModel", name := "set", desc := "(IJ)I" } : Jvm.MethodName) prog_8_method_22_code (4 : Nat) (Option.some Jvm.ClassFile.FieldType.int)) ∈ pn_all := pn_in3 185 rfl rfl
theorem kw_666 : (Jvm.Cond.methodLink "PackedNumbersModel" (36 : Nat) ({ cls := "PackedNumbersModel", name := "isRegister", desc := "(I)Z" } : Jvm.MethodName)) ∈ pn_all := pn_in3 186 rfl rfl
theorem kw_667 : (Jvm.Cond.static ({ cls := "PackedNumbersModel", name := "isRegister", desc := "(I)Z" } : Jvm.MethodName)) ∈ pn_all := pn_in3 187 rfl rfl
theorem kw_668 : (Jvm.Cond.code ({ cls := "PackedNumbersModel", name := "isRegister", desc := "(I)Z" } : Jvm.MethodName) prog_8_method_4_code (1 : Nat) (Option.some Jvm.ClassFile.FieldType.boolean)) ∈ pn_all := pn_in3 188 rfl rfl
theorem kw_669 : (Jvm.Cond.methodLink "PackedNumbersModel" (73 : Nat) ({ cls := "PackedNumbersModel", name := "refuses", desc := "(I)Z" } : Jvm.MethodName)) ∈ pn_all := pn_in3 189 rfl rfl
theorem kw_671 : (Jvm.Cond.instanceMethod ({ cls := "PackedNumbersModel", name := "refuses", desc := "(I)Z" } : Jvm.MethodName)) ∈ pn_all := pn_in3 191 rfl rfl
theorem kw_672 : (Jvm.Cond.code ({ cls := "PackedNumbersModel", name := "refuses", desc := "(I)Z" } : Jvm.MethodName) prog_8_method_3_code (2 : Nat) (Option.some Jvm.ClassFile.FieldType.boolean)) ∈ pn_all := pn_in3 192 rfl rfl
theorem kw_673 : (Jvm.Cond.methodLink "PackedNumbersModel" (76 : Nat) ({ cls := "PackedNumbersModel", name := "setLong", desc := "(IJ)V" } : Jvm.MethodName)) ∈ pn_all := pn_in3 193 rfl rfl
theorem kw_675 : (Jvm.Cond.instanceMethod ({ cls := "PackedNumbersModel", name := "setLong", desc := "(IJ)V" } : Jvm.MethodName)) ∈ pn_all := pn_in3 195 rfl rfl
theorem kw_676 : (Jvm.Cond.code ({ cls := "PackedNumbersModel", name := "setLong", desc := "(IJ)V" } : Jvm.MethodName) prog_8_method_7_code (8 : Nat) (Option.none : Option Jvm.ClassFile.FieldType)) ∈ pn_all := pn_in3 196 rfl rfl
theorem kw_677 : (Jvm.Cond.constantLong "PackedNumbersModel" (40 : Nat) (10000 : Int64)) ∈ pn_all := pn_in3 197 rfl rfl
theorem kw_678 : (Jvm.Cond.methodLink "PackedNumbersModel" (80 : Nat) ({ cls := "PackedNumbersModel", name := "put", desc := "(IIII)I" } : Jvm.MethodName)) ∈ pn_all := pn_in3 198 rfl rfl
theorem kw_680 : (Jvm.Cond.instanceMethod ({ cls := "PackedNumbersModel", name := "put", desc := "(IIII)I" } : Jvm.MethodName)) ∈ pn_all := pn_in3 200 rfl rfl
theorem kw_681 : (Jvm.Cond.code ({ cls := "PackedNumbersModel", name := "put", desc := "(IIII)I" } : Jvm.MethodName) prog_8_method_21_code (7 : Nat) (Option.some Jvm.ClassFile.FieldType.int)) ∈ pn_all := pn_in3 201 rfl rfl
theorem kw_682 : (Jvm.Cond.methodLink "PackedNumbersModel" (70 : Nat) ({ cls := "PackedNumbersModel", name := "bits", desc := "(I)I" } : Jvm.MethodName)) ∈ pn_all := pn_in3 202 rfl rfl
theorem kw_684 : (Jvm.Cond.instanceMethod ({ cls := "PackedNumbersModel", name := "bits", desc := "(I)I" } : Jvm.MethodName)) ∈ pn_all := pn_in3 204 rfl rfl
theorem kw_685 : (Jvm.Cond.code ({ cls := "PackedNumbersModel", name := "bits", desc := "(I)I" } : Jvm.MethodName) prog_8_method_19_code (4 : Nat) (Option.some Jvm.ClassFile.FieldType.int)) ∈ pn_all := pn_in3 205 rfl rfl
theorem kw_686 : (Jvm.Cond.methodLink "PackedNumbersModel" (66 : Nat) ({ cls := "PackedNumbersModel", name := "parts", desc := "(I)I" } : Jvm.MethodName)) ∈ pn_all := pn_in3 206 rfl rfl
theorem kw_688 : (Jvm.Cond.instanceMethod ({ cls := "PackedNumbersModel", name := "parts", desc := "(I)I" } : Jvm.MethodName)) ∈ pn_all := pn_in3 208 rfl rfl
theorem kw_689 : (Jvm.Cond.code ({ cls := "PackedNumbersModel", name := "parts", desc := "(I)I" } : Jvm.MethodName) prog_8_method_18_code (6 : Nat) (Option.some Jvm.ClassFile.FieldType.int)) ∈ pn_all := pn_in3 209 rfl rfl
theorem kw_690 : (Jvm.Cond.methodLink "PackedNumbersModel" (62 : Nat) ({ cls := "PackedNumbersModel", name := "copyTo", desc := "(II)V" } : Jvm.MethodName)) ∈ pn_all := pn_in3 210 rfl rfl
theorem kw_692 : (Jvm.Cond.instanceMethod ({ cls := "PackedNumbersModel", name := "copyTo", desc := "(II)V" } : Jvm.MethodName)) ∈ pn_all := pn_in3 212 rfl rfl
theorem kw_693 : (Jvm.Cond.code ({ cls := "PackedNumbersModel", name := "copyTo", desc := "(II)V" } : Jvm.MethodName) prog_8_method_8_code (4 : Nat) (Option.none : Option Jvm.ClassFile.FieldType)) ∈ pn_all := pn_in3 213 rfl rfl
theorem kw_694 : (Jvm.Cond.constant "PackedNumbersModel" (65 : Nat) (65536 : Int32)) ∈ pn_all := pn_in3 214 rfl rfl
theorem kw_695 : (Jvm.Cond.methodLink "PackedNumbersModel" (46 : Nat) ({ cls := "PackedNumbersModel", name := "trim", desc := "(II)V" } : Jvm.MethodName)) ∈ pn_all := pn_in3 215 rfl rfl
theorem kw_697 : (Jvm.Cond.instanceMethod ({ cls := "PackedNumbersModel", name := "trim", desc := "(II)V" } : Jvm.MethodName)) ∈ pn_all := pn_in3 217 rfl rfl
theorem kw_698 : (Jvm.Cond.code ({ cls := "PackedNumbersModel", name := "trim", desc := "(II)V" } : Jvm.MethodName) prog_8_method_6_code (4 : Nat) (Option.none : Option Jvm.ClassFile.FieldType)) ∈ pn_all := pn_in3 218 rfl rfl
theorem kw_699 : (Jvm.Cond.methodLink "PackedNumbersLaw" (99 : Nat) ({ cls := "PackedNumbersModel", name := "push", desc := "(II)I" } : Jvm.MethodName)) ∈ pn_all := pn_in3 219 rfl rfl
theorem kw_700 : (Jvm.Cond.instanceMethod ({ cls := "PackedNumbersModel", name := "push", desc := "(II)I" } : Jvm.MethodName)) ∈ pn_all := pn_in3 220 rfl rfl
theorem kw_701 : (Jvm.Cond.selects "PackedNumbersModel" ({ cls := "PackedNumbersModel", name := "push", desc := "(II)I" } : Jvm.MethodName) ({ cls := "PackedNumbersModel", name := "push", desc := "(II)I" } : Jvm.MethodName)) ∈ pn_all := pn_in3 221 rfl rfl
theorem kw_702 : (Jvm.Cond.code ({ cls := "PackedNumbersModel", name := "push", desc := "(II)I" } : Jvm.MethodName) prog_8_method_23_code (3 : Nat) (Option.some Jvm.ClassFile.FieldType.int)) ∈ pn_all := pn_in3 222 rfl rfl
theorem kw_703 : (Jvm.Cond.methodLink "PackedNumbersModel" (84 : Nat) ({ cls := "PackedNumbersModel", name := "load", desc := "(II)V" } : Jvm.MethodName)) ∈ pn_all := pn_in3 223 rfl rfl
theorem kw_705 : (Jvm.Cond.instanceMethod ({ cls := "PackedNumbersModel", name := "load", desc := "(II)V" } : Jvm.MethodName)) ∈ pn_all := pn_in3 225 rfl rfl
theorem kw_706 : (Jvm.Cond.code ({ cls := "PackedNumbersModel", name := "load", desc := "(II)V" } : Jvm.MethodName) prog_8_method_20_code (4 : Nat) (Option.none : Option Jvm.ClassFile.FieldType)) ∈ pn_all := pn_in3 226 rfl rfl
theorem kw_707 : (Jvm.Cond.methodLink "PackedNumbersModel" (87 : Nat) ({ cls := "PackedNumbersModel", name := "small", desc := "(II)V" } : Jvm.MethodName)) ∈ pn_all := pn_in3 227 rfl rfl
theorem kw_709 : (Jvm.Cond.instanceMethod ({ cls := "PackedNumbersModel", name := "small", desc := "(II)V" } : Jvm.MethodName)) ∈ pn_all := pn_in3 229 rfl rfl
theorem kw_710 : (Jvm.Cond.code ({ cls := "PackedNumbersModel", name := "small", desc := "(II)V" } : Jvm.MethodName) prog_8_method_13_code (7 : Nat) (Option.none : Option Jvm.ClassFile.FieldType)) ∈ pn_all := pn_in3 230 rfl rfl
theorem kw_711 : (Jvm.Cond.constantLong "PackedNumbersModel" (90 : Nat) (4294967295 : Int64)) ∈ pn_all := pn_in3 231 rfl rfl
theorem kw_712 : (Jvm.Cond.methodLink "PackedNumbersModel" (92 : Nat) ({ cls := "PackedNumbersModel", name := "addTo", desc := "(II)V" } : Jvm.MethodName)) ∈ pn_all := pn_in3 232 rfl rfl
theorem kw_714 : (Jvm.Cond.instanceMethod ({ cls := "PackedNumbersModel", name := "addTo", desc := "(II)V" } : Jvm.MethodName)) ∈ pn_all := pn_in3 234 rfl rfl
theorem kw_715 : (Jvm.Cond.code ({ cls := "PackedNumbersModel", name := "addTo", desc := "(II)V" } : Jvm.MethodName) prog_8_method_11_code (7 : Nat) (Option.none : Option Jvm.ClassFile.FieldType)) ∈ pn_all := pn_in3 235 rfl rfl
theorem kw_716 : (Jvm.Cond.methodLink "PackedNumbersModel" (42 : Nat) ({ cls := "PackedNumbersModel", name := "figure", desc := "(II)I" } : Jvm.MethodName)) ∈ pn_all := pn_in3 236 rfl rfl
theorem kw_718 : (Jvm.Cond.instanceMethod ({ cls := "PackedNumbersModel", name := "figure", desc := "(II)I" } : Jvm.MethodName)) ∈ pn_all := pn_in3 238 rfl rfl
theorem kw_719 : (Jvm.Cond.code ({ cls := "PackedNumbersModel", name := "figure", desc := "(II)I" } : Jvm.MethodName) prog_8_method_10_code (3 : Nat) (Option.some Jvm.ClassFile.FieldType.int)) ∈ pn_all := pn_in3 239 rfl rfl
theorem kw_720 : (Jvm.Cond.methodLink "PackedNumbersLaw" (102 : Nat) ({ cls := "PackedNumbersModel", name := "copy", desc := "(II)I" } : Jvm.MethodName)) ∈ pn_all := pn_in4 0 rfl rfl
theorem kw_721 : (Jvm.Cond.instanceMethod ({ cls := "PackedNumbersModel", name := "copy", desc := "(II)I" } : Jvm.MethodName)) ∈ pn_all := pn_in4 1 rfl rfl
theorem kw_722 : (Jvm.Cond.selects "PackedNumbersModel" ({ cls := "PackedNumbersModel", name := "copy", desc := "(II)I" } : Jvm.MethodName) ({ cls := "PackedNumbersModel", name := "copy", desc := "(II)I" } : Jvm.MethodName)) ∈ pn_all := pn_in4 2 rfl rfl
theorem kw_723 : (Jvm.Cond.code ({ cls := "PackedNumbersModel", name := "copy", desc := "(II)I" } : Jvm.MethodName) prog_8_method_24_code (3 : Nat) (Option.some Jvm.ClassFile.FieldType.int)) ∈ pn_all := pn_in4 3 rfl rfl
theorem kw_724 : (Jvm.Cond.methodLink "PackedNumbersModel" (95 : Nat) ({ cls := "PackedNumbersModel", name := "are", desc := "(III)Z" } : Jvm.MethodName)) ∈ pn_all := pn_in4 4 rfl rfl
theorem kw_725 : (Jvm.Cond.static ({ cls := "PackedNumbersModel", name := "are", desc := "(III)Z" } : Jvm.MethodName)) ∈ pn_all := pn_in4 5 rfl rfl
theorem kw_726 : (Jvm.Cond.code ({ cls := "PackedNumbersModel", name := "are", desc := "(III)Z" } : Jvm.MethodName) prog_8_method_5_code (3 : Nat) (Option.some Jvm.ClassFile.FieldType.boolean)) ∈ pn_all := pn_in4 6 rfl rfl
theorem kw_727 : (Jvm.Cond.methodLink "PackedNumbersLaw" (105 : Nat) ({ cls := "PackedNumbersModel", name := "swap", desc := "(II)I" } : Jvm.MethodName)) ∈ pn_all := pn_in4 7 rfl rfl
theorem kw_728 : (Jvm.Cond.instanceMethod ({ cls := "PackedNumbersModel", name := "swap", desc := "(II)I" } : Jvm.MethodName)) ∈ pn_all := pn_in4 8 rfl rfl
theorem kw_729 : (Jvm.Cond.selects "PackedNumbersModel" ({ cls := "PackedNumbersModel", name := "swap", desc := "(II)I" } : Jvm.MethodName) ({ cls := "PackedNumbersModel", name := "swap", desc := "(II)I" } : Jvm.MethodName)) ∈ pn_all := pn_in4 9 rfl rfl
theorem kw_730 : (Jvm.Cond.code ({ cls := "PackedNumbersModel", name := "swap", desc := "(II)I" } : Jvm.MethodName) prog_8_method_25_code (4 : Nat) (Option.some Jvm.ClassFile.FieldType.int)) ∈ pn_all := pn_in4 10 rfl rfl
theorem kw_731 : (Jvm.Cond.methodLink "PackedNumbersLaw" (109 : Nat) ({ cls := "PackedNumbersModel", name := "negate", desc := "(I)I" } : Jvm.MethodName)) ∈ pn_all := pn_in4 11 rfl rfl
theorem kw_732 : (Jvm.Cond.instanceMethod ({ cls := "PackedNumbersModel", name := "negate", desc := "(I)I" } : Jvm.MethodName)) ∈ pn_all := pn_in4 12 rfl rfl
theorem kw_733 : (Jvm.Cond.selects "PackedNumbersModel" ({ cls := "PackedNumbersModel", name := "negate", desc := "(I)I" } : Jvm.MethodName) ({ cls := "PackedNumbersModel", name := "negate", desc := "(I)I" } : Jvm.MethodName)) ∈ pn_all := pn_in4 13 rfl rfl
theorem kw_734 : (Jvm.Cond.code ({ cls := "PackedNumbersModel", name := "negate", desc := "(I)I" } : Jvm.MethodName) prog_8_method_26_code (2 : Nat) (Option.some Jvm.ClassFile.FieldType.int)) ∈ pn_all := pn_in4 14 rfl rfl
theorem kw_735 : (Jvm.Cond.methodLink "PackedNumbersLaw" (113 : Nat) ({ cls := "PackedNumbersModel", name := "add", desc := "(III)I" } : Jvm.MethodName)) ∈ pn_all := pn_in4 15 rfl rfl
theorem kw_736 : (Jvm.Cond.instanceMethod ({ cls := "PackedNumbersModel", name := "add", desc := "(III)I" } : Jvm.MethodName)) ∈ pn_all := pn_in4 16 rfl rfl
theorem kw_737 : (Jvm.Cond.selects "PackedNumbersModel" ({ cls := "PackedNumbersModel", name := "add", desc := "(III)I" } : Jvm.MethodName) ({ cls := "PackedNumbersModel", name := "add", desc := "(III)I" } : Jvm.MethodName)) ∈ pn_all := pn_in4 17 rfl rfl
theorem kw_738 : (Jvm.Cond.code ({ cls := "PackedNumbersModel", name := "add", desc := "(III)I" } : Jvm.MethodName) prog_8_method_28_code (5 : Nat) (Option.some Jvm.ClassFile.FieldType.int)) ∈ pn_all := pn_in4 18 rfl rfl
theorem kw_739 : (Jvm.Cond.methodLink "PackedNumbersModel" (105 : Nat) ({ cls := "PackedNumbersModel", name := "sum", desc := "(II)I" } : Jvm.MethodName)) ∈ pn_all := pn_in4 19 rfl rfl
theorem kw_741 : (Jvm.Cond.instanceMethod ({ cls := "PackedNumbersModel", name := "sum", desc := "(II)I" } : Jvm.MethodName)) ∈ pn_all := pn_in4 21 rfl rfl
theorem kw_742 : (Jvm.Cond.code ({ cls := "PackedNumbersModel", name := "sum", desc := "(II)I" } : Jvm.MethodName) prog_8_method_27_code (4 : Nat) (Option.some Jvm.ClassFile.FieldType.int)) ∈ pn_all := pn_in4 22 rfl rfl
theorem kw_743 : (Jvm.Cond.methodLink "PackedNumbersModel" (99 : Nat) ({ cls := "PackedNumbersModel", name := "order", desc := "(II)I" } : Jvm.MethodName)) ∈ pn_all := pn_in4 23 rfl rfl
theorem kw_745 : (Jvm.Cond.instanceMethod ({ cls := "PackedNumbersModel", name := "order", desc := "(II)I" } : Jvm.MethodName)) ∈ pn_all := pn_in4 25 rfl rfl
theorem kw_746 : (Jvm.Cond.code ({ cls := "PackedNumbersModel", name := "order", desc := "(II)I" } : Jvm.MethodName) prog_8_method_9_code (5 : Nat) (Option.some Jvm.ClassFile.FieldType.int)) ∈ pn_all := pn_in4 26 rfl rfl
theorem kw_747 : (Jvm.Cond.methodLink "PackedNumbersModel" (102 : Nat) ({ cls := "PackedNumbersModel", name := "takeFrom", desc := "(II)V" } : Jvm.MethodName)) ∈ pn_all := pn_in4 27 rfl rfl
theorem kw_749 : (Jvm.Cond.instanceMethod ({ cls := "PackedNumbersModel", name := "takeFrom", desc := "(II)V" } : Jvm.MethodName)) ∈ pn_all := pn_in4 29 rfl rfl
theorem kw_750 : (Jvm.Cond.code ({ cls := "PackedNumbersModel", name := "takeFrom", desc := "(II)V" } : Jvm.MethodName) prog_8_method_12_code (6 : Nat) (Option.none : Option Jvm.ClassFile.FieldType)) ∈ pn_all := pn_in4 30 rfl rfl
theorem kw_751 : (Jvm.Cond.methodLink "PackedNumbersLaw" (116 : Nat) ({ cls := "PackedNumbersModel", name := "subtract", desc := "(III)I" } : Jvm.MethodName)) ∈ pn_all := pn_in4 31 rfl rfl
theorem kw_752 : (Jvm.Cond.instanceMethod ({ cls := "PackedNumbersModel", name := "subtract", desc := "(III)I" } : Jvm.MethodName)) ∈ pn_all := pn_in4 32 rfl rfl
theorem kw_753 : (Jvm.Cond.selects "PackedNumbersModel" ({ cls := "PackedNumbersModel", name := "subtract", desc := "(III)I" } : Jvm.MethodName) ({ cls := "PackedNumbersModel", name := "subtract", desc := "(III)I" } : Jvm.MethodName)) ∈ pn_all := pn_in4 33 rfl rfl
theorem kw_754 : (Jvm.Cond.code ({ cls := "PackedNumbersModel", name := "subtract", desc := "(III)I" } : Jvm.MethodName) prog_8_method_29_code (5 : Nat) (Option.some Jvm.ClassFile.FieldType.int)) ∈ pn_all := pn_in4 34 rfl rfl
theorem kw_755 : (Jvm.Cond.methodLink "PackedNumbersLaw" (119 : Nat) ({ cls := "PackedNumbersModel", name := "multiply", desc := "(III)I" } : Jvm.MethodName)) ∈ pn_all := pn_in4 35 rfl rfl
theorem kw_756 : (Jvm.Cond.instanceMethod ({ cls := "PackedNumbersModel", name := "multiply", desc := "(III)I" } : Jvm.MethodName)) ∈ pn_all := pn_in4 36 rfl rfl
theorem kw_757 : (Jvm.Cond.selects "PackedNumbersModel" ({ cls := "PackedNumbersModel", name := "multiply", desc := "(III)I" } : Jvm.MethodName) ({ cls := "PackedNumbersModel", name := "multiply", desc := "(III)I" } : Jvm.MethodName)) ∈ pn_all := pn_in4 37 rfl rfl
theorem kw_758 : (Jvm.Cond.code ({ cls := "PackedNumbersModel", name := "multiply", desc := "(III)I" } : Jvm.MethodName) prog_8_method_30_code (4 : Nat) (Option.some Jvm.ClassFile.FieldType.int)) ∈ pn_all := pn_in4 38 rfl rfl
theorem kw_759 : (Jvm.Cond.methodLink "PackedNumbersModel" (108 : Nat) ({ cls := "PackedNumbersModel", name := "product", desc := "(III)V" } : Jvm.MethodName)) ∈ pn_all := pn_in4 39 rfl rfl
theorem kw_761 : (Jvm.Cond.instanceMethod ({ cls := "PackedNumbersModel", name := "product", desc := "(III)V" } : Jvm.MethodName)) ∈ pn_all := pn_in4 41 rfl rfl
theorem kw_762 : (Jvm.Cond.code ({ cls := "PackedNumbersModel", name := "product", desc := "(III)V" } : Jvm.MethodName) prog_8_method_14_code (10 : Nat) (Option.none : Option Jvm.ClassFile.FieldType)) ∈ pn_all := pn_in4 42 rfl rfl
theorem kw_763 : (Jvm.Cond.methodLink "PackedNumbersLaw" (123 : Nat) ({ cls := "PackedNumbersModel", name := "addProduct", desc := "(IIIZ)I" } : Jvm.MethodName)) ∈ pn_all := pn_in4 43 rfl rfl
theorem kw_764 : (Jvm.Cond.instanceMethod ({ cls := "PackedNumbersModel", name := "addProduct", desc := "(IIIZ)I" } : Jvm.MethodName)) ∈ pn_all := pn_in4 44 rfl rfl
theorem kw_765 : (Jvm.Cond.selects "PackedNumbersModel" ({ cls := "PackedNumbersModel", name := "addProduct", desc := "(IIIZ)I" } : Jvm.MethodName) ({ cls := "PackedNumbersModel", name := "addProduct", desc := "(IIIZ)I" } : Jvm.MethodName)) ∈ pn_all := pn_in4 45 rfl rfl
theorem kw_766 : (Jvm.Cond.code ({ cls := "PackedNumbersModel", name := "addProduct", desc := "(IIIZ)I" } : Jvm.MethodName) prog_8_method_31_code (7 : Nat) (Option.some Jvm.ClassFile.FieldType.int)) ∈ pn_all := pn_in4 46 rfl rfl
theorem kw_767 : (Jvm.Cond.methodLink "PackedNumbersLaw" (127 : Nat) ({ cls := "PackedNumbersModel", name := "divide", desc := "(IIII)I" } : Jvm.MethodName)) ∈ pn_all := pn_in4 47 rfl rfl
theorem kw_768 : (Jvm.Cond.instanceMethod ({ cls := "PackedNumbersModel", name := "divide", desc := "(IIII)I" } : Jvm.MethodName)) ∈ pn_all := pn_in4 48 rfl rfl
theorem kw_769 : (Jvm.Cond.selects "PackedNumbersModel" ({ cls := "PackedNumbersModel", name := "divide", desc := "(IIII)I" } : Jvm.MethodName) ({ cls := "PackedNumbersModel", name := "divide", desc := "(IIII)I" } : Jvm.MethodName)) ∈ pn_all := pn_in4 49 rfl rfl
theorem kw_770 : (Jvm.Cond.code ({ cls := "PackedNumbersModel", name := "divide", desc := "(IIII)I" } : Jvm.MethodName) prog_8_method_33_code (7 : Nat) (Option.some Jvm.ClassFile.FieldType.int)) ∈ pn_all := pn_in4 50 rfl rfl
theorem kw_771 : (Jvm.Cond.methodLink "PackedNumbersModel" (111 : Nat) ({ cls := "PackedNumbersModel", name := "down", desc := "(Z)V" } : Jvm.MethodName)) ∈ pn_all := pn_in4 51 rfl rfl
theorem kw_773 : (Jvm.Cond.instanceMethod ({ cls := "PackedNumbersModel", name := "down", desc := "(Z)V" } : Jvm.MethodName)) ∈ pn_all := pn_in4 53 rfl rfl
theorem kw_774 : (Jvm.Cond.code ({ cls := "PackedNumbersModel", name := "down", desc := "(Z)V" } : Jvm.MethodName) prog_8_method_32_code (2 : Nat) (Option.none : Option Jvm.ClassFile.FieldType)) ∈ pn_all := pn_in4 54 rfl rfl
theorem kw_775 : (Jvm.Cond.methodLink "PackedNumbersModel" (58 : Nat) ({ cls := "PackedNumbersModel", name := "divideBy", desc := "(III)V" } : Jvm.MethodName)) ∈ pn_all := pn_in4 55 rfl rfl
theorem kw_777 : (Jvm.Cond.instanceMethod ({ cls := "PackedNumbersModel", name := "divideBy", desc := "(III)V" } : Jvm.MethodName)) ∈ pn_all := pn_in4 57 rfl rfl
theorem kw_778 : (Jvm.Cond.code ({ cls := "PackedNumbersModel", name := "divideBy", desc := "(III)V" } : Jvm.MethodName) prog_8_method_16_code (12 : Nat) (Option.none : Option Jvm.ClassFile.FieldType)) ∈ pn_all := pn_in4 58 rfl rfl
theorem kw_779 : (Jvm.Cond.constantLong "PackedNumbersModel" (50 : Nat) (100000000 : Int64)) ∈ pn_all := pn_in4 59 rfl rfl
theorem kw_780 : (Jvm.Cond.constantLong "PackedNumbersModel" (52 : Nat) (1000000000000 : Int64)) ∈ pn_all := pn_in4 60 rfl rfl
theorem kw_781 : (Jvm.Cond.methodLink "PackedNumbersModel" (54 : Nat) ({ cls := "PackedNumbersModel", name := "takes", desc := "(IIII)Z" } : Jvm.MethodName)) ∈ pn_all := pn_in4 61 rfl rfl
theorem kw_783 : (Jvm.Cond.instanceMethod ({ cls := "PackedNumbersModel", name := "takes", desc := "(IIII)Z" } : Jvm.MethodName)) ∈ pn_all := pn_in4 63 rfl rfl
theorem kw_784 : (Jvm.Cond.code ({ cls := "PackedNumbersModel", name := "takes", desc := "(IIII)Z" } : Jvm.MethodName) prog_8_method_15_code (10 : Nat) (Option.some Jvm.ClassFile.FieldType.boolean)) ∈ pn_all := pn_in4 64 rfl rfl
theorem kw_785 : (Jvm.Cond.methodLink "PackedNumbersLaw" (130 : Nat) ({ cls := "PackedNumbersModel", name := "exact", desc := "(III)I" } : Jvm.MethodName)) ∈ pn_all := pn_in4 65 rfl rfl
theorem kw_786 : (Jvm.Cond.instanceMethod ({ cls := "PackedNumbersModel", name := "exact", desc := "(III)I" } : Jvm.MethodName)) ∈ pn_all := pn_in4 66 rfl rfl
theorem kw_787 : (Jvm.Cond.selects "PackedNumbersModel" ({ cls := "PackedNumbersModel", name := "exact", desc := "(III)I" } : Jvm.MethodName) ({ cls := "PackedNumbersModel", name := "exact", desc := "(III)I" } : Jvm.MethodName)) ∈ pn_all := pn_in4 67 rfl rfl
theorem kw_788 : (Jvm.Cond.code ({ cls := "PackedNumbersModel", name := "exact", desc := "(III)I" } : Jvm.MethodName) prog_8_method_34_code (4 : Nat) (Option.some Jvm.ClassFile.FieldType.int)) ∈ pn_all := pn_in4 68 rfl rfl
theorem kw_789 : (Jvm.Cond.methodLink "PackedNumbersLaw" (133 : Nat) ({ cls := "PackedNumbersModel", name := "nearest", desc := "(III)I" } : Jvm.MethodName)) ∈ pn_all := pn_in4 69 rfl rfl
theorem kw_790 : (Jvm.Cond.instanceMethod ({ cls := "PackedNumbersModel", name := "nearest", desc := "(III)I" } : Jvm.MethodName)) ∈ pn_all := pn_in4 70 rfl rfl
theorem kw_791 : (Jvm.Cond.selects "PackedNumbersModel" ({ cls := "PackedNumbersModel", name := "nearest", desc := "(III)I" } : Jvm.MethodName) ({ cls := "PackedNumbersModel", name := "nearest", desc := "(III)I" } : Jvm.MethodName)) ∈ pn_all := pn_in4 71 rfl rfl
theorem kw_792 : (Jvm.Cond.code ({ cls := "PackedNumbersModel", name := "nearest", desc := "(III)I" } : Jvm.MethodName) prog_8_method_35_code (7 : Nat) (Option.some Jvm.ClassFile.FieldType.int)) ∈ pn_all := pn_in4 72 rfl rfl
theorem kw_793 : (Jvm.Cond.methodLink "PackedNumbersLaw" (136 : Nat) ({ cls := "PackedNumbersModel", name := "gcd", desc := "(III)I" } : Jvm.MethodName)) ∈ pn_all := pn_in4 73 rfl rfl
theorem kw_794 : (Jvm.Cond.instanceMethod ({ cls := "PackedNumbersModel", name := "gcd", desc := "(III)I" } : Jvm.MethodName)) ∈ pn_all := pn_in4 74 rfl rfl
theorem kw_795 : (Jvm.Cond.selects "PackedNumbersModel" ({ cls := "PackedNumbersModel", name := "gcd", desc := "(III)I" } : Jvm.MethodName) ({ cls := "PackedNumbersModel", name := "gcd", desc := "(III)I" } : Jvm.MethodName)) ∈ pn_all := pn_in4 75 rfl rfl
theorem kw_796 : (Jvm.Cond.code ({ cls := "PackedNumbersModel", name := "gcd", desc := "(III)I" } : Jvm.MethodName) prog_8_method_36_code (4 : Nat) (Option.some Jvm.ClassFile.FieldType.int)) ∈ pn_all := pn_in4 76 rfl rfl
theorem kw_797 : (Jvm.Cond.methodLink "PackedNumbersModel" (115 : Nat) ({ cls := "PackedNumbersModel", name := "common", desc := "(II)V" } : Jvm.MethodName)) ∈ pn_all := pn_in4 77 rfl rfl
theorem kw_799 : (Jvm.Cond.instanceMethod ({ cls := "PackedNumbersModel", name := "common", desc := "(II)V" } : Jvm.MethodName)) ∈ pn_all := pn_in4 79 rfl rfl
theorem kw_800 : (Jvm.Cond.code ({ cls := "PackedNumbersModel", name := "common", desc := "(II)V" } : Jvm.MethodName) prog_8_method_17_code (3 : Nat) (Option.none : Option Jvm.ClassFile.FieldType)) ∈ pn_all := pn_in4 80 rfl rfl
theorem kw_801 : (Jvm.Cond.methodLink "PackedNumbersLaw" (139 : Nat) ({ cls := "PackedNumbersModel", name := "compare", desc := "(II)I" } : Jvm.MethodName)) ∈ pn_all := pn_in4 81 rfl rfl
theorem kw_802 : (Jvm.Cond.instanceMethod ({ cls := "PackedNumbersModel", name := "compare", desc := "(II)I" } : Jvm.MethodName)) ∈ pn_all := pn_in4 82 rfl rfl
theorem kw_803 : (Jvm.Cond.selects "PackedNumbersModel" ({ cls := "PackedNumbersModel", name := "compare", desc := "(II)I" } : Jvm.MethodName) ({ cls := "PackedNumbersModel", name := "compare", desc := "(II)I" } : Jvm.MethodName)) ∈ pn_all := pn_in4 83 rfl rfl
theorem kw_804 : (Jvm.Cond.code ({ cls := "PackedNumbersModel", name := "compare", desc := "(II)I" } : Jvm.MethodName) prog_8_method_37_code (3 : Nat) (Option.some Jvm.ClassFile.FieldType.int)) ∈ pn_all := pn_in4 84 rfl rfl
theorem kw_805 : (Jvm.Cond.methodLink "PackedNumbersLaw" (142 : Nat) ({ cls := "PackedNumbersModel", name := "sign", desc := "(I)I" } : Jvm.MethodName)) ∈ pn_all := pn_in4 85 rfl rfl
theorem kw_806 : (Jvm.Cond.instanceMethod ({ cls := "PackedNumbersModel", name := "sign", desc := "(I)I" } : Jvm.MethodName)) ∈ pn_all := pn_in4 86 rfl rfl
theorem kw_807 : (Jvm.Cond.selects "PackedNumbersModel" ({ cls := "PackedNumbersModel", name := "sign", desc := "(I)I" } : Jvm.MethodName) ({ cls := "PackedNumbersModel", name := "sign", desc := "(I)I" } : Jvm.MethodName)) ∈ pn_all := pn_in4 87 rfl rfl
theorem kw_808 : (Jvm.Cond.code ({ cls := "PackedNumbersModel", name := "sign", desc := "(I)I" } : Jvm.MethodName) prog_8_method_38_code (2 : Nat) (Option.some Jvm.ClassFile.FieldType.int)) ∈ pn_all := pn_in4 88 rfl rfl
theorem kw_809 : (Jvm.Cond.methodLink "PackedNumbersLaw" (145 : Nat) ({ cls := "PackedNumbersModel", name := "length", desc := "(I)I" } : Jvm.MethodName)) ∈ pn_all := pn_in4 89 rfl rfl
theorem kw_810 : (Jvm.Cond.instanceMethod ({ cls := "PackedNumbersModel", name := "length", desc := "(I)I" } : Jvm.MethodName)) ∈ pn_all := pn_in4 90 rfl rfl
theorem kw_811 : (Jvm.Cond.selects "PackedNumbersModel" ({ cls := "PackedNumbersModel", name := "length", desc := "(I)I" } : Jvm.MethodName) ({ cls := "PackedNumbersModel", name := "length", desc := "(I)I" } : Jvm.MethodName)) ∈ pn_all := pn_in4 91 rfl rfl
theorem kw_812 : (Jvm.Cond.code ({ cls := "PackedNumbersModel", name := "length", desc := "(I)I" } : Jvm.MethodName) prog_8_method_39_code (2 : Nat) (Option.some Jvm.ClassFile.FieldType.int)) ∈ pn_all := pn_in4 92 rfl rfl
theorem kw_813 : (Jvm.Cond.methodLink "PackedNumbersLaw" (148 : Nat) ({ cls := "PackedNumbersModel", name := "limb", desc := "(II)I" } : Jvm.MethodName)) ∈ pn_all := pn_in4 93 rfl rfl
theorem kw_814 : (Jvm.Cond.instanceMethod ({ cls := "PackedNumbersModel", name := "limb", desc := "(II)I" } : Jvm.MethodName)) ∈ pn_all := pn_in4 94 rfl rfl
theorem kw_815 : (Jvm.Cond.selects "PackedNumbersModel" ({ cls := "PackedNumbersModel", name := "limb", desc := "(II)I" } : Jvm.MethodName) ({ cls := "PackedNumbersModel", name := "limb", desc := "(II)I" } : Jvm.MethodName)) ∈ pn_all := pn_in4 95 rfl rfl
theorem kw_816 : (Jvm.Cond.code ({ cls := "PackedNumbersModel", name := "limb", desc := "(II)I" } : Jvm.MethodName) prog_8_method_40_code (6 : Nat) (Option.some Jvm.ClassFile.FieldType.int)) ∈ pn_all := pn_in4 96 rfl rfl
theorem kw_817 : (Jvm.Cond.methodLink "PackedNumbersLaw" (151 : Nat) ({ cls := "PackedNumbersModel", name := "rest", desc := "(II)I" } : Jvm.MethodName)) ∈ pn_all := pn_in4 97 rfl rfl
theorem kw_818 : (Jvm.Cond.instanceMethod ({ cls := "PackedNumbersModel", name := "rest", desc := "(II)I" } : Jvm.MethodName)) ∈ pn_all := pn_in4 98 rfl rfl
theorem kw_819 : (Jvm.Cond.selects "PackedNumbersModel" ({ cls := "PackedNumbersModel", name := "rest", desc := "(II)I" } : Jvm.MethodName) ({ cls := "PackedNumbersModel", name := "rest", desc := "(II)I" } : Jvm.MethodName)) ∈ pn_all := pn_in4 99 rfl rfl
theorem kw_820 : (Jvm.Cond.code ({ cls := "PackedNumbersModel", name := "rest", desc := "(II)I" } : Jvm.MethodName) prog_8_method_41_code (6 : Nat) (Option.some Jvm.ClassFile.FieldType.int)) ∈ pn_all := pn_in4 100 rfl rfl
theorem kw_821 : (Jvm.Cond.methodLink "PackedNumbersLaw" (154 : Nat) ({ cls := "PackedNumbersModel", name := "print", desc := "(I)I" } : Jvm.MethodName)) ∈ pn_all := pn_in4 101 rfl rfl
theorem kw_822 : (Jvm.Cond.instanceMethod ({ cls := "PackedNumbersModel", name := "print", desc := "(I)I" } : Jvm.MethodName)) ∈ pn_all := pn_in4 102 rfl rfl
theorem kw_823 : (Jvm.Cond.selects "PackedNumbersModel" ({ cls := "PackedNumbersModel", name := "print", desc := "(I)I" } : Jvm.MethodName) ({ cls := "PackedNumbersModel", name := "print", desc := "(I)I" } : Jvm.MethodName)) ∈ pn_all := pn_in4 103 rfl rfl
theorem kw_824 : (Jvm.Cond.code ({ cls := "PackedNumbersModel", name := "print", desc := "(I)I" } : Jvm.MethodName) prog_8_method_42_code (5 : Nat) (Option.some Jvm.ClassFile.FieldType.int)) ∈ pn_all := pn_in4 104 rfl rfl
theorem kw_825 : (Jvm.Cond.methodLink "PackedNumbersLaw" (158 : Nat) ({ cls := "PackedNumbersModel", name := "character", desc := "(I)I" } : Jvm.MethodName)) ∈ pn_all := pn_in4 105 rfl rfl
theorem kw_826 : (Jvm.Cond.instanceMethod ({ cls := "PackedNumbersModel", name := "character", desc := "(I)I" } : Jvm.MethodName)) ∈ pn_all := pn_in4 106 rfl rfl
theorem kw_827 : (Jvm.Cond.selects "PackedNumbersModel" ({ cls := "PackedNumbersModel", name := "character", desc := "(I)I" } : Jvm.MethodName) ({ cls := "PackedNumbersModel", name := "character", desc := "(I)I" } : Jvm.MethodName)) ∈ pn_all := pn_in4 107 rfl rfl
theorem kw_828 : (Jvm.Cond.code ({ cls := "PackedNumbersModel", name := "character", desc := "(I)I" } : Jvm.MethodName) prog_8_method_43_code (2 : Nat) (Option.some Jvm.ClassFile.FieldType.int)) ∈ pn_all := pn_in4 108 rfl rfl
theorem kw_829 : (Jvm.Cond.constantLong "PackedNumbersLaw" (84 : Nat) (4294967295 : Int64)) ∈ pn_all := pn_in4 109 rfl rfl
theorem kw_830 : (Jvm.Cond.arrayClass Jvm.ClassFile.FieldType.long) ∈ pn_all := pn_in4 110 rfl rfl
theorem ks_0 : Cond.selects "PackedNumbers$Text" ⟨"PackedNumbers$Text", "at", "(I)I"⟩ ⟨"PackedNumbers$Text", "at", "(I)I"⟩ ∈ pn_all := pn_inS (q := (⟨"PackedNumbers$Text", "at", "(I)I"⟩, 2)) 0 rfl
theorem ks_1 : Cond.selects "PackedNumbers" ⟨"PackedNumbers", "needRegister", "(I)V"⟩ ⟨"PackedNumbers", "needRegister", "(I)V"⟩ ∈ pn_all := pn_inS (q := (⟨"PackedNumbers", "needRegister", "(I)V"⟩, 7)) 1 rfl
theorem ks_2 : Cond.selects "java/lang/Throwable" ⟨"java/lang/Throwable", "fillInStackTrace", "(I)Ljava/lang/Throwable;"⟩ ⟨"java/lang/Throwable", "fillInStackTrace", "(I)Ljava/lang/Throwable;"⟩ ∈ pn_all := pn_inS (q := (⟨"java/lang/Throwable", "fillInStackTrace", "(I)Ljava/lang/Throwable;"⟩, 6)) 2 rfl
theorem ks_3 : Cond.selects "PackedNumbers$Row" ⟨"PackedNumbers$Row", "become", "(J)V"⟩ ⟨"PackedNumbers$Row", "become", "(J)V"⟩ ∈ pn_all := pn_inS (q := (⟨"PackedNumbers$Row", "become", "(J)V"⟩, 3)) 3 rfl
theorem ks_4 : Cond.selects "PackedNumbers$Row" ⟨"PackedNumbers$Row", "fit", "(I)V"⟩ ⟨"PackedNumbers$Row", "fit", "(I)V"⟩ ∈ pn_all := pn_inS (q := (⟨"PackedNumbers$Row", "fit", "(I)V"⟩, 3)) 4 rfl
theorem ks_5 : Cond.selects "PackedNumbers" ⟨"PackedNumbers", "keep", "(ILPackedNumbers$Row;)I"⟩ ⟨"PackedNumbers", "keep", "(ILPackedNumbers$Row;)I"⟩ ∈ pn_all := pn_inS (q := (⟨"PackedNumbers", "keep", "(ILPackedNumbers$Row;)I"⟩, 7)) 5 rfl
theorem ks_6 : Cond.selects "PackedNumbers$Row" ⟨"PackedNumbers$Row", "bits", "()I"⟩ ⟨"PackedNumbers$Row", "bits", "()I"⟩ ∈ pn_all := pn_inS (q := (⟨"PackedNumbers$Row", "bits", "()I"⟩, 3)) 6 rfl
theorem ks_7 : Cond.selects "PackedNumbers" ⟨"PackedNumbers", "needLength", "(I)V"⟩ ⟨"PackedNumbers", "needLength", "(I)V"⟩ ∈ pn_all := pn_inS (q := (⟨"PackedNumbers", "needLength", "(I)V"⟩, 7)) 7 rfl
theorem ks_8 : Cond.selects "PackedNumbers$Store" ⟨"PackedNumbers$Store", "write", "(ILPackedNumbers$Row;)V"⟩ ⟨"PackedNumbers$Store", "write", "(ILPackedNumbers$Row;)V"⟩ ∈ pn_all := pn_inS (q := (⟨"PackedNumbers$Store", "write", "(ILPackedNumbers$Row;)V"⟩, 5)) 8 rfl
theorem ks_9 : Cond.selects "PackedNumbers$Store" ⟨"PackedNumbers$Store", "pack", "()V"⟩ ⟨"PackedNumbers$Store", "pack", "()V"⟩ ∈ pn_all := pn_inS (q := (⟨"PackedNumbers$Store", "pack", "()V"⟩, 5)) 9 rfl
theorem ks_10 : Cond.selects "PackedNumbers$Store" ⟨"PackedNumbers$Store", "firstFrom", "(I)I"⟩ ⟨"PackedNumbers$Store", "firstFrom", "(I)I"⟩ ∈ pn_all := pn_inS (q := (⟨"PackedNumbers$Store", "firstFrom", "(I)I"⟩, 5)) 10 rfl
theorem ks_11 : Cond.selects "PackedNumbers$Store" ⟨"PackedNumbers$Store", "read", "(ILPackedNumbers$Row;)V"⟩ ⟨"PackedNumbers$Store", "read", "(ILPackedNumbers$Row;)V"⟩ ∈ pn_all := pn_inS (q := (⟨"PackedNumbers$Store", "read", "(ILPackedNumbers$Row;)V"⟩, 5)) 11 rfl
theorem ks_12 : Cond.selects "PackedNumbers$Row" ⟨"PackedNumbers$Row", "putBelow", "(I)V"⟩ ⟨"PackedNumbers$Row", "putBelow", "(I)V"⟩ ∈ pn_all := pn_inS (q := (⟨"PackedNumbers$Row", "putBelow", "(I)V"⟩, 3)) 12 rfl
theorem ks_13 : Cond.selects "PackedNumbers$Row" ⟨"PackedNumbers$Row", "turnBelowIf", "(Z)V"⟩ ⟨"PackedNumbers$Row", "turnBelowIf", "(Z)V"⟩ ∈ pn_all := pn_inS (q := (⟨"PackedNumbers$Row", "turnBelowIf", "(Z)V"⟩, 3)) 13 rfl
theorem ks_14 : Cond.selects "PackedNumbers" ⟨"PackedNumbers", "needRegisters", "(II)V"⟩ ⟨"PackedNumbers", "needRegisters", "(II)V"⟩ ∈ pn_all := pn_inS (q := (⟨"PackedNumbers", "needRegisters", "(II)V"⟩, 7)) 14 rfl
theorem ks_15 : Cond.selects "PackedNumbers$Store" ⟨"PackedNumbers$Store", "exchange", "(II)V"⟩ ⟨"PackedNumbers$Store", "exchange", "(II)V"⟩ ∈ pn_all := pn_inS (q := (⟨"PackedNumbers$Store", "exchange", "(II)V"⟩, 5)) 15 rfl
theorem ks_16 : Cond.selects "PackedNumbers$Store" ⟨"PackedNumbers$Store", "turn", "(I)V"⟩ ⟨"PackedNumbers$Store", "turn", "(I)V"⟩ ∈ pn_all := pn_inS (q := (⟨"PackedNumbers$Store", "turn", "(I)V"⟩, 5)) 16 rfl
theorem ks_17 : Cond.selects "PackedNumbers" ⟨"PackedNumbers", "keepSum", "(IIIZ)I"⟩ ⟨"PackedNumbers", "keepSum", "(IIIZ)I"⟩ ∈ pn_all := pn_inS (q := (⟨"PackedNumbers", "keepSum", "(IIIZ)I"⟩, 7)) 17 rfl
theorem ks_18 : Cond.selects "PackedNumbers" ⟨"PackedNumbers", "readBoth", "(II)V"⟩ ⟨"PackedNumbers", "readBoth", "(II)V"⟩ ∈ pn_all := pn_inS (q := (⟨"PackedNumbers", "readBoth", "(II)V"⟩, 7)) 18 rfl
theorem ks_19 : Cond.selects "PackedNumbers$Row" ⟨"PackedNumbers$Row", "becomeSum", "(LPackedNumbers$Row;LPackedNumbers$Row;Z)V"⟩ ⟨"PackedNumbers$Row", "becomeSum", "(LPackedNumbers$Row;LPackedNumbers$Row;Z)V"⟩ ∈ pn_all := pn_inS (q := (⟨"PackedNumbers$Row", "becomeSum", "(LPackedNumbers$Row;LPackedNumbers$Row;Z)V"⟩, 3)) 19 rfl
theorem ks_20 : Cond.selects "PackedNumbers$Row" ⟨"PackedNumbers$Row", "becomeSizeSum", "(LPackedNumbers$Row;LPackedNumbers$Row;)V"⟩ ⟨"PackedNumbers$Row", "becomeSizeSum", "(LPackedNumbers$Row;LPackedNumbers$Row;)V"⟩ ∈ pn_all := pn_inS (q := (⟨"PackedNumbers$Row", "becomeSizeSum", "(LPackedNumbers$Row;LPackedNumbers$Row;)V"⟩, 3)) 20 rfl
theorem ks_21 : Cond.selects "PackedNumbers$Row" ⟨"PackedNumbers$Row", "limbAt", "(I)J"⟩ ⟨"PackedNumbers$Row", "limbAt", "(I)J"⟩ ∈ pn_all := pn_inS (q := (⟨"PackedNumbers$Row", "limbAt", "(I)J"⟩, 3)) 21 rfl
theorem ks_22 : Cond.selects "PackedNumbers$Row" ⟨"PackedNumbers$Row", "compareSize", "(LPackedNumbers$Row;)I"⟩ ⟨"PackedNumbers$Row", "compareSize", "(LPackedNumbers$Row;)I"⟩ ∈ pn_all := pn_inS (q := (⟨"PackedNumbers$Row", "compareSize", "(LPackedNumbers$Row;)I"⟩, 3)) 22 rfl
theorem ks_23 : Cond.selects "PackedNumbers$Row" ⟨"PackedNumbers$Row", "becomeSizeDifference", "(LPackedNumbers$Row;LPackedNumbers$Row;)V"⟩ ⟨"PackedNumbers$Row", "becomeSizeDifference", "(LPackedNumbers$Row;LPackedNumbers$Row;)V"⟩ ∈ pn_all := pn_inS (q := (⟨"PackedNumbers$Row", "becomeSizeDifference", "(LPackedNumbers$Row;LPackedNumbers$Row;)V"⟩, 3)) 23 rfl
theorem ks_24 : Cond.selects "PackedNumbers" ⟨"PackedNumbers", "leastProductBits", "()I"⟩ ⟨"PackedNumbers", "leastProductBits", "()I"⟩ ∈ pn_all := pn_inS (q := (⟨"PackedNumbers", "leastProductBits", "()I"⟩, 7)) 24 rfl
theorem ks_25 : Cond.selects "PackedNumbers$Row" ⟨"PackedNumbers$Row", "becomeProduct", "(LPackedNumbers$Row;LPackedNumbers$Row;)V"⟩ ⟨"PackedNumbers$Row", "becomeProduct", "(LPackedNumbers$Row;LPackedNumbers$Row;)V"⟩ ∈ pn_all := pn_inS (q := (⟨"PackedNumbers$Row", "becomeProduct", "(LPackedNumbers$Row;LPackedNumbers$Row;)V"⟩, 3)) 25 rfl
theorem ks_26 : Cond.selects "PackedNumbers$Row" ⟨"PackedNumbers$Row", "clear", "(II)V"⟩ ⟨"PackedNumbers$Row", "clear", "(II)V"⟩ ∈ pn_all := pn_inS (q := (⟨"PackedNumbers$Row", "clear", "(II)V"⟩, 3)) 26 rfl
theorem ks_27 : Cond.selects "PackedNumbers$Row" ⟨"PackedNumbers$Row", "addMultiple", "(LPackedNumbers$Row;JI)I"⟩ ⟨"PackedNumbers$Row", "addMultiple", "(LPackedNumbers$Row;JI)I"⟩ ∈ pn_all := pn_inS (q := (⟨"PackedNumbers$Row", "addMultiple", "(LPackedNumbers$Row;JI)I"⟩, 3)) 27 rfl
theorem ks_28 : Cond.selects "PackedNumbers" ⟨"PackedNumbers", "needDivisorAboveZero", "()V"⟩ ⟨"PackedNumbers", "needDivisorAboveZero", "()V"⟩ ∈ pn_all := pn_inS (q := (⟨"PackedNumbers", "needDivisorAboveZero", "()V"⟩, 7)) 28 rfl
theorem ks_29 : Cond.selects "PackedNumbers$Row" ⟨"PackedNumbers$Row", "signum", "()I"⟩ ⟨"PackedNumbers$Row", "signum", "()I"⟩ ∈ pn_all := pn_inS (q := (⟨"PackedNumbers$Row", "signum", "()I"⟩, 3)) 29 rfl
theorem ks_30 : Cond.selects "PackedNumbers$Row" ⟨"PackedNumbers$Row", "take", "(LPackedNumbers$Row;)V"⟩ ⟨"PackedNumbers$Row", "take", "(LPackedNumbers$Row;)V"⟩ ∈ pn_all := pn_inS (q := (⟨"PackedNumbers$Row", "take", "(LPackedNumbers$Row;)V"⟩, 3)) 30 rfl
theorem ks_31 : Cond.selects "PackedNumbers$Row" ⟨"PackedNumbers$Row", "shrink", "(J)J"⟩ ⟨"PackedNumbers$Row", "shrink", "(J)J"⟩ ∈ pn_all := pn_inS (q := (⟨"PackedNumbers$Row", "shrink", "(J)J"⟩, 3)) 31 rfl
theorem ks_32 : Cond.selects "PackedNumbers$Row" ⟨"PackedNumbers$Row", "shiftUp", "(I)V"⟩ ⟨"PackedNumbers$Row", "shiftUp", "(I)V"⟩ ∈ pn_all := pn_inS (q := (⟨"PackedNumbers$Row", "shiftUp", "(I)V"⟩, 3)) 32 rfl
theorem ks_33 : Cond.selects "PackedNumbers$Row" ⟨"PackedNumbers$Row", "shiftDown", "(I)V"⟩ ⟨"PackedNumbers$Row", "shiftDown", "(I)V"⟩ ∈ pn_all := pn_inS (q := (⟨"PackedNumbers$Row", "shiftDown", "(I)V"⟩, 3)) 33 rfl
theorem ks_34 : Cond.selects "PackedNumbers$Row" ⟨"PackedNumbers$Row", "increase", "()V"⟩ ⟨"PackedNumbers$Row", "increase", "()V"⟩ ∈ pn_all := pn_inS (q := (⟨"PackedNumbers$Row", "increase", "()V"⟩, 3)) 34 rfl
theorem ks_35 : Cond.selects "PackedNumbers$Row" ⟨"PackedNumbers$Row", "isOdd", "()Z"⟩ ⟨"PackedNumbers$Row", "isOdd", "()Z"⟩ ∈ pn_all := pn_inS (q := (⟨"PackedNumbers$Row", "isOdd", "()Z"⟩, 3)) 35 rfl
theorem ks_36 : Cond.selects "PackedNumbers$Euclid" ⟨"PackedNumbers$Euclid", "greatest", "(LPackedNumbers$Row;LPackedNumbers$Row;LPackedNumbers$Row;)LPackedNumbers$Row;"⟩ ⟨"PackedNumbers$Euclid", "greatest", "(LPackedNumbers$Row;LPackedNumbers$Row;LPackedNumbers$Row;)LPackedNumbers$Row;"⟩ ∈ pn_all := pn_inS (q := (⟨"PackedNumbers$Euclid", "greatest", "(LPackedNumbers$Row;LPackedNumbers$Row;LPackedNumbers$Row;)LPackedNumbers$Row;"⟩, 4)) 36 rfl
theorem ks_37 : Cond.selects "PackedNumbers$Row" ⟨"PackedNumbers$Row", "bitsFrom", "(I)J"⟩ ⟨"PackedNumbers$Row", "bitsFrom", "(I)J"⟩ ∈ pn_all := pn_inS (q := (⟨"PackedNumbers$Row", "bitsFrom", "(I)J"⟩, 3)) 37 rfl
theorem ks_38 : Cond.selects "PackedNumbers$Euclid" ⟨"PackedNumbers$Euclid", "foresee", "(JJ)V"⟩ ⟨"PackedNumbers$Euclid", "foresee", "(JJ)V"⟩ ∈ pn_all := pn_inS (q := (⟨"PackedNumbers$Euclid", "foresee", "(JJ)V"⟩, 4)) 38 rfl
theorem ks_39 : Cond.selects "PackedNumbers$Euclid" ⟨"PackedNumbers$Euclid", "follow", "(LPackedNumbers$Row;LPackedNumbers$Row;)V"⟩ ⟨"PackedNumbers$Euclid", "follow", "(LPackedNumbers$Row;LPackedNumbers$Row;)V"⟩ ∈ pn_all := pn_inS (q := (⟨"PackedNumbers$Euclid", "follow", "(LPackedNumbers$Row;LPackedNumbers$Row;)V"⟩, 4)) 39 rfl
theorem ks_40 : Cond.selects "PackedNumbers$Text" ⟨"PackedNumbers$Text", "write", "(LPackedNumbers$Row;)I"⟩ ⟨"PackedNumbers$Text", "write", "(LPackedNumbers$Row;)I"⟩ ∈ pn_all := pn_inS (q := (⟨"PackedNumbers$Text", "write", "(LPackedNumbers$Row;)I"⟩, 2)) 40 rfl
theorem ks_41 : Cond.selects "PackedNumbers$Text" ⟨"PackedNumbers$Text", "putBefore", "(I)V"⟩ ⟨"PackedNumbers$Text", "putBefore", "(I)V"⟩ ∈ pn_all := pn_inS (q := (⟨"PackedNumbers$Text", "putBefore", "(I)V"⟩, 2)) 41 rfl
theorem ks_42 : Cond.selects "PackedNumbers$Text" ⟨"PackedNumbers$Text", "writeChunk", "(IZ)V"⟩ ⟨"PackedNumbers$Text", "writeChunk", "(IZ)V"⟩ ∈ pn_all := pn_inS (q := (⟨"PackedNumbers$Text", "writeChunk", "(IZ)V"⟩, 2)) 42 rfl
theorem ks_43 : Cond.selects "PackedNumbersModel" ⟨"PackedNumbersModel", "refuses", "(I)Z"⟩ ⟨"PackedNumbersModel", "refuses", "(I)Z"⟩ ∈ pn_all := pn_inS (q := (⟨"PackedNumbersModel", "refuses", "(I)Z"⟩, 9)) 43 rfl
theorem ks_44 : Cond.selects "PackedNumbersModel" ⟨"PackedNumbersModel", "setLong", "(IJ)V"⟩ ⟨"PackedNumbersModel", "setLong", "(IJ)V"⟩ ∈ pn_all := pn_inS (q := (⟨"PackedNumbersModel", "setLong", "(IJ)V"⟩, 9)) 44 rfl
theorem ks_45 : Cond.selects "PackedNumbersModel" ⟨"PackedNumbersModel", "put", "(IIII)I"⟩ ⟨"PackedNumbersModel", "put", "(IIII)I"⟩ ∈ pn_all := pn_inS (q := (⟨"PackedNumbersModel", "put", "(IIII)I"⟩, 9)) 45 rfl
theorem ks_46 : Cond.selects "PackedNumbersModel" ⟨"PackedNumbersModel", "bits", "(I)I"⟩ ⟨"PackedNumbersModel", "bits", "(I)I"⟩ ∈ pn_all := pn_inS (q := (⟨"PackedNumbersModel", "bits", "(I)I"⟩, 9)) 46 rfl
theorem ks_47 : Cond.selects "PackedNumbersModel" ⟨"PackedNumbersModel", "parts", "(I)I"⟩ ⟨"PackedNumbersModel", "parts", "(I)I"⟩ ∈ pn_all := pn_inS (q := (⟨"PackedNumbersModel", "parts", "(I)I"⟩, 9)) 47 rfl
theorem ks_48 : Cond.selects "PackedNumbersModel" ⟨"PackedNumbersModel", "copyTo", "(II)V"⟩ ⟨"PackedNumbersModel", "copyTo", "(II)V"⟩ ∈ pn_all := pn_inS (q := (⟨"PackedNumbersModel", "copyTo", "(II)V"⟩, 9)) 48 rfl
theorem ks_49 : Cond.selects "PackedNumbersModel" ⟨"PackedNumbersModel", "trim", "(II)V"⟩ ⟨"PackedNumbersModel", "trim", "(II)V"⟩ ∈ pn_all := pn_inS (q := (⟨"PackedNumbersModel", "trim", "(II)V"⟩, 9)) 49 rfl
theorem ks_50 : Cond.selects "PackedNumbersModel" ⟨"PackedNumbersModel", "load", "(II)V"⟩ ⟨"PackedNumbersModel", "load", "(II)V"⟩ ∈ pn_all := pn_inS (q := (⟨"PackedNumbersModel", "load", "(II)V"⟩, 9)) 50 rfl
theorem ks_51 : Cond.selects "PackedNumbersModel" ⟨"PackedNumbersModel", "small", "(II)V"⟩ ⟨"PackedNumbersModel", "small", "(II)V"⟩ ∈ pn_all := pn_inS (q := (⟨"PackedNumbersModel", "small", "(II)V"⟩, 9)) 51 rfl
theorem ks_52 : Cond.selects "PackedNumbersModel" ⟨"PackedNumbersModel", "addTo", "(II)V"⟩ ⟨"PackedNumbersModel", "addTo", "(II)V"⟩ ∈ pn_all := pn_inS (q := (⟨"PackedNumbersModel", "addTo", "(II)V"⟩, 9)) 52 rfl
theorem ks_53 : Cond.selects "PackedNumbersModel" ⟨"PackedNumbersModel", "figure", "(II)I"⟩ ⟨"PackedNumbersModel", "figure", "(II)I"⟩ ∈ pn_all := pn_inS (q := (⟨"PackedNumbersModel", "figure", "(II)I"⟩, 9)) 53 rfl
theorem ks_54 : Cond.selects "PackedNumbersModel" ⟨"PackedNumbersModel", "sum", "(II)I"⟩ ⟨"PackedNumbersModel", "sum", "(II)I"⟩ ∈ pn_all := pn_inS (q := (⟨"PackedNumbersModel", "sum", "(II)I"⟩, 9)) 54 rfl
theorem ks_55 : Cond.selects "PackedNumbersModel" ⟨"PackedNumbersModel", "order", "(II)I"⟩ ⟨"PackedNumbersModel", "order", "(II)I"⟩ ∈ pn_all := pn_inS (q := (⟨"PackedNumbersModel", "order", "(II)I"⟩, 9)) 55 rfl
theorem ks_56 : Cond.selects "PackedNumbersModel" ⟨"PackedNumbersModel", "takeFrom", "(II)V"⟩ ⟨"PackedNumbersModel", "takeFrom", "(II)V"⟩ ∈ pn_all := pn_inS (q := (⟨"PackedNumbersModel", "takeFrom", "(II)V"⟩, 9)) 56 rfl
theorem ks_57 : Cond.selects "PackedNumbersModel" ⟨"PackedNumbersModel", "product", "(III)V"⟩ ⟨"PackedNumbersModel", "product", "(III)V"⟩ ∈ pn_all := pn_inS (q := (⟨"PackedNumbersModel", "product", "(III)V"⟩, 9)) 57 rfl
theorem ks_58 : Cond.selects "PackedNumbersModel" ⟨"PackedNumbersModel", "down", "(Z)V"⟩ ⟨"PackedNumbersModel", "down", "(Z)V"⟩ ∈ pn_all := pn_inS (q := (⟨"PackedNumbersModel", "down", "(Z)V"⟩, 9)) 58 rfl
theorem ks_59 : Cond.selects "PackedNumbersModel" ⟨"PackedNumbersModel", "divideBy", "(III)V"⟩ ⟨"PackedNumbersModel", "divideBy", "(III)V"⟩ ∈ pn_all := pn_inS (q := (⟨"PackedNumbersModel", "divideBy", "(III)V"⟩, 9)) 59 rfl
theorem ks_60 : Cond.selects "PackedNumbersModel" ⟨"PackedNumbersModel", "takes", "(IIII)Z"⟩ ⟨"PackedNumbersModel", "takes", "(IIII)Z"⟩ ∈ pn_all := pn_inS (q := (⟨"PackedNumbersModel", "takes", "(IIII)Z"⟩, 9)) 60 rfl
theorem ks_61 : Cond.selects "PackedNumbersModel" ⟨"PackedNumbersModel", "common", "(II)V"⟩ ⟨"PackedNumbersModel", "common", "(II)V"⟩ ∈ pn_all := pn_inS (q := (⟨"PackedNumbersModel", "common", "(II)V"⟩, 9)) 61 rfl
end
section
/-! names: classes, their fields, methods: code and name -/
def R_P : String := "PackedNumbers"
def R_S : String := "PackedNumbers$Store"
def R_T : String := "PackedNumbers$Text"
def R_D : String := "PackedNumbers$Division"
def R_R : String := "PackedNumbers$Row"
def R_E : String := "PackedNumbers$Euclid"
def R_M : String := "PackedNumbersModel"
def R_L : String := "PackedNumbersLaw"
def F_E : u_T := fun k => match k with
  | 0 => ("PackedNumbers$Euclid", "a", "J", false)
  | 1 => ("PackedNumbers$Euclid", "b", "J", false)
  | 2 => ("PackedNumbers$Euclid", "c", "J", false)
  | _ => ("PackedNumbers$Euclid", "d", "J", false)
def ft_E : Nat → FieldType := fun k => match k with
  | 0 => .long
  | 1 => .long
  | 2 => .long
  | _ => .long
theorem n_E : ∀ a, a < 4 → ∀ b, b < 4 → a ≠ b → (F_E a).2.1 ≠ (F_E b).2.1 := by decide +kernel
theorem ft_E_ok : ∀ k, k < 4 → parseFieldDescriptor (F_E k).2.2.1 = some (ft_E k) := by decide +kernel
theorem f_E_0 : u_lay R_E F_E 0 ∈ pn_all := pn_in1 60 rfl rfl
theorem f_E_1 : u_lay R_E F_E 1 ∈ pn_all := pn_in1 62 rfl rfl
theorem f_E_2 : u_lay R_E F_E 2 ∈ pn_all := pn_in1 64 rfl rfl
theorem f_E_3 : u_lay R_E F_E 3 ∈ pn_all := pn_in1 66 rfl rfl
theorem in_E : ∀ w ∈ u_ws R_E F_E 4, w ∈ pn_all := by
  intro w hw
  obtain ⟨k, hk, rfl⟩ := List.mem_map.mp hw
  have hk := List.mem_range.mp hk
  match k, hk with
  | 0, _ => exact f_E_0
  | 1, _ => exact f_E_1
  | 2, _ => exact f_E_2
  | 3, _ => exact f_E_3
  | k + 4, h => exact absurd h (by omega)
def F_R : u_T := fun k => match k with
  | 0 => ("PackedNumbers$Row", "limbs", "[I", true)
  | 1 => ("PackedNumbers$Row", "count", "I", false)
  | _ => ("PackedNumbers$Row", "below", "Z", false)
def ft_R : Nat → FieldType := fun k => match k with
  | 0 => .array .int
  | 1 => .int
  | _ => .boolean
theorem n_R : ∀ a, a < 3 → ∀ b, b < 3 → a ≠ b → (F_R a).2.1 ≠ (F_R b).2.1 := by decide +kernel
theorem ft_R_ok : ∀ k, k < 3 → parseFieldDescriptor (F_R k).2.2.1 = some (ft_R k) := by decide +kernel
theorem f_R_0 : u_lay R_R F_R 0 ∈ pn_all := pn_in1 105 rfl rfl
theorem f_R_1 : u_lay R_R F_R 1 ∈ pn_all := pn_in1 107 rfl rfl
theorem f_R_2 : u_lay R_R F_R 2 ∈ pn_all := pn_in1 109 rfl rfl
theorem in_R : ∀ w ∈ u_ws R_R F_R 3, w ∈ pn_all := by
  intro w hw
  obtain ⟨k, hk, rfl⟩ := List.mem_map.mp hw
  have hk := List.mem_range.mp hk
  match k, hk with
  | 0, _ => exact f_R_0
  | 1, _ => exact f_R_1
  | 2, _ => exact f_R_2
  | k + 3, h => exact absurd h (by omega)
def F_S : u_T := fun k => match k with
  | 0 => ("PackedNumbers$Store", "cells", "[I", true)
  | 1 => ("PackedNumbers$Store", "starts", "[I", true)
  | 2 => ("PackedNumbers$Store", "counts", "[I", true)
  | 3 => ("PackedNumbers$Store", "belows", "[Z", true)
  | _ => ("PackedNumbers$Store", "used", "I", false)
def ft_S : Nat → FieldType := fun k => match k with
  | 0 => .array .int
  | 1 => .array .int
  | 2 => .array .int
  | 3 => .array .boolean
  | _ => .int
theorem n_S : ∀ a, a < 5 → ∀ b, b < 5 → a ≠ b → (F_S a).2.1 ≠ (F_S b).2.1 := by decide +kernel
theorem ft_S_ok : ∀ k, k < 5 → parseFieldDescriptor (F_S k).2.2.1 = some (ft_S k) := by decide +kernel
theorem f_S_0 : u_lay R_S F_S 0 ∈ pn_all := pn_in1 37 rfl rfl
theorem f_S_1 : u_lay R_S F_S 1 ∈ pn_all := pn_in1 39 rfl rfl
theorem f_S_2 : u_lay R_S F_S 2 ∈ pn_all := pn_in1 41 rfl rfl
theorem f_S_3 : u_lay R_S F_S 3 ∈ pn_all := pn_in1 43 rfl rfl
theorem f_S_4 : u_lay R_S F_S 4 ∈ pn_all := pn_in1 45 rfl rfl
theorem in_S : ∀ w ∈ u_ws R_S F_S 5, w ∈ pn_all := by
  intro w hw
  obtain ⟨k, hk, rfl⟩ := List.mem_map.mp hw
  have hk := List.mem_range.mp hk
  match k, hk with
  | 0, _ => exact f_S_0
  | 1, _ => exact f_S_1
  | 2, _ => exact f_S_2
  | 3, _ => exact f_S_3
  | 4, _ => exact f_S_4
  | k + 5, h => exact absurd h (by omega)
def F_T : u_T := fun k => match k with
  | 0 => ("PackedNumbers$Text", "characters", "[B", true)
  | _ => ("PackedNumbers$Text", "start", "I", false)
def ft_T : Nat → FieldType := fun k => match k with
  | 0 => .array .byte
  | _ => .int
theorem n_T : ∀ a, a < 2 → ∀ b, b < 2 → a ≠ b → (F_T a).2.1 ≠ (F_T b).2.1 := by decide +kernel
theorem ft_T_ok : ∀ k, k < 2 → parseFieldDescriptor (F_T k).2.2.1 = some (ft_T k) := by decide +kernel
theorem f_T_0 : u_lay R_T F_T 0 ∈ pn_all := pn_in1 77 rfl rfl
theorem f_T_1 : u_lay R_T F_T 1 ∈ pn_all := pn_in1 79 rfl rfl
theorem in_T : ∀ w ∈ u_ws R_T F_T 2, w ∈ pn_all := by
  intro w hw
  obtain ⟨k, hk, rfl⟩ := List.mem_map.mp hw
  have hk := List.mem_range.mp hk
  match k, hk with
  | 0, _ => exact f_T_0
  | 1, _ => exact f_T_1
  | k + 2, h => exact absurd h (by omega)
def F_P : u_T := fun k => match k with
  | 0 => ("PackedNumbers", "store", "LPackedNumbers$Store;", true)
  | 1 => ("PackedNumbers", "euclid", "LPackedNumbers$Euclid;", true)
  | 2 => ("PackedNumbers", "text", "LPackedNumbers$Text;", true)
  | 3 => ("PackedNumbers", "first", "LPackedNumbers$Row;", true)
  | 4 => ("PackedNumbers", "second", "LPackedNumbers$Row;", true)
  | 5 => ("PackedNumbers", "third", "LPackedNumbers$Row;", true)
  | _ => ("PackedNumbers", "fourth", "LPackedNumbers$Row;", true)
def ft_P : Nat → FieldType := fun k => match k with
  | 0 => .object "PackedNumbers$Store"
  | 1 => .object "PackedNumbers$Euclid"
  | 2 => .object "PackedNumbers$Text"
  | 3 => .object "PackedNumbers$Row"
  | 4 => .object "PackedNumbers$Row"
  | 5 => .object "PackedNumbers$Row"
  | _ => .object "PackedNumbers$Row"
theorem n_P : ∀ a, a < 7 → ∀ b, b < 7 → a ≠ b → (F_P a).2.1 ≠ (F_P b).2.1 := by decide +kernel
theorem ft_P_ok : ∀ k, k < 7 → parseFieldDescriptor (F_P k).2.2.1 = some (ft_P k) := by decide +kernel
theorem f_P_0 : u_lay R_P F_P 0 ∈ pn_all := pn_in1 119 rfl rfl
theorem f_P_1 : u_lay R_P F_P 1 ∈ pn_all := pn_in1 121 rfl rfl
theorem f_P_2 : u_lay R_P F_P 2 ∈ pn_all := pn_in1 123 rfl rfl
theorem f_P_3 : u_lay R_P F_P 3 ∈ pn_all := pn_in1 125 rfl rfl
theorem f_P_4 : u_lay R_P F_P 4 ∈ pn_all := pn_in1 127 rfl rfl
theorem f_P_5 : u_lay R_P F_P 5 ∈ pn_all := pn_in1 129 rfl rfl
theorem f_P_6 : u_lay R_P F_P 6 ∈ pn_all := pn_in1 131 rfl rfl
theorem in_P : ∀ w ∈ u_ws R_P F_P 7, w ∈ pn_all := by
  intro w hw
  obtain ⟨k, hk, rfl⟩ := List.mem_map.mp hw
  have hk := List.mem_range.mp hk
  match k, hk with
  | 0, _ => exact f_P_0
  | 1, _ => exact f_P_1
  | 2, _ => exact f_P_2
  | 3, _ => exact f_P_3
  | 4, _ => exact f_P_4
  | 5, _ => exact f_P_5
  | 6, _ => exact f_P_6
  | k + 7, h => exact absurd h (by omega)
def F_M : u_T := fun k => match k with
  | 0 => ("PackedNumbersModel", "code", "I", false)
  | 1 => ("PackedNumbersModel", "work", "[I", true)
  | 2 => ("PackedNumbersModel", "many", "[I", true)
  | 3 => ("PackedNumbersModel", "kept", "[I", true)
  | 4 => ("PackedNumbersModel", "keptMany", "[I", true)
  | 5 => ("PackedNumbersModel", "signs", "[I", true)
  | 6 => ("PackedNumbersModel", "halves", "[I", true)
  | 7 => ("PackedNumbersModel", "printed", "[I", true)
  | _ => ("PackedNumbersModel", "printedLength", "I", false)
def ft_M : Nat → FieldType := fun k => match k with
  | 0 => .int
  | 1 => .array .int
  | 2 => .array .int
  | 3 => .array .int
  | 4 => .array .int
  | 5 => .array .int
  | 6 => .array .int
  | 7 => .array .int
  | _ => .int
theorem n_M : ∀ a, a < 9 → ∀ b, b < 9 → a ≠ b → (F_M a).2.1 ≠ (F_M b).2.1 := by decide +kernel
theorem ft_M_ok : ∀ k, k < 9 → parseFieldDescriptor (F_M k).2.2.1 = some (ft_M k) := by decide +kernel
theorem f_M_0 : u_lay R_M F_M 0 ∈ pn_all := pn_in3 159 rfl rfl
theorem f_M_1 : u_lay R_M F_M 1 ∈ pn_all := pn_in3 161 rfl rfl
theorem f_M_2 : u_lay R_M F_M 2 ∈ pn_all := pn_in3 163 rfl rfl
theorem f_M_3 : u_lay R_M F_M 3 ∈ pn_all := pn_in3 165 rfl rfl
theorem f_M_4 : u_lay R_M F_M 4 ∈ pn_all := pn_in3 167 rfl rfl
theorem f_M_5 : u_lay R_M F_M 5 ∈ pn_all := pn_in3 169 rfl rfl
theorem f_M_6 : u_lay R_M F_M 6 ∈ pn_all := pn_in3 171 rfl rfl
theorem f_M_7 : u_lay R_M F_M 7 ∈ pn_all := pn_in3 173 rfl rfl
theorem f_M_8 : u_lay R_M F_M 8 ∈ pn_all := pn_in3 175 rfl rfl
theorem in_M : ∀ w ∈ u_ws R_M F_M 9, w ∈ pn_all := by
  intro w hw
  obtain ⟨k, hk, rfl⟩ := List.mem_map.mp hw
  have hk := List.mem_range.mp hk
  match k, hk with
  | 0, _ => exact f_M_0
  | 1, _ => exact f_M_1
  | 2, _ => exact f_M_2
  | 3, _ => exact f_M_3
  | 4, _ => exact f_M_4
  | 5, _ => exact f_M_5
  | 6, _ => exact f_M_6
  | 7, _ => exact f_M_7
  | 8, _ => exact f_M_8
  | k + 9, h => exact absurd h (by omega)
abbrev pn_cl : List vw_C := [(R_E, F_E, 4), (R_R, F_R, 3), (R_S, F_S, 5), (R_T, F_T, 2), (R_P, F_P, 7), (R_M, F_M, 9)]
abbrev b_P_init : ByteArray := prog_1_method_1_code
def y_P_init : MethodName := ⟨R_P, "<init>", "()V"⟩
def w_P_init : List Cond := Cond.code y_P_init b_P_init 1 none :: pn_all
theorem q_P_init : Cond.code y_P_init b_P_init 1 none ∈ pn_all := kw_22
abbrev b_P_set : ByteArray := prog_1_method_2_code
def y_P_set : MethodName := ⟨R_P, "set", "(IJ)I"⟩
def w_P_set : List Cond := Cond.code y_P_set b_P_set 4 (some (.int)) :: pn_all
theorem q_P_set : Cond.code y_P_set b_P_set 4 (some (.int)) ∈ pn_all := kw_149
abbrev b_P_push : ByteArray := prog_1_method_3_code
def y_P_push : MethodName := ⟨R_P, "push", "(II)I"⟩
def w_P_push : List Cond := Cond.code y_P_push b_P_push 3 (some (.int)) :: pn_all
theorem q_P_push : Cond.code y_P_push b_P_push 3 (some (.int)) ∈ pn_all := kw_284
abbrev b_P_copy : ByteArray := prog_1_method_4_code
def y_P_copy : MethodName := ⟨R_P, "copy", "(II)I"⟩
def w_P_copy : List Cond := Cond.code y_P_copy b_P_copy 3 (some (.int)) :: pn_all
theorem q_P_copy : Cond.code y_P_copy b_P_copy 3 (some (.int)) ∈ pn_all := kw_304
abbrev b_P_swap : ByteArray := prog_1_method_5_code
def y_P_swap : MethodName := ⟨R_P, "swap", "(II)I"⟩
def w_P_swap : List Cond := Cond.code y_P_swap b_P_swap 3 (some (.int)) :: pn_all
theorem q_P_swap : Cond.code y_P_swap b_P_swap 3 (some (.int)) ∈ pn_all := kw_315
abbrev b_P_negate : ByteArray := prog_1_method_6_code
def y_P_negate : MethodName := ⟨R_P, "negate", "(I)I"⟩
def w_P_negate : List Cond := Cond.code y_P_negate b_P_negate 2 (some (.int)) :: pn_all
theorem q_P_negate : Cond.code y_P_negate b_P_negate 2 (some (.int)) ∈ pn_all := kw_330
abbrev b_P_add : ByteArray := prog_1_method_7_code
def y_P_add : MethodName := ⟨R_P, "add", "(III)I"⟩
def w_P_add : List Cond := Cond.code y_P_add b_P_add 4 (some (.int)) :: pn_all
theorem q_P_add : Cond.code y_P_add b_P_add 4 (some (.int)) ∈ pn_all := kw_341
abbrev b_P_subtract : ByteArray := prog_1_method_8_code
def y_P_subtract : MethodName := ⟨R_P, "subtract", "(III)I"⟩
def w_P_subtract : List Cond := Cond.code y_P_subtract b_P_subtract 4 (some (.int)) :: pn_all
theorem q_P_subtract : Cond.code y_P_subtract b_P_subtract 4 (some (.int)) ∈ pn_all := kw_380
abbrev b_P_multiply : ByteArray := prog_1_method_9_code
def y_P_multiply : MethodName := ⟨R_P, "multiply", "(III)I"⟩
def w_P_multiply : List Cond := Cond.code y_P_multiply b_P_multiply 4 (some (.int)) :: pn_all
theorem q_P_multiply : Cond.code y_P_multiply b_P_multiply 4 (some (.int)) ∈ pn_all := kw_387
abbrev b_P_addProduct : ByteArray := prog_1_method_10_code
def y_P_addProduct : MethodName := ⟨R_P, "addProduct", "(IIIZ)I"⟩
def w_P_addProduct : List Cond := Cond.code y_P_addProduct b_P_addProduct 5 (some (.int)) :: pn_all
theorem q_P_addProduct : Cond.code y_P_addProduct b_P_addProduct 5 (some (.int)) ∈ pn_all := kw_410
abbrev b_P_divide : ByteArray := prog_1_method_11_code
def y_P_divide : MethodName := ⟨R_P, "divide", "(IIII)I"⟩
def w_P_divide : List Cond := Cond.code y_P_divide b_P_divide 6 (some (.int)) :: pn_all
theorem q_P_divide : Cond.code y_P_divide b_P_divide 6 (some (.int)) ∈ pn_all := kw_419
abbrev b_P_exact : ByteArray := prog_1_method_12_code
def y_P_exact : MethodName := ⟨R_P, "exact", "(III)I"⟩
def w_P_exact : List Cond := Cond.code y_P_exact b_P_exact 5 (some (.int)) :: pn_all
theorem q_P_exact : Cond.code y_P_exact b_P_exact 5 (some (.int)) ∈ pn_all := kw_515
abbrev b_P_nearest : ByteArray := prog_1_method_13_code
def y_P_nearest : MethodName := ⟨R_P, "nearest", "(III)I"⟩
def w_P_nearest : List Cond := Cond.code y_P_nearest b_P_nearest 6 (some (.int)) :: pn_all
theorem q_P_nearest : Cond.code y_P_nearest b_P_nearest 6 (some (.int)) ∈ pn_all := kw_524
abbrev b_P_gcd : ByteArray := prog_1_method_14_code
def y_P_gcd : MethodName := ⟨R_P, "gcd", "(III)I"⟩
def w_P_gcd : List Cond := Cond.code y_P_gcd b_P_gcd 4 (some (.int)) :: pn_all
theorem q_P_gcd : Cond.code y_P_gcd b_P_gcd 4 (some (.int)) ∈ pn_all := kw_537
abbrev b_P_compare : ByteArray := prog_1_method_15_code
def y_P_compare : MethodName := ⟨R_P, "compare", "(II)I"⟩
def w_P_compare : List Cond := Cond.code y_P_compare b_P_compare 4 (some (.int)) :: pn_all
theorem q_P_compare : Cond.code y_P_compare b_P_compare 4 (some (.int)) ∈ pn_all := kw_572
abbrev b_P_sign : ByteArray := prog_1_method_16_code
def y_P_sign : MethodName := ⟨R_P, "sign", "(I)I"⟩
def w_P_sign : List Cond := Cond.code y_P_sign b_P_sign 2 (some (.int)) :: pn_all
theorem q_P_sign : Cond.code y_P_sign b_P_sign 2 (some (.int)) ∈ pn_all := kw_579
abbrev b_P_length : ByteArray := prog_1_method_17_code
def y_P_length : MethodName := ⟨R_P, "length", "(I)I"⟩
def w_P_length : List Cond := Cond.code y_P_length b_P_length 2 (some (.int)) :: pn_all
theorem q_P_length : Cond.code y_P_length b_P_length 2 (some (.int)) ∈ pn_all := kw_323
abbrev b_P_limb : ByteArray := prog_1_method_18_code
def y_P_limb : MethodName := ⟨R_P, "limb", "(II)I"⟩
def w_P_limb : List Cond := Cond.code y_P_limb b_P_limb 3 (some (.int)) :: pn_all
theorem q_P_limb : Cond.code y_P_limb b_P_limb 3 (some (.int)) ∈ pn_all := kw_590
abbrev b_P_rest : ByteArray := prog_1_method_19_code
def y_P_rest : MethodName := ⟨R_P, "rest", "(II)I"⟩
def w_P_rest : List Cond := Cond.code y_P_rest b_P_rest 5 (some (.int)) :: pn_all
theorem q_P_rest : Cond.code y_P_rest b_P_rest 5 (some (.int)) ∈ pn_all := kw_599
abbrev b_P_print : ByteArray := prog_1_method_20_code
def y_P_print : MethodName := ⟨R_P, "print", "(I)I"⟩
def w_P_print : List Cond := Cond.code y_P_print b_P_print 2 (some (.int)) :: pn_all
theorem q_P_print : Cond.code y_P_print b_P_print 2 (some (.int)) ∈ pn_all := kw_608
abbrev b_P_character : ByteArray := prog_1_method_21_code
def y_P_character : MethodName := ⟨R_P, "character", "(I)I"⟩
def w_P_character : List Cond := Cond.code y_P_character b_P_character 2 (some (.int)) :: pn_all
theorem q_P_character : Cond.code y_P_character b_P_character 2 (some (.int)) ∈ pn_all := kw_137
abbrev b_P_needRegister : ByteArray := prog_1_method_22_code
def y_P_needRegister : MethodName := ⟨R_P, "needRegister", "(I)V"⟩
def w_P_needRegister : List Cond := Cond.code y_P_needRegister b_P_needRegister 2 none :: pn_all
theorem q_P_needRegister : Cond.code y_P_needRegister b_P_needRegister 2 none ∈ pn_all := kw_153
abbrev b_P_needRegisters : ByteArray := prog_1_method_23_code
def y_P_needRegisters : MethodName := ⟨R_P, "needRegisters", "(II)V"⟩
def w_P_needRegisters : List Cond := Cond.code y_P_needRegisters b_P_needRegisters 3 none :: pn_all
theorem q_P_needRegisters : Cond.code y_P_needRegisters b_P_needRegisters 3 none ∈ pn_all := kw_308
abbrev b_P_needLength : ByteArray := prog_1_method_24_code
def y_P_needLength : MethodName := ⟨R_P, "needLength", "(I)V"⟩
def w_P_needLength : List Cond := Cond.code y_P_needLength b_P_needLength 2 none :: pn_all
theorem q_P_needLength : Cond.code y_P_needLength b_P_needLength 2 none ∈ pn_all := kw_245
abbrev b_P_needDivisorAboveZero : ByteArray := prog_1_method_25_code
def y_P_needDivisorAboveZero : MethodName := ⟨R_P, "needDivisorAboveZero", "()V"⟩
def w_P_needDivisorAboveZero : List Cond := Cond.code y_P_needDivisorAboveZero b_P_needDivisorAboveZero 1 none :: pn_all
theorem q_P_needDivisorAboveZero : Cond.code y_P_needDivisorAboveZero b_P_needDivisorAboveZero 1 none ∈ pn_all := kw_439
abbrev b_P_readBoth : ByteArray := prog_1_method_26_code
def y_P_readBoth : MethodName := ⟨R_P, "readBoth", "(II)V"⟩
def w_P_readBoth : List Cond := Cond.code y_P_readBoth b_P_readBoth 3 none :: pn_all
theorem q_P_readBoth : Cond.code y_P_readBoth b_P_readBoth 3 none ∈ pn_all := kw_349
abbrev b_P_leastProductBits : ByteArray := prog_1_method_27_code
def y_P_leastProductBits : MethodName := ⟨R_P, "leastProductBits", "()I"⟩
def w_P_leastProductBits : List Cond := Cond.code y_P_leastProductBits b_P_leastProductBits 1 (some (.int)) :: pn_all
theorem q_P_leastProductBits : Cond.code y_P_leastProductBits b_P_leastProductBits 1 (some (.int)) ∈ pn_all := kw_391
abbrev b_P_keepSum : ByteArray := prog_1_method_28_code
def y_P_keepSum : MethodName := ⟨R_P, "keepSum", "(IIIZ)I"⟩
def w_P_keepSum : List Cond := Cond.code y_P_keepSum b_P_keepSum 5 (some (.int)) :: pn_all
theorem q_P_keepSum : Cond.code y_P_keepSum b_P_keepSum 5 (some (.int)) ∈ pn_all := kw_345
abbrev b_P_keep : ByteArray := prog_1_method_29_code
def y_P_keep : MethodName := ⟨R_P, "keep", "(ILPackedNumbers$Row;)I"⟩
def w_P_keep : List Cond := Cond.code y_P_keep b_P_keep 4 (some (.int)) :: pn_all
theorem q_P_keep : Cond.code y_P_keep b_P_keep 4 (some (.int)) ∈ pn_all := kw_233
abbrev b_M_init : ByteArray := prog_8_method_1_code
def y_M_init : MethodName := ⟨R_M, "<init>", "()V"⟩
def w_M_init : List Cond := Cond.code y_M_init b_M_init 1 none :: pn_all
theorem q_M_init : Cond.code y_M_init b_M_init 1 none ∈ pn_all := kw_627
abbrev b_M_thrown : ByteArray := prog_8_method_2_code
def y_M_thrown : MethodName := ⟨R_M, "thrown", "()I"⟩
def w_M_thrown : List Cond := Cond.code y_M_thrown b_M_thrown 1 (some (.int)) :: pn_all
theorem q_M_thrown : Cond.code y_M_thrown b_M_thrown 1 (some (.int)) ∈ pn_all := kw_661
abbrev b_M_refuses : ByteArray := prog_8_method_3_code
def y_M_refuses : MethodName := ⟨R_M, "refuses", "(I)Z"⟩
def w_M_refuses : List Cond := Cond.code y_M_refuses b_M_refuses 2 (some (.boolean)) :: pn_all
theorem q_M_refuses : Cond.code y_M_refuses b_M_refuses 2 (some (.boolean)) ∈ pn_all := kw_672
abbrev b_M_isRegister : ByteArray := prog_8_method_4_code
def y_M_isRegister : MethodName := ⟨R_M, "isRegister", "(I)Z"⟩
def w_M_isRegister : List Cond := Cond.code y_M_isRegister b_M_isRegister 1 (some (.boolean)) :: pn_all
theorem q_M_isRegister : Cond.code y_M_isRegister b_M_isRegister 1 (some (.boolean)) ∈ pn_all := kw_668
abbrev b_M_are : ByteArray := prog_8_method_5_code
def y_M_are : MethodName := ⟨R_M, "are", "(III)Z"⟩
def w_M_are : List Cond := Cond.code y_M_are b_M_are 3 (some (.boolean)) :: pn_all
theorem q_M_are : Cond.code y_M_are b_M_are 3 (some (.boolean)) ∈ pn_all := kw_726
abbrev b_M_trim : ByteArray := prog_8_method_6_code
def y_M_trim : MethodName := ⟨R_M, "trim", "(II)V"⟩
def w_M_trim : List Cond := Cond.code y_M_trim b_M_trim 4 none :: pn_all
theorem q_M_trim : Cond.code y_M_trim b_M_trim 4 none ∈ pn_all := kw_698
abbrev b_M_setLong : ByteArray := prog_8_method_7_code
def y_M_setLong : MethodName := ⟨R_M, "setLong", "(IJ)V"⟩
def w_M_setLong : List Cond := Cond.code y_M_setLong b_M_setLong 8 none :: pn_all
theorem q_M_setLong : Cond.code y_M_setLong b_M_setLong 8 none ∈ pn_all := kw_676
abbrev b_M_copyTo : ByteArray := prog_8_method_8_code
def y_M_copyTo : MethodName := ⟨R_M, "copyTo", "(II)V"⟩
def w_M_copyTo : List Cond := Cond.code y_M_copyTo b_M_copyTo 4 none :: pn_all
theorem q_M_copyTo : Cond.code y_M_copyTo b_M_copyTo 4 none ∈ pn_all := kw_693
abbrev b_M_order : ByteArray := prog_8_method_9_code
def y_M_order : MethodName := ⟨R_M, "order", "(II)I"⟩
def w_M_order : List Cond := Cond.code y_M_order b_M_order 5 (some (.int)) :: pn_all
theorem q_M_order : Cond.code y_M_order b_M_order 5 (some (.int)) ∈ pn_all := kw_746
abbrev b_M_figure : ByteArray := prog_8_method_10_code
def y_M_figure : MethodName := ⟨R_M, "figure", "(II)I"⟩
def w_M_figure : List Cond := Cond.code y_M_figure b_M_figure 3 (some (.int)) :: pn_all
theorem q_M_figure : Cond.code y_M_figure b_M_figure 3 (some (.int)) ∈ pn_all := kw_719
abbrev b_M_addTo : ByteArray := prog_8_method_11_code
def y_M_addTo : MethodName := ⟨R_M, "addTo", "(II)V"⟩
def w_M_addTo : List Cond := Cond.code y_M_addTo b_M_addTo 7 none :: pn_all
theorem q_M_addTo : Cond.code y_M_addTo b_M_addTo 7 none ∈ pn_all := kw_715
abbrev b_M_takeFrom : ByteArray := prog_8_method_12_code
def y_M_takeFrom : MethodName := ⟨R_M, "takeFrom", "(II)V"⟩
def w_M_takeFrom : List Cond := Cond.code y_M_takeFrom b_M_takeFrom 6 none :: pn_all
theorem q_M_takeFrom : Cond.code y_M_takeFrom b_M_takeFrom 6 none ∈ pn_all := kw_750
abbrev b_M_small : ByteArray := prog_8_method_13_code
def y_M_small : MethodName := ⟨R_M, "small", "(II)V"⟩
def w_M_small : List Cond := Cond.code y_M_small b_M_small 7 none :: pn_all
theorem q_M_small : Cond.code y_M_small b_M_small 7 none ∈ pn_all := kw_710
abbrev b_M_product : ByteArray := prog_8_method_14_code
def y_M_product : MethodName := ⟨R_M, "product", "(III)V"⟩
def w_M_product : List Cond := Cond.code y_M_product b_M_product 10 none :: pn_all
theorem q_M_product : Cond.code y_M_product b_M_product 10 none ∈ pn_all := kw_762
abbrev b_M_takes : ByteArray := prog_8_method_15_code
def y_M_takes : MethodName := ⟨R_M, "takes", "(IIII)Z"⟩
def w_M_takes : List Cond := Cond.code y_M_takes b_M_takes 10 (some (.boolean)) :: pn_all
theorem q_M_takes : Cond.code y_M_takes b_M_takes 10 (some (.boolean)) ∈ pn_all := kw_784
abbrev b_M_divideBy : ByteArray := prog_8_method_16_code
def y_M_divideBy : MethodName := ⟨R_M, "divideBy", "(III)V"⟩
def w_M_divideBy : List Cond := Cond.code y_M_divideBy b_M_divideBy 12 none :: pn_all
theorem q_M_divideBy : Cond.code y_M_divideBy b_M_divideBy 12 none ∈ pn_all := kw_778
abbrev b_M_common : ByteArray := prog_8_method_17_code
def y_M_common : MethodName := ⟨R_M, "common", "(II)V"⟩
def w_M_common : List Cond := Cond.code y_M_common b_M_common 3 none :: pn_all
theorem q_M_common : Cond.code y_M_common b_M_common 3 none ∈ pn_all := kw_800
abbrev b_M_parts : ByteArray := prog_8_method_18_code
def y_M_parts : MethodName := ⟨R_M, "parts", "(I)I"⟩
def w_M_parts : List Cond := Cond.code y_M_parts b_M_parts 6 (some (.int)) :: pn_all
theorem q_M_parts : Cond.code y_M_parts b_M_parts 6 (some (.int)) ∈ pn_all := kw_689
abbrev b_M_bits : ByteArray := prog_8_method_19_code
def y_M_bits : MethodName := ⟨R_M, "bits", "(I)I"⟩
def w_M_bits : List Cond := Cond.code y_M_bits b_M_bits 4 (some (.int)) :: pn_all
theorem q_M_bits : Cond.code y_M_bits b_M_bits 4 (some (.int)) ∈ pn_all := kw_685
abbrev b_M_load : ByteArray := prog_8_method_20_code
def y_M_load : MethodName := ⟨R_M, "load", "(II)V"⟩
def w_M_load : List Cond := Cond.code y_M_load b_M_load 4 none :: pn_all
theorem q_M_load : Cond.code y_M_load b_M_load 4 none ∈ pn_all := kw_706
abbrev b_M_put : ByteArray := prog_8_method_21_code
def y_M_put : MethodName := ⟨R_M, "put", "(IIII)I"⟩
def w_M_put : List Cond := Cond.code y_M_put b_M_put 7 (some (.int)) :: pn_all
theorem q_M_put : Cond.code y_M_put b_M_put 7 (some (.int)) ∈ pn_all := kw_681
abbrev b_M_set : ByteArray := prog_8_method_22_code
def y_M_set : MethodName := ⟨R_M, "set", "(IJ)I"⟩
def w_M_set : List Cond := Cond.code y_M_set b_M_set 4 (some (.int)) :: pn_all
theorem q_M_set : Cond.code y_M_set b_M_set 4 (some (.int)) ∈ pn_all := kw_665
abbrev b_M_push : ByteArray := prog_8_method_23_code
def y_M_push : MethodName := ⟨R_M, "push", "(II)I"⟩
def w_M_push : List Cond := Cond.code y_M_push b_M_push 3 (some (.int)) :: pn_all
theorem q_M_push : Cond.code y_M_push b_M_push 3 (some (.int)) ∈ pn_all := kw_702
abbrev b_M_copy : ByteArray := prog_8_method_24_code
def y_M_copy : MethodName := ⟨R_M, "copy", "(II)I"⟩
def w_M_copy : List Cond := Cond.code y_M_copy b_M_copy 3 (some (.int)) :: pn_all
theorem q_M_copy : Cond.code y_M_copy b_M_copy 3 (some (.int)) ∈ pn_all := kw_723
abbrev b_M_swap : ByteArray := prog_8_method_25_code
def y_M_swap : MethodName := ⟨R_M, "swap", "(II)I"⟩
def w_M_swap : List Cond := Cond.code y_M_swap b_M_swap 4 (some (.int)) :: pn_all
theorem q_M_swap : Cond.code y_M_swap b_M_swap 4 (some (.int)) ∈ pn_all := kw_730
abbrev b_M_negate : ByteArray := prog_8_method_26_code
def y_M_negate : MethodName := ⟨R_M, "negate", "(I)I"⟩
def w_M_negate : List Cond := Cond.code y_M_negate b_M_negate 2 (some (.int)) :: pn_all
theorem q_M_negate : Cond.code y_M_negate b_M_negate 2 (some (.int)) ∈ pn_all := kw_734
abbrev b_M_sum : ByteArray := prog_8_method_27_code
def y_M_sum : MethodName := ⟨R_M, "sum", "(II)I"⟩
def w_M_sum : List Cond := Cond.code y_M_sum b_M_sum 4 (some (.int)) :: pn_all
theorem q_M_sum : Cond.code y_M_sum b_M_sum 4 (some (.int)) ∈ pn_all := kw_742
abbrev b_M_add : ByteArray := prog_8_method_28_code
def y_M_add : MethodName := ⟨R_M, "add", "(III)I"⟩
def w_M_add : List Cond := Cond.code y_M_add b_M_add 5 (some (.int)) :: pn_all
theorem q_M_add : Cond.code y_M_add b_M_add 5 (some (.int)) ∈ pn_all := kw_738
abbrev b_M_subtract : ByteArray := prog_8_method_29_code
def y_M_subtract : MethodName := ⟨R_M, "subtract", "(III)I"⟩
def w_M_subtract : List Cond := Cond.code y_M_subtract b_M_subtract 5 (some (.int)) :: pn_all
theorem q_M_subtract : Cond.code y_M_subtract b_M_subtract 5 (some (.int)) ∈ pn_all := kw_754
abbrev b_M_multiply : ByteArray := prog_8_method_30_code
def y_M_multiply : MethodName := ⟨R_M, "multiply", "(III)I"⟩
def w_M_multiply : List Cond := Cond.code y_M_multiply b_M_multiply 4 (some (.int)) :: pn_all
theorem q_M_multiply : Cond.code y_M_multiply b_M_multiply 4 (some (.int)) ∈ pn_all := kw_758
abbrev b_M_addProduct : ByteArray := prog_8_method_31_code
def y_M_addProduct : MethodName := ⟨R_M, "addProduct", "(IIIZ)I"⟩
def w_M_addProduct : List Cond := Cond.code y_M_addProduct b_M_addProduct 7 (some (.int)) :: pn_all
theorem q_M_addProduct : Cond.code y_M_addProduct b_M_addProduct 7 (some (.int)) ∈ pn_all := kw_766
abbrev b_M_down : ByteArray := prog_8_method_32_code
def y_M_down : MethodName := ⟨R_M, "down", "(Z)V"⟩
def w_M_down : List Cond := Cond.code y_M_down b_M_down 2 none :: pn_all
theorem q_M_down : Cond.code y_M_down b_M_down 2 none ∈ pn_all := kw_774
abbrev b_M_divide : ByteArray := prog_8_method_33_code
def y_M_divide : MethodName := ⟨R_M, "divide", "(IIII)I"⟩
def w_M_divide : List Cond := Cond.code y_M_divide b_M_divide 7 (some (.int)) :: pn_all
theorem q_M_divide : Cond.code y_M_divide b_M_divide 7 (some (.int)) ∈ pn_all := kw_770
abbrev b_M_exact : ByteArray := prog_8_method_34_code
def y_M_exact : MethodName := ⟨R_M, "exact", "(III)I"⟩
def w_M_exact : List Cond := Cond.code y_M_exact b_M_exact 4 (some (.int)) :: pn_all
theorem q_M_exact : Cond.code y_M_exact b_M_exact 4 (some (.int)) ∈ pn_all := kw_788
abbrev b_M_nearest : ByteArray := prog_8_method_35_code
def y_M_nearest : MethodName := ⟨R_M, "nearest", "(III)I"⟩
def w_M_nearest : List Cond := Cond.code y_M_nearest b_M_nearest 7 (some (.int)) :: pn_all
theorem q_M_nearest : Cond.code y_M_nearest b_M_nearest 7 (some (.int)) ∈ pn_all := kw_792
abbrev b_M_gcd : ByteArray := prog_8_method_36_code
def y_M_gcd : MethodName := ⟨R_M, "gcd", "(III)I"⟩
def w_M_gcd : List Cond := Cond.code y_M_gcd b_M_gcd 4 (some (.int)) :: pn_all
theorem q_M_gcd : Cond.code y_M_gcd b_M_gcd 4 (some (.int)) ∈ pn_all := kw_796
abbrev b_M_compare : ByteArray := prog_8_method_37_code
def y_M_compare : MethodName := ⟨R_M, "compare", "(II)I"⟩
def w_M_compare : List Cond := Cond.code y_M_compare b_M_compare 3 (some (.int)) :: pn_all
theorem q_M_compare : Cond.code y_M_compare b_M_compare 3 (some (.int)) ∈ pn_all := kw_804
abbrev b_M_sign : ByteArray := prog_8_method_38_code
def y_M_sign : MethodName := ⟨R_M, "sign", "(I)I"⟩
def w_M_sign : List Cond := Cond.code y_M_sign b_M_sign 2 (some (.int)) :: pn_all
theorem q_M_sign : Cond.code y_M_sign b_M_sign 2 (some (.int)) ∈ pn_all := kw_808
abbrev b_M_length : ByteArray := prog_8_method_39_code
def y_M_length : MethodName := ⟨R_M, "length", "(I)I"⟩
def w_M_length : List Cond := Cond.code y_M_length b_M_length 2 (some (.int)) :: pn_all
theorem q_M_length : Cond.code y_M_length b_M_length 2 (some (.int)) ∈ pn_all := kw_812
abbrev b_M_limb : ByteArray := prog_8_method_40_code
def y_M_limb : MethodName := ⟨R_M, "limb", "(II)I"⟩
def w_M_limb : List Cond := Cond.code y_M_limb b_M_limb 6 (some (.int)) :: pn_all
theorem q_M_limb : Cond.code y_M_limb b_M_limb 6 (some (.int)) ∈ pn_all := kw_816
abbrev b_M_rest : ByteArray := prog_8_method_41_code
def y_M_rest : MethodName := ⟨R_M, "rest", "(II)I"⟩
def w_M_rest : List Cond := Cond.code y_M_rest b_M_rest 6 (some (.int)) :: pn_all
theorem q_M_rest : Cond.code y_M_rest b_M_rest 6 (some (.int)) ∈ pn_all := kw_820
abbrev b_M_print : ByteArray := prog_8_method_42_code
def y_M_print : MethodName := ⟨R_M, "print", "(I)I"⟩
def w_M_print : List Cond := Cond.code y_M_print b_M_print 5 (some (.int)) :: pn_all
theorem q_M_print : Cond.code y_M_print b_M_print 5 (some (.int)) ∈ pn_all := kw_824
abbrev b_M_character : ByteArray := prog_8_method_43_code
def y_M_character : MethodName := ⟨R_M, "character", "(I)I"⟩
def w_M_character : List Cond := Cond.code y_M_character b_M_character 2 (some (.int)) :: pn_all
theorem q_M_character : Cond.code y_M_character b_M_character 2 (some (.int)) ∈ pn_all := kw_828
abbrev b_D_split : ByteArray := prog_2_method_2_code
def y_D_split : MethodName := ⟨R_D, "split", "(LPackedNumbers$Row;LPackedNumbers$Row;LPackedNumbers$Row;)V"⟩
def w_D_split : List Cond := Cond.code y_D_split b_D_split 5 none :: pn_all
theorem q_D_split : Cond.code y_D_split b_D_split 5 none ∈ pn_all := kw_462
abbrev b_D_splitByLong : ByteArray := prog_2_method_3_code
def y_D_splitByLong : MethodName := ⟨R_D, "splitByLong", "(LPackedNumbers$Row;LPackedNumbers$Row;LPackedNumbers$Row;)V"⟩
def w_D_splitByLong : List Cond := Cond.code y_D_splitByLong b_D_splitByLong 9 none :: pn_all
theorem q_D_splitByLong : Cond.code y_D_splitByLong b_D_splitByLong 9 none ∈ pn_all := kw_480
abbrev b_D_guess : ByteArray := prog_2_method_4_code
def y_D_guess : MethodName := ⟨R_D, "guess", "([IIJJ)J"⟩
def w_D_guess : List Cond := Cond.code y_D_guess b_D_guess 15 (some (.long)) :: pn_all
theorem q_D_guess : Cond.code y_D_guess b_D_guess 15 (some (.long)) ∈ pn_all := kw_489
abbrev b_D_takeMultiple : ByteArray := prog_2_method_5_code
def y_D_takeMultiple : MethodName := ⟨R_D, "takeMultiple", "([IILPackedNumbers$Row;J)Z"⟩
def w_D_takeMultiple : List Cond := Cond.code y_D_takeMultiple b_D_takeMultiple 10 (some (.boolean)) :: pn_all
theorem q_D_takeMultiple : Cond.code y_D_takeMultiple b_D_takeMultiple 10 (some (.boolean)) ∈ pn_all := kw_494
abbrev b_D_putBack : ByteArray := prog_2_method_6_code
def y_D_putBack : MethodName := ⟨R_D, "putBack", "([IILPackedNumbers$Row;)V"⟩
def w_D_putBack : List Cond := Cond.code y_D_putBack b_D_putBack 6 none :: pn_all
theorem q_D_putBack : Cond.code y_D_putBack b_D_putBack 6 none ∈ pn_all := kw_497
abbrev b_D_unsigned : ByteArray := prog_2_method_7_code
def y_D_unsigned : MethodName := ⟨R_D, "unsigned", "(JJ)J"⟩
def w_D_unsigned : List Cond := Cond.code y_D_unsigned b_D_unsigned 6 (some (.long)) :: pn_all
theorem q_D_unsigned : Cond.code y_D_unsigned b_D_unsigned 6 (some (.long)) ∈ pn_all := kw_476
abbrev b_E_init : ByteArray := prog_3_method_1_code
def y_E_init : MethodName := ⟨R_E, "<init>", "()V"⟩
def w_E_init : List Cond := Cond.code y_E_init b_E_init 1 none :: pn_all
theorem q_E_init : Cond.code y_E_init b_E_init 1 none ∈ pn_all := kw_54
abbrev b_E_greatest : ByteArray := prog_3_method_2_code
def y_E_greatest : MethodName := ⟨R_E, "greatest", "(LPackedNumbers$Row;LPackedNumbers$Row;LPackedNumbers$Row;)LPackedNumbers$Row;"⟩
def w_E_greatest : List Cond := Cond.code y_E_greatest b_E_greatest 10 (some (.object "PackedNumbers$Row")) :: pn_all
theorem q_E_greatest : Cond.code y_E_greatest b_E_greatest 10 (some (.object "PackedNumbers$Row")) ∈ pn_all := kw_541
abbrev b_E_foresee : ByteArray := prog_3_method_3_code
def y_E_foresee : MethodName := ⟨R_E, "foresee", "(JJ)V"⟩
def w_E_foresee : List Cond := Cond.code y_E_foresee b_E_foresee 18 none :: pn_all
theorem q_E_foresee : Cond.code y_E_foresee b_E_foresee 18 none ∈ pn_all := kw_553
abbrev b_E_follow : ByteArray := prog_3_method_4_code
def y_E_follow : MethodName := ⟨R_E, "follow", "(LPackedNumbers$Row;LPackedNumbers$Row;)V"⟩
def w_E_follow : List Cond := Cond.code y_E_follow b_E_follow 13 none :: pn_all
theorem q_E_follow : Cond.code y_E_follow b_E_follow 13 none ∈ pn_all := kw_561
abbrev b_R_init : ByteArray := prog_4_method_1_code
def y_R_init : MethodName := ⟨R_R, "<init>", "()V"⟩
def w_R_init : List Cond := Cond.code y_R_init b_R_init 1 none :: pn_all
theorem q_R_init : Cond.code y_R_init b_R_init 1 none ∈ pn_all := kw_87
abbrev b_R_become : ByteArray := prog_4_method_2_code
def y_R_become : MethodName := ⟨R_R, "become", "(J)V"⟩
def w_R_become : List Cond := Cond.code y_R_become b_R_become 5 none :: pn_all
theorem q_R_become : Cond.code y_R_become b_R_become 5 none ∈ pn_all := kw_225
abbrev b_R_take : ByteArray := prog_4_method_3_code
def y_R_take : MethodName := ⟨R_R, "take", "(LPackedNumbers$Row;)V"⟩
def w_R_take : List Cond := Cond.code y_R_take b_R_take 2 none :: pn_all
theorem q_R_take : Cond.code y_R_take b_R_take 2 none ∈ pn_all := kw_468
abbrev b_R_fit : ByteArray := prog_4_method_4_code
def y_R_fit : MethodName := ⟨R_R, "fit", "(I)V"⟩
def w_R_fit : List Cond := Cond.code y_R_fit b_R_fit 3 none :: pn_all
theorem q_R_fit : Cond.code y_R_fit b_R_fit 3 none ∈ pn_all := kw_229
abbrev b_R_clear : ByteArray := prog_4_method_5_code
def y_R_clear : MethodName := ⟨R_R, "clear", "(II)V"⟩
def w_R_clear : List Cond := Cond.code y_R_clear b_R_clear 4 none :: pn_all
theorem q_R_clear : Cond.code y_R_clear b_R_clear 4 none ∈ pn_all := kw_399
abbrev b_R_turnBelowIf : ByteArray := prog_4_method_6_code
def y_R_turnBelowIf : MethodName := ⟨R_R, "turnBelowIf", "(Z)V"⟩
def w_R_turnBelowIf : List Cond := Cond.code y_R_turnBelowIf b_R_turnBelowIf 2 none :: pn_all
theorem q_R_turnBelowIf : Cond.code y_R_turnBelowIf b_R_turnBelowIf 2 none ∈ pn_all := kw_297
abbrev b_R_bits : ByteArray := prog_4_method_7_code
def y_R_bits : MethodName := ⟨R_R, "bits", "()I"⟩
def w_R_bits : List Cond := Cond.code y_R_bits b_R_bits 1 (some (.int)) :: pn_all
theorem q_R_bits : Cond.code y_R_bits b_R_bits 1 (some (.int)) ∈ pn_all := kw_237
abbrev b_R_signum : ByteArray := prog_4_method_8_code
def y_R_signum : MethodName := ⟨R_R, "signum", "()I"⟩
def w_R_signum : List Cond := Cond.code y_R_signum b_R_signum 1 (some (.int)) :: pn_all
theorem q_R_signum : Cond.code y_R_signum b_R_signum 1 (some (.int)) ∈ pn_all := kw_443
abbrev b_R_isOdd : ByteArray := prog_4_method_9_code
def y_R_isOdd : MethodName := ⟨R_R, "isOdd", "()Z"⟩
def w_R_isOdd : List Cond := Cond.code y_R_isOdd b_R_isOdd 1 (some (.boolean)) :: pn_all
theorem q_R_isOdd : Cond.code y_R_isOdd b_R_isOdd 1 (some (.boolean)) ∈ pn_all := kw_530
abbrev b_R_limbAt : ByteArray := prog_4_method_10_code
def y_R_limbAt : MethodName := ⟨R_R, "limbAt", "(I)J"⟩
def w_R_limbAt : List Cond := Cond.code y_R_limbAt b_R_limbAt 2 (some (.long)) :: pn_all
theorem q_R_limbAt : Cond.code y_R_limbAt b_R_limbAt 2 (some (.long)) ∈ pn_all := kw_364
abbrev b_R_putBelow : ByteArray := prog_4_method_11_code
def y_R_putBelow : MethodName := ⟨R_R, "putBelow", "(I)V"⟩
def w_R_putBelow : List Cond := Cond.code y_R_putBelow b_R_putBelow 3 none :: pn_all
theorem q_R_putBelow : Cond.code y_R_putBelow b_R_putBelow 3 none ∈ pn_all := kw_292
abbrev b_R_compareSize : ByteArray := prog_4_method_12_code
def y_R_compareSize : MethodName := ⟨R_R, "compareSize", "(LPackedNumbers$Row;)I"⟩
def w_R_compareSize : List Cond := Cond.code y_R_compareSize b_R_compareSize 3 (some (.int)) :: pn_all
theorem q_R_compareSize : Cond.code y_R_compareSize b_R_compareSize 3 (some (.int)) ∈ pn_all := kw_369
abbrev b_R_becomeSum : ByteArray := prog_4_method_13_code
def y_R_becomeSum : MethodName := ⟨R_R, "becomeSum", "(LPackedNumbers$Row;LPackedNumbers$Row;Z)V"⟩
def w_R_becomeSum : List Cond := Cond.code y_R_becomeSum b_R_becomeSum 5 none :: pn_all
theorem q_R_becomeSum : Cond.code y_R_becomeSum b_R_becomeSum 5 none ∈ pn_all := kw_353
abbrev b_R_becomeSizeSum : ByteArray := prog_4_method_14_code
def y_R_becomeSizeSum : MethodName := ⟨R_R, "becomeSizeSum", "(LPackedNumbers$Row;LPackedNumbers$Row;)V"⟩
def w_R_becomeSizeSum : List Cond := Cond.code y_R_becomeSizeSum b_R_becomeSizeSum 7 none :: pn_all
theorem q_R_becomeSizeSum : Cond.code y_R_becomeSizeSum b_R_becomeSizeSum 7 none ∈ pn_all := kw_357
abbrev b_R_becomeSizeDifference : ByteArray := prog_4_method_15_code
def y_R_becomeSizeDifference : MethodName := ⟨R_R, "becomeSizeDifference", "(LPackedNumbers$Row;LPackedNumbers$Row;)V"⟩
def w_R_becomeSizeDifference : List Cond := Cond.code y_R_becomeSizeDifference b_R_becomeSizeDifference 6 none :: pn_all
theorem q_R_becomeSizeDifference : Cond.code y_R_becomeSizeDifference b_R_becomeSizeDifference 6 none ∈ pn_all := kw_373
abbrev b_R_becomeProduct : ByteArray := prog_4_method_16_code
def y_R_becomeProduct : MethodName := ⟨R_R, "becomeProduct", "(LPackedNumbers$Row;LPackedNumbers$Row;)V"⟩
def w_R_becomeProduct : List Cond := Cond.code y_R_becomeProduct b_R_becomeProduct 5 none :: pn_all
theorem q_R_becomeProduct : Cond.code y_R_becomeProduct b_R_becomeProduct 5 none ∈ pn_all := kw_395
abbrev b_R_addMultiple : ByteArray := prog_4_method_17_code
def y_R_addMultiple : MethodName := ⟨R_R, "addMultiple", "(LPackedNumbers$Row;JI)I"⟩
def w_R_addMultiple : List Cond := Cond.code y_R_addMultiple b_R_addMultiple 8 (some (.int)) :: pn_all
theorem q_R_addMultiple : Cond.code y_R_addMultiple b_R_addMultiple 8 (some (.int)) ∈ pn_all := kw_403
abbrev b_R_increase : ByteArray := prog_4_method_18_code
def y_R_increase : MethodName := ⟨R_R, "increase", "()V"⟩
def w_R_increase : List Cond := Cond.code y_R_increase b_R_increase 2 none :: pn_all
theorem q_R_increase : Cond.code y_R_increase b_R_increase 2 none ∈ pn_all := kw_505
abbrev b_R_shrink : ByteArray := prog_4_method_19_code
def y_R_shrink : MethodName := ⟨R_R, "shrink", "(J)J"⟩
def w_R_shrink : List Cond := Cond.code y_R_shrink b_R_shrink 10 (some (.long)) :: pn_all
theorem q_R_shrink : Cond.code y_R_shrink b_R_shrink 10 (some (.long)) ∈ pn_all := kw_473
abbrev b_R_shiftUp : ByteArray := prog_4_method_20_code
def y_R_shiftUp : MethodName := ⟨R_R, "shiftUp", "(I)V"⟩
def w_R_shiftUp : List Cond := Cond.code y_R_shiftUp b_R_shiftUp 7 none :: pn_all
theorem q_R_shiftUp : Cond.code y_R_shiftUp b_R_shiftUp 7 none ∈ pn_all := kw_485
abbrev b_R_shiftDown : ByteArray := prog_4_method_21_code
def y_R_shiftDown : MethodName := ⟨R_R, "shiftDown", "(I)V"⟩
def w_R_shiftDown : List Cond := Cond.code y_R_shiftDown b_R_shiftDown 7 none :: pn_all
theorem q_R_shiftDown : Cond.code y_R_shiftDown b_R_shiftDown 7 none ∈ pn_all := kw_501
abbrev b_R_bitsFrom : ByteArray := prog_4_method_22_code
def y_R_bitsFrom : MethodName := ⟨R_R, "bitsFrom", "(I)J"⟩
def w_R_bitsFrom : List Cond := Cond.code y_R_bitsFrom b_R_bitsFrom 6 (some (.long)) :: pn_all
theorem q_R_bitsFrom : Cond.code y_R_bitsFrom b_R_bitsFrom 6 (some (.long)) ∈ pn_all := kw_549
abbrev b_S_init : ByteArray := prog_5_method_1_code
def y_S_init : MethodName := ⟨R_S, "<init>", "()V"⟩
def w_S_init : List Cond := Cond.code y_S_init b_S_init 1 none :: pn_all
theorem q_S_init : Cond.code y_S_init b_S_init 1 none ∈ pn_all := kw_30
abbrev b_S_read : ByteArray := prog_5_method_2_code
def y_S_read : MethodName := ⟨R_S, "read", "(ILPackedNumbers$Row;)V"⟩
def w_S_read : List Cond := Cond.code y_S_read b_S_read 3 none :: pn_all
theorem q_S_read : Cond.code y_S_read b_S_read 3 none ∈ pn_all := kw_288
abbrev b_S_write : ByteArray := prog_5_method_3_code
def y_S_write : MethodName := ⟨R_S, "write", "(ILPackedNumbers$Row;)V"⟩
def w_S_write : List Cond := Cond.code y_S_write b_S_write 3 none :: pn_all
theorem q_S_write : Cond.code y_S_write b_S_write 3 none ∈ pn_all := kw_265
abbrev b_S_exchange : ByteArray := prog_5_method_4_code
def y_S_exchange : MethodName := ⟨R_S, "exchange", "(II)V"⟩
def w_S_exchange : List Cond := Cond.code y_S_exchange b_S_exchange 6 none :: pn_all
theorem q_S_exchange : Cond.code y_S_exchange b_S_exchange 6 none ∈ pn_all := kw_319
abbrev b_S_turn : ByteArray := prog_5_method_5_code
def y_S_turn : MethodName := ⟨R_S, "turn", "(I)V"⟩
def w_S_turn : List Cond := Cond.code y_S_turn b_S_turn 2 none :: pn_all
theorem q_S_turn : Cond.code y_S_turn b_S_turn 2 none ∈ pn_all := kw_334
abbrev b_S_pack : ByteArray := prog_5_method_6_code
def y_S_pack : MethodName := ⟨R_S, "pack", "()V"⟩
def w_S_pack : List Cond := Cond.code y_S_pack b_S_pack 6 none :: pn_all
theorem q_S_pack : Cond.code y_S_pack b_S_pack 6 none ∈ pn_all := kw_269
abbrev b_S_firstFrom : ByteArray := prog_5_method_7_code
def y_S_firstFrom : MethodName := ⟨R_S, "firstFrom", "(I)I"⟩
def w_S_firstFrom : List Cond := Cond.code y_S_firstFrom b_S_firstFrom 5 (some (.int)) :: pn_all
theorem q_S_firstFrom : Cond.code y_S_firstFrom b_S_firstFrom 5 (some (.int)) ∈ pn_all := kw_273
abbrev b_T_init : ByteArray := prog_6_method_1_code
def y_T_init : MethodName := ⟨R_T, "<init>", "()V"⟩
def w_T_init : List Cond := Cond.code y_T_init b_T_init 1 none :: pn_all
theorem q_T_init : Cond.code y_T_init b_T_init 1 none ∈ pn_all := kw_73
abbrev b_T_write : ByteArray := prog_6_method_2_code
def y_T_write : MethodName := ⟨R_T, "write", "(LPackedNumbers$Row;)I"⟩
def w_T_write : List Cond := Cond.code y_T_write b_T_write 4 (some (.int)) :: pn_all
theorem q_T_write : Cond.code y_T_write b_T_write 4 (some (.int)) ∈ pn_all := kw_612
abbrev b_T_writeChunk : ByteArray := prog_6_method_3_code
def y_T_writeChunk : MethodName := ⟨R_T, "writeChunk", "(IZ)V"⟩
def w_T_writeChunk : List Cond := Cond.code y_T_writeChunk b_T_writeChunk 5 none :: pn_all
theorem q_T_writeChunk : Cond.code y_T_writeChunk b_T_writeChunk 5 none ∈ pn_all := kw_622
abbrev b_T_putBefore : ByteArray := prog_6_method_4_code
def y_T_putBefore : MethodName := ⟨R_T, "putBefore", "(I)V"⟩
def w_T_putBefore : List Cond := Cond.code y_T_putBefore b_T_putBefore 2 none :: pn_all
theorem q_T_putBefore : Cond.code y_T_putBefore b_T_putBefore 2 none ∈ pn_all := kw_616
abbrev b_T_at : ByteArray := prog_6_method_5_code
def y_T_at : MethodName := ⟨R_T, "at", "(I)I"⟩
def w_T_at : List Cond := Cond.code y_T_at b_T_at 2 (some (.int)) :: pn_all
theorem q_T_at : Cond.code y_T_at b_T_at 2 (some (.int)) ∈ pn_all := kw_141
abbrev b_L_set : ByteArray := method_3_code
def y_L_set : MethodName := ⟨R_L, "set", "(LPackedNumbers;IJ[J)I"⟩
abbrev b_L_push : ByteArray := method_4_code
def y_L_push : MethodName := ⟨R_L, "push", "(LPackedNumbers;II[J)I"⟩
abbrev b_L_copy : ByteArray := method_5_code
def y_L_copy : MethodName := ⟨R_L, "copy", "(LPackedNumbers;II[J)I"⟩
abbrev b_L_swap : ByteArray := method_6_code
def y_L_swap : MethodName := ⟨R_L, "swap", "(LPackedNumbers;II[J)I"⟩
abbrev b_L_negate : ByteArray := method_7_code
def y_L_negate : MethodName := ⟨R_L, "negate", "(LPackedNumbers;I[J)I"⟩
abbrev b_L_add : ByteArray := method_8_code
def y_L_add : MethodName := ⟨R_L, "add", "(LPackedNumbers;III[J)I"⟩
abbrev b_L_subtract : ByteArray := method_9_code
def y_L_subtract : MethodName := ⟨R_L, "subtract", "(LPackedNumbers;III[J)I"⟩
abbrev b_L_multiply : ByteArray := method_10_code
def y_L_multiply : MethodName := ⟨R_L, "multiply", "(LPackedNumbers;III[J)I"⟩
abbrev b_L_addProduct : ByteArray := method_11_code
def y_L_addProduct : MethodName := ⟨R_L, "addProduct", "(LPackedNumbers;IIIZ[J)I"⟩
abbrev b_L_divide : ByteArray := method_12_code
def y_L_divide : MethodName := ⟨R_L, "divide", "(LPackedNumbers;IIII[J)I"⟩
abbrev b_L_exact : ByteArray := method_13_code
def y_L_exact : MethodName := ⟨R_L, "exact", "(LPackedNumbers;III[J)I"⟩
abbrev b_L_nearest : ByteArray := method_14_code
def y_L_nearest : MethodName := ⟨R_L, "nearest", "(LPackedNumbers;III[J)I"⟩
abbrev b_L_gcd : ByteArray := method_15_code
def y_L_gcd : MethodName := ⟨R_L, "gcd", "(LPackedNumbers;III[J)I"⟩
abbrev b_L_compare : ByteArray := method_16_code
def y_L_compare : MethodName := ⟨R_L, "compare", "(LPackedNumbers;II[J)I"⟩
abbrev b_L_sign : ByteArray := method_17_code
def y_L_sign : MethodName := ⟨R_L, "sign", "(LPackedNumbers;I[J)I"⟩
abbrev b_L_length : ByteArray := method_18_code
def y_L_length : MethodName := ⟨R_L, "length", "(LPackedNumbers;I[J)I"⟩
abbrev b_L_limb : ByteArray := method_19_code
def y_L_limb : MethodName := ⟨R_L, "limb", "(LPackedNumbers;II[J)I"⟩
abbrev b_L_rest : ByteArray := method_20_code
def y_L_rest : MethodName := ⟨R_L, "rest", "(LPackedNumbers;II[J)I"⟩
abbrev b_L_print : ByteArray := method_21_code
def y_L_print : MethodName := ⟨R_L, "print", "(LPackedNumbers;I[J)I"⟩
abbrev b_L_law : ByteArray := code
def y_L_law : MethodName := ⟨R_L, "law", "([I)Z"⟩
end
section
theorem d_R_init_0 : decode b_R_init 0 = .ok (.aload_n 0, 1) := by decide +kernel
theorem d_R_init_1 : decode b_R_init 1 = .ok (.invokespecial 3, 3) := by decide +kernel
theorem d_R_init_4 : decode b_R_init 4 = .ok (.aload_n 0, 1) := by decide +kernel
theorem d_R_init_5 : decode b_R_init 5 = .ok (.sipush 632, 3) := by decide +kernel
theorem d_R_init_8 : decode b_R_init 8 = .ok (.newarray .int, 2) := by decide +kernel
theorem d_R_init_10 : decode b_R_init 10 = .ok (.putfield 9, 3) := by decide +kernel
theorem d_R_init_13 : decode b_R_init 13 = .ok (.aload_n 0, 1) := by decide +kernel
theorem d_R_init_14 : decode b_R_init 14 = .ok (.iconst 0, 1) := by decide +kernel
theorem d_R_init_15 : decode b_R_init 15 = .ok (.putfield 15, 3) := by decide +kernel
theorem d_R_init_18 : decode b_R_init 18 = .ok (.aload_n 0, 1) := by decide +kernel
theorem d_R_init_19 : decode b_R_init 19 = .ok (.iconst 0, 1) := by decide +kernel
theorem d_R_init_20 : decode b_R_init 20 = .ok (.putfield 19, 3) := by decide +kernel
theorem d_R_init_23 : decode b_R_init 23 = .ok (.return_, 1) := by decide +kernel
theorem d_R_become_0 : decode b_R_become 0 = .ok (.lload_n 1, 1) := by decide +kernel
theorem d_R_become_1 : decode b_R_become 1 = .ok (.lconst 0, 1) := by decide +kernel
theorem d_R_become_2 : decode b_R_become 2 = .ok (.lcmp, 1) := by decide +kernel
theorem d_R_become_3 : decode b_R_become 3 = .ok (.ifCond .ge 8, 3) := by decide +kernel
theorem d_R_become_6 : decode b_R_become 6 = .ok (.lload_n 1, 1) := by decide +kernel
theorem d_R_become_7 : decode b_R_become 7 = .ok (.lneg, 1) := by decide +kernel
theorem d_R_become_8 : decode b_R_become 8 = .ok (.goto 4, 3) := by decide +kernel
theorem d_R_become_11 : decode b_R_become 11 = .ok (.lload_n 1, 1) := by decide +kernel
theorem d_R_become_12 : decode b_R_become 12 = .ok (.lstore_n 3, 1) := by decide +kernel
theorem d_R_become_13 : decode b_R_become 13 = .ok (.aload_n 0, 1) := by decide +kernel
theorem d_R_become_14 : decode b_R_become 14 = .ok (.getfield 9, 3) := by decide +kernel
theorem d_R_become_17 : decode b_R_become 17 = .ok (.iconst 0, 1) := by decide +kernel
theorem d_R_become_18 : decode b_R_become 18 = .ok (.lload_n 3, 1) := by decide +kernel
theorem d_R_become_19 : decode b_R_become 19 = .ok (.l2i, 1) := by decide +kernel
theorem d_R_become_20 : decode b_R_become 20 = .ok (.iastore, 1) := by decide +kernel
theorem d_R_become_21 : decode b_R_become 21 = .ok (.aload_n 0, 1) := by decide +kernel
theorem d_R_become_22 : decode b_R_become 22 = .ok (.getfield 9, 3) := by decide +kernel
theorem d_R_become_25 : decode b_R_become 25 = .ok (.iconst 1, 1) := by decide +kernel
theorem d_R_become_26 : decode b_R_become 26 = .ok (.lload_n 3, 1) := by decide +kernel
theorem d_R_become_27 : decode b_R_become 27 = .ok (.bipush 32, 2) := by decide +kernel
theorem d_R_become_29 : decode b_R_become 29 = .ok (.lushr, 1) := by decide +kernel
theorem d_R_become_30 : decode b_R_become 30 = .ok (.l2i, 1) := by decide +kernel
theorem d_R_become_31 : decode b_R_become 31 = .ok (.iastore, 1) := by decide +kernel
theorem d_R_become_32 : decode b_R_become 32 = .ok (.aload_n 0, 1) := by decide +kernel
theorem d_R_become_33 : decode b_R_become 33 = .ok (.iconst 2, 1) := by decide +kernel
theorem d_R_become_34 : decode b_R_become 34 = .ok (.invokevirtual 23, 3) := by decide +kernel
theorem d_R_become_37 : decode b_R_become 37 = .ok (.aload_n 0, 1) := by decide +kernel
theorem d_R_become_38 : decode b_R_become 38 = .ok (.lload_n 1, 1) := by decide +kernel
theorem d_R_become_39 : decode b_R_become 39 = .ok (.lconst 0, 1) := by decide +kernel
theorem d_R_become_40 : decode b_R_become 40 = .ok (.lcmp, 1) := by decide +kernel
theorem d_R_become_41 : decode b_R_become 41 = .ok (.ifCond .ge 7, 3) := by decide +kernel
theorem d_R_become_44 : decode b_R_become 44 = .ok (.iconst 1, 1) := by decide +kernel
theorem d_R_become_45 : decode b_R_become 45 = .ok (.goto 4, 3) := by decide +kernel
theorem d_R_become_48 : decode b_R_become 48 = .ok (.iconst 0, 1) := by decide +kernel
theorem d_R_become_49 : decode b_R_become 49 = .ok (.putfield 19, 3) := by decide +kernel
theorem d_R_become_52 : decode b_R_become 52 = .ok (.return_, 1) := by decide +kernel
theorem d_R_take_0 : decode b_R_take 0 = .ok (.aload_n 1, 1) := by decide +kernel
theorem d_R_take_1 : decode b_R_take 1 = .ok (.getfield 9, 3) := by decide +kernel
theorem d_R_take_4 : decode b_R_take 4 = .ok (.iconst 0, 1) := by decide +kernel
theorem d_R_take_5 : decode b_R_take 5 = .ok (.aload_n 0, 1) := by decide +kernel
theorem d_R_take_6 : decode b_R_take 6 = .ok (.getfield 9, 3) := by decide +kernel
theorem d_R_take_9 : decode b_R_take 9 = .ok (.iconst 0, 1) := by decide +kernel
theorem d_R_take_10 : decode b_R_take 10 = .ok (.aload_n 1, 1) := by decide +kernel
theorem d_R_take_11 : decode b_R_take 11 = .ok (.getfield 15, 3) := by decide +kernel
theorem d_R_take_14 : decode b_R_take 14 = .ok (.invokestatic 27, 3) := by decide +kernel
theorem d_R_take_17 : decode b_R_take 17 = .ok (.aload_n 0, 1) := by decide +kernel
theorem d_R_take_18 : decode b_R_take 18 = .ok (.aload_n 1, 1) := by decide +kernel
theorem d_R_take_19 : decode b_R_take 19 = .ok (.getfield 15, 3) := by decide +kernel
theorem d_R_take_22 : decode b_R_take 22 = .ok (.putfield 15, 3) := by decide +kernel
theorem d_R_take_25 : decode b_R_take 25 = .ok (.aload_n 0, 1) := by decide +kernel
theorem d_R_take_26 : decode b_R_take 26 = .ok (.aload_n 1, 1) := by decide +kernel
theorem d_R_take_27 : decode b_R_take 27 = .ok (.getfield 19, 3) := by decide +kernel
theorem d_R_take_30 : decode b_R_take 30 = .ok (.putfield 19, 3) := by decide +kernel
theorem d_R_take_33 : decode b_R_take 33 = .ok (.return_, 1) := by decide +kernel
theorem d_R_fit_0 : decode b_R_fit 0 = .ok (.iload_n 1, 1) := by decide +kernel
theorem d_R_fit_1 : decode b_R_fit 1 = .ok (.istore_n 2, 1) := by decide +kernel
theorem d_R_fit_2 : decode b_R_fit 2 = .ok (.iload_n 2, 1) := by decide +kernel
theorem d_R_fit_3 : decode b_R_fit 3 = .ok (.ifCond .le 20, 3) := by decide +kernel
theorem d_R_fit_6 : decode b_R_fit 6 = .ok (.aload_n 0, 1) := by decide +kernel
theorem d_R_fit_7 : decode b_R_fit 7 = .ok (.getfield 9, 3) := by decide +kernel
theorem d_R_fit_10 : decode b_R_fit 10 = .ok (.iload_n 2, 1) := by decide +kernel
theorem d_R_fit_11 : decode b_R_fit 11 = .ok (.iconst 1, 1) := by decide +kernel
theorem d_R_fit_12 : decode b_R_fit 12 = .ok (.isub, 1) := by decide +kernel
theorem d_R_fit_13 : decode b_R_fit 13 = .ok (.iaload, 1) := by decide +kernel
theorem d_R_fit_14 : decode b_R_fit 14 = .ok (.ifCond .ne 9, 3) := by decide +kernel
theorem d_R_fit_17 : decode b_R_fit 17 = .ok (.iinc 2 (-1), 3) := by decide +kernel
theorem d_R_fit_20 : decode b_R_fit 20 = .ok (.goto (-18), 3) := by decide +kernel
theorem d_R_fit_23 : decode b_R_fit 23 = .ok (.aload_n 0, 1) := by decide +kernel
theorem d_R_fit_24 : decode b_R_fit 24 = .ok (.iload_n 2, 1) := by decide +kernel
theorem d_R_fit_25 : decode b_R_fit 25 = .ok (.putfield 15, 3) := by decide +kernel
theorem d_R_fit_28 : decode b_R_fit 28 = .ok (.aload_n 0, 1) := by decide +kernel
theorem d_R_fit_29 : decode b_R_fit 29 = .ok (.iconst 0, 1) := by decide +kernel
theorem d_R_fit_30 : decode b_R_fit 30 = .ok (.putfield 19, 3) := by decide +kernel
theorem d_R_fit_33 : decode b_R_fit 33 = .ok (.return_, 1) := by decide +kernel
theorem d_R_clear_0 : decode b_R_clear 0 = .ok (.iload_n 1, 1) := by decide +kernel
theorem d_R_clear_1 : decode b_R_clear 1 = .ok (.istore_n 3, 1) := by decide +kernel
theorem d_R_clear_2 : decode b_R_clear 2 = .ok (.iload_n 3, 1) := by decide +kernel
theorem d_R_clear_3 : decode b_R_clear 3 = .ok (.iload_n 2, 1) := by decide +kernel
theorem d_R_clear_4 : decode b_R_clear 4 = .ok (.if_icmp .ge 16, 3) := by decide +kernel
theorem d_R_clear_7 : decode b_R_clear 7 = .ok (.aload_n 0, 1) := by decide +kernel
theorem d_R_clear_8 : decode b_R_clear 8 = .ok (.getfield 9, 3) := by decide +kernel
theorem d_R_clear_11 : decode b_R_clear 11 = .ok (.iload_n 3, 1) := by decide +kernel
theorem d_R_clear_12 : decode b_R_clear 12 = .ok (.iconst 0, 1) := by decide +kernel
theorem d_R_clear_13 : decode b_R_clear 13 = .ok (.iastore, 1) := by decide +kernel
theorem d_R_clear_14 : decode b_R_clear 14 = .ok (.iinc 3 1, 3) := by decide +kernel
theorem d_R_clear_17 : decode b_R_clear 17 = .ok (.goto (-15), 3) := by decide +kernel
theorem d_R_clear_20 : decode b_R_clear 20 = .ok (.return_, 1) := by decide +kernel
theorem d_R_turnBelowIf_0 : decode b_R_turnBelowIf 0 = .ok (.aload_n 0, 1) := by decide +kernel
theorem d_R_turnBelowIf_1 : decode b_R_turnBelowIf 1 = .ok (.iload_n 1, 1) := by decide +kernel
theorem d_R_turnBelowIf_2 : decode b_R_turnBelowIf 2 = .ok (.ifCond .eq 14, 3) := by decide +kernel
theorem d_R_turnBelowIf_5 : decode b_R_turnBelowIf 5 = .ok (.aload_n 0, 1) := by decide +kernel
theorem d_R_turnBelowIf_6 : decode b_R_turnBelowIf 6 = .ok (.getfield 15, 3) := by decide +kernel
theorem d_R_turnBelowIf_9 : decode b_R_turnBelowIf 9 = .ok (.ifCond .le 7, 3) := by decide +kernel
theorem d_R_turnBelowIf_12 : decode b_R_turnBelowIf 12 = .ok (.iconst 1, 1) := by decide +kernel
theorem d_R_turnBelowIf_13 : decode b_R_turnBelowIf 13 = .ok (.goto 4, 3) := by decide +kernel
theorem d_R_turnBelowIf_16 : decode b_R_turnBelowIf 16 = .ok (.iconst 0, 1) := by decide +kernel
theorem d_R_turnBelowIf_17 : decode b_R_turnBelowIf 17 = .ok (.putfield 19, 3) := by decide +kernel
theorem d_R_turnBelowIf_20 : decode b_R_turnBelowIf 20 = .ok (.return_, 1) := by decide +kernel
theorem d_R_bits_0 : decode b_R_bits 0 = .ok (.aload_n 0, 1) := by decide +kernel
theorem d_R_bits_1 : decode b_R_bits 1 = .ok (.getfield 15, 3) := by decide +kernel
theorem d_R_bits_4 : decode b_R_bits 4 = .ok (.ifCond .ne 7, 3) := by decide +kernel
theorem d_R_bits_7 : decode b_R_bits 7 = .ok (.iconst 0, 1) := by decide +kernel
theorem d_R_bits_8 : decode b_R_bits 8 = .ok (.goto 25, 3) := by decide +kernel
theorem d_R_bits_11 : decode b_R_bits 11 = .ok (.bipush 32, 2) := by decide +kernel
theorem d_R_bits_13 : decode b_R_bits 13 = .ok (.aload_n 0, 1) := by decide +kernel
theorem d_R_bits_14 : decode b_R_bits 14 = .ok (.getfield 15, 3) := by decide +kernel
theorem d_R_bits_17 : decode b_R_bits 17 = .ok (.imul, 1) := by decide +kernel
theorem d_R_bits_18 : decode b_R_bits 18 = .ok (.aload_n 0, 1) := by decide +kernel
theorem d_R_bits_19 : decode b_R_bits 19 = .ok (.getfield 9, 3) := by decide +kernel
theorem d_R_bits_22 : decode b_R_bits 22 = .ok (.aload_n 0, 1) := by decide +kernel
theorem d_R_bits_23 : decode b_R_bits 23 = .ok (.getfield 15, 3) := by decide +kernel
theorem d_R_bits_26 : decode b_R_bits 26 = .ok (.iconst 1, 1) := by decide +kernel
theorem d_R_bits_27 : decode b_R_bits 27 = .ok (.isub, 1) := by decide +kernel
theorem d_R_bits_28 : decode b_R_bits 28 = .ok (.iaload, 1) := by decide +kernel
theorem d_R_bits_29 : decode b_R_bits 29 = .ok (.invokestatic 33, 3) := by decide +kernel
theorem d_R_bits_32 : decode b_R_bits 32 = .ok (.isub, 1) := by decide +kernel
theorem d_R_bits_33 : decode b_R_bits 33 = .ok (.ireturn, 1) := by decide +kernel
theorem d_R_signum_0 : decode b_R_signum 0 = .ok (.aload_n 0, 1) := by decide +kernel
theorem d_R_signum_1 : decode b_R_signum 1 = .ok (.getfield 15, 3) := by decide +kernel
theorem d_R_signum_4 : decode b_R_signum 4 = .ok (.ifCond .ne 5, 3) := by decide +kernel
theorem d_R_signum_7 : decode b_R_signum 7 = .ok (.iconst 0, 1) := by decide +kernel
theorem d_R_signum_8 : decode b_R_signum 8 = .ok (.ireturn, 1) := by decide +kernel
theorem d_R_signum_9 : decode b_R_signum 9 = .ok (.aload_n 0, 1) := by decide +kernel
theorem d_R_signum_10 : decode b_R_signum 10 = .ok (.getfield 19, 3) := by decide +kernel
theorem d_R_signum_13 : decode b_R_signum 13 = .ok (.ifCond .eq 7, 3) := by decide +kernel
theorem d_R_signum_16 : decode b_R_signum 16 = .ok (.iconst (-1), 1) := by decide +kernel
theorem d_R_signum_17 : decode b_R_signum 17 = .ok (.goto 4, 3) := by decide +kernel
theorem d_R_signum_20 : decode b_R_signum 20 = .ok (.iconst 1, 1) := by decide +kernel
theorem d_R_signum_21 : decode b_R_signum 21 = .ok (.ireturn, 1) := by decide +kernel
theorem d_R_isOdd_0 : decode b_R_isOdd 0 = .ok (.aload_n 0, 1) := by decide +kernel
theorem d_R_isOdd_1 : decode b_R_isOdd 1 = .ok (.iconst 0, 1) := by decide +kernel
theorem d_R_isOdd_2 : decode b_R_isOdd 2 = .ok (.invokevirtual 39, 3) := by decide +kernel
theorem d_R_isOdd_5 : decode b_R_isOdd 5 = .ok (.lconst 1, 1) := by decide +kernel
theorem d_R_isOdd_6 : decode b_R_isOdd 6 = .ok (.land, 1) := by decide +kernel
theorem d_R_isOdd_7 : decode b_R_isOdd 7 = .ok (.lconst 1, 1) := by decide +kernel
theorem d_R_isOdd_8 : decode b_R_isOdd 8 = .ok (.lcmp, 1) := by decide +kernel
theorem d_R_isOdd_9 : decode b_R_isOdd 9 = .ok (.ifCond .ne 7, 3) := by decide +kernel
theorem d_R_isOdd_12 : decode b_R_isOdd 12 = .ok (.iconst 1, 1) := by decide +kernel
theorem d_R_isOdd_13 : decode b_R_isOdd 13 = .ok (.goto 4, 3) := by decide +kernel
theorem d_R_isOdd_16 : decode b_R_isOdd 16 = .ok (.iconst 0, 1) := by decide +kernel
theorem d_R_isOdd_17 : decode b_R_isOdd 17 = .ok (.ireturn, 1) := by decide +kernel
theorem d_R_limbAt_0 : decode b_R_limbAt 0 = .ok (.iload_n 1, 1) := by decide +kernel
theorem d_R_limbAt_1 : decode b_R_limbAt 1 = .ok (.aload_n 0, 1) := by decide +kernel
theorem d_R_limbAt_2 : decode b_R_limbAt 2 = .ok (.getfield 15, 3) := by decide +kernel
theorem d_R_limbAt_5 : decode b_R_limbAt 5 = .ok (.if_icmp .ge 17, 3) := by decide +kernel
theorem d_R_limbAt_8 : decode b_R_limbAt 8 = .ok (.aload_n 0, 1) := by decide +kernel
theorem d_R_limbAt_9 : decode b_R_limbAt 9 = .ok (.getfield 9, 3) := by decide +kernel
theorem d_R_limbAt_12 : decode b_R_limbAt 12 = .ok (.iload_n 1, 1) := by decide +kernel
theorem d_R_limbAt_13 : decode b_R_limbAt 13 = .ok (.iaload, 1) := by decide +kernel
theorem d_R_limbAt_14 : decode b_R_limbAt 14 = .ok (.i2l, 1) := by decide +kernel
theorem d_R_limbAt_15 : decode b_R_limbAt 15 = .ok (.ldc2_w 43, 3) := by decide +kernel
theorem d_R_limbAt_18 : decode b_R_limbAt 18 = .ok (.land, 1) := by decide +kernel
theorem d_R_limbAt_19 : decode b_R_limbAt 19 = .ok (.goto 4, 3) := by decide +kernel
theorem d_R_limbAt_22 : decode b_R_limbAt 22 = .ok (.lconst 0, 1) := by decide +kernel
theorem d_R_limbAt_23 : decode b_R_limbAt 23 = .ok (.lreturn, 1) := by decide +kernel
theorem d_R_putBelow_0 : decode b_R_putBelow 0 = .ok (.aload_n 0, 1) := by decide +kernel
theorem d_R_putBelow_1 : decode b_R_putBelow 1 = .ok (.getfield 19, 3) := by decide +kernel
theorem d_R_putBelow_4 : decode b_R_putBelow 4 = .ok (.istore_n 2, 1) := by decide +kernel
theorem d_R_putBelow_5 : decode b_R_putBelow 5 = .ok (.aload_n 0, 1) := by decide +kernel
theorem d_R_putBelow_6 : decode b_R_putBelow 6 = .ok (.getfield 9, 3) := by decide +kernel
theorem d_R_putBelow_9 : decode b_R_putBelow 9 = .ok (.iconst 0, 1) := by decide +kernel
theorem d_R_putBelow_10 : decode b_R_putBelow 10 = .ok (.aload_n 0, 1) := by decide +kernel
theorem d_R_putBelow_11 : decode b_R_putBelow 11 = .ok (.getfield 9, 3) := by decide +kernel
theorem d_R_putBelow_14 : decode b_R_putBelow 14 = .ok (.iconst 1, 1) := by decide +kernel
theorem d_R_putBelow_15 : decode b_R_putBelow 15 = .ok (.aload_n 0, 1) := by decide +kernel
theorem d_R_putBelow_16 : decode b_R_putBelow 16 = .ok (.getfield 15, 3) := by decide +kernel
theorem d_R_putBelow_19 : decode b_R_putBelow 19 = .ok (.invokestatic 27, 3) := by decide +kernel
theorem d_R_putBelow_22 : decode b_R_putBelow 22 = .ok (.aload_n 0, 1) := by decide +kernel
theorem d_R_putBelow_23 : decode b_R_putBelow 23 = .ok (.getfield 9, 3) := by decide +kernel
theorem d_R_putBelow_26 : decode b_R_putBelow 26 = .ok (.iconst 0, 1) := by decide +kernel
theorem d_R_putBelow_27 : decode b_R_putBelow 27 = .ok (.iload_n 1, 1) := by decide +kernel
theorem d_R_putBelow_28 : decode b_R_putBelow 28 = .ok (.iastore, 1) := by decide +kernel
theorem d_R_putBelow_29 : decode b_R_putBelow 29 = .ok (.aload_n 0, 1) := by decide +kernel
theorem d_R_putBelow_30 : decode b_R_putBelow 30 = .ok (.aload_n 0, 1) := by decide +kernel
theorem d_R_putBelow_31 : decode b_R_putBelow 31 = .ok (.getfield 15, 3) := by decide +kernel
theorem d_R_putBelow_34 : decode b_R_putBelow 34 = .ok (.iconst 1, 1) := by decide +kernel
theorem d_R_putBelow_35 : decode b_R_putBelow 35 = .ok (.iadd, 1) := by decide +kernel
theorem d_R_putBelow_36 : decode b_R_putBelow 36 = .ok (.invokevirtual 23, 3) := by decide +kernel
theorem d_R_putBelow_39 : decode b_R_putBelow 39 = .ok (.aload_n 0, 1) := by decide +kernel
theorem d_R_putBelow_40 : decode b_R_putBelow 40 = .ok (.iload_n 2, 1) := by decide +kernel
theorem d_R_putBelow_41 : decode b_R_putBelow 41 = .ok (.invokevirtual 45, 3) := by decide +kernel
theorem d_R_putBelow_44 : decode b_R_putBelow 44 = .ok (.return_, 1) := by decide +kernel
theorem d_R_compareSize_0 : decode b_R_compareSize 0 = .ok (.aload_n 0, 1) := by decide +kernel
theorem d_R_compareSize_1 : decode b_R_compareSize 1 = .ok (.getfield 15, 3) := by decide +kernel
theorem d_R_compareSize_4 : decode b_R_compareSize 4 = .ok (.aload_n 1, 1) := by decide +kernel
theorem d_R_compareSize_5 : decode b_R_compareSize 5 = .ok (.getfield 15, 3) := by decide +kernel
theorem d_R_compareSize_8 : decode b_R_compareSize 8 = .ok (.if_icmp .eq 20, 3) := by decide +kernel
theorem d_R_compareSize_11 : decode b_R_compareSize 11 = .ok (.aload_n 0, 1) := by decide +kernel
theorem d_R_compareSize_12 : decode b_R_compareSize 12 = .ok (.getfield 15, 3) := by decide +kernel
theorem d_R_compareSize_15 : decode b_R_compareSize 15 = .ok (.aload_n 1, 1) := by decide +kernel
theorem d_R_compareSize_16 : decode b_R_compareSize 16 = .ok (.getfield 15, 3) := by decide +kernel
theorem d_R_compareSize_19 : decode b_R_compareSize 19 = .ok (.if_icmp .ge 7, 3) := by decide +kernel
theorem d_R_compareSize_22 : decode b_R_compareSize 22 = .ok (.iconst (-1), 1) := by decide +kernel
theorem d_R_compareSize_23 : decode b_R_compareSize 23 = .ok (.goto 4, 3) := by decide +kernel
theorem d_R_compareSize_26 : decode b_R_compareSize 26 = .ok (.iconst 1, 1) := by decide +kernel
theorem d_R_compareSize_27 : decode b_R_compareSize 27 = .ok (.ireturn, 1) := by decide +kernel
theorem d_R_compareSize_28 : decode b_R_compareSize 28 = .ok (.aload_n 0, 1) := by decide +kernel
theorem d_R_compareSize_29 : decode b_R_compareSize 29 = .ok (.getfield 15, 3) := by decide +kernel
theorem d_R_compareSize_32 : decode b_R_compareSize 32 = .ok (.iconst 1, 1) := by decide +kernel
theorem d_R_compareSize_33 : decode b_R_compareSize 33 = .ok (.isub, 1) := by decide +kernel
theorem d_R_compareSize_34 : decode b_R_compareSize 34 = .ok (.istore_n 2, 1) := by decide +kernel
theorem d_R_compareSize_35 : decode b_R_compareSize 35 = .ok (.iload_n 2, 1) := by decide +kernel
theorem d_R_compareSize_36 : decode b_R_compareSize 36 = .ok (.ifCond .lt 44, 3) := by decide +kernel
theorem d_R_compareSize_39 : decode b_R_compareSize 39 = .ok (.aload_n 0, 1) := by decide +kernel
theorem d_R_compareSize_40 : decode b_R_compareSize 40 = .ok (.getfield 9, 3) := by decide +kernel
theorem d_R_compareSize_43 : decode b_R_compareSize 43 = .ok (.iload_n 2, 1) := by decide +kernel
theorem d_R_compareSize_44 : decode b_R_compareSize 44 = .ok (.iaload, 1) := by decide +kernel
theorem d_R_compareSize_45 : decode b_R_compareSize 45 = .ok (.aload_n 1, 1) := by decide +kernel
theorem d_R_compareSize_46 : decode b_R_compareSize 46 = .ok (.getfield 9, 3) := by decide +kernel
theorem d_R_compareSize_49 : decode b_R_compareSize 49 = .ok (.iload_n 2, 1) := by decide +kernel
theorem d_R_compareSize_50 : decode b_R_compareSize 50 = .ok (.iaload, 1) := by decide +kernel
theorem d_R_compareSize_51 : decode b_R_compareSize 51 = .ok (.if_icmp .eq 23, 3) := by decide +kernel
theorem d_R_compareSize_54 : decode b_R_compareSize 54 = .ok (.aload_n 0, 1) := by decide +kernel
theorem d_R_compareSize_55 : decode b_R_compareSize 55 = .ok (.iload_n 2, 1) := by decide +kernel
theorem d_R_compareSize_56 : decode b_R_compareSize 56 = .ok (.invokevirtual 39, 3) := by decide +kernel
theorem d_R_compareSize_59 : decode b_R_compareSize 59 = .ok (.aload_n 1, 1) := by decide +kernel
theorem d_R_compareSize_60 : decode b_R_compareSize 60 = .ok (.iload_n 2, 1) := by decide +kernel
theorem d_R_compareSize_61 : decode b_R_compareSize 61 = .ok (.invokevirtual 39, 3) := by decide +kernel
theorem d_R_compareSize_64 : decode b_R_compareSize 64 = .ok (.lcmp, 1) := by decide +kernel
theorem d_R_compareSize_65 : decode b_R_compareSize 65 = .ok (.ifCond .ge 7, 3) := by decide +kernel
theorem d_R_compareSize_68 : decode b_R_compareSize 68 = .ok (.iconst (-1), 1) := by decide +kernel
theorem d_R_compareSize_69 : decode b_R_compareSize 69 = .ok (.goto 4, 3) := by decide +kernel
theorem d_R_compareSize_72 : decode b_R_compareSize 72 = .ok (.iconst 1, 1) := by decide +kernel
theorem d_R_compareSize_73 : decode b_R_compareSize 73 = .ok (.ireturn, 1) := by decide +kernel
theorem d_R_compareSize_74 : decode b_R_compareSize 74 = .ok (.iinc 2 (-1), 3) := by decide +kernel
theorem d_R_compareSize_77 : decode b_R_compareSize 77 = .ok (.goto (-42), 3) := by decide +kernel
theorem d_R_compareSize_80 : decode b_R_compareSize 80 = .ok (.iconst 0, 1) := by decide +kernel
theorem d_R_compareSize_81 : decode b_R_compareSize 81 = .ok (.ireturn, 1) := by decide +kernel
theorem d_R_becomeSum_0 : decode b_R_becomeSum 0 = .ok (.aload_n 2, 1) := by decide +kernel
theorem d_R_becomeSum_1 : decode b_R_becomeSum 1 = .ok (.getfield 19, 3) := by decide +kernel
theorem d_R_becomeSum_4 : decode b_R_becomeSum 4 = .ok (.iload_n 3, 1) := by decide +kernel
theorem d_R_becomeSum_5 : decode b_R_becomeSum 5 = .ok (.if_icmp .eq 7, 3) := by decide +kernel
theorem d_R_becomeSum_8 : decode b_R_becomeSum 8 = .ok (.iconst 1, 1) := by decide +kernel
theorem d_R_becomeSum_9 : decode b_R_becomeSum 9 = .ok (.goto 4, 3) := by decide +kernel
theorem d_R_becomeSum_12 : decode b_R_becomeSum 12 = .ok (.iconst 0, 1) := by decide +kernel
theorem d_R_becomeSum_13 : decode b_R_becomeSum 13 = .ok (.istore 4, 2) := by decide +kernel
theorem d_R_becomeSum_15 : decode b_R_becomeSum 15 = .ok (.aload_n 1, 1) := by decide +kernel
theorem d_R_becomeSum_16 : decode b_R_becomeSum 16 = .ok (.getfield 19, 3) := by decide +kernel
theorem d_R_becomeSum_19 : decode b_R_becomeSum 19 = .ok (.iload 4, 2) := by decide +kernel
theorem d_R_becomeSum_21 : decode b_R_becomeSum 21 = .ok (.if_icmp .ne 18, 3) := by decide +kernel
theorem d_R_becomeSum_24 : decode b_R_becomeSum 24 = .ok (.aload_n 0, 1) := by decide +kernel
theorem d_R_becomeSum_25 : decode b_R_becomeSum 25 = .ok (.aload_n 1, 1) := by decide +kernel
theorem d_R_becomeSum_26 : decode b_R_becomeSum 26 = .ok (.aload_n 2, 1) := by decide +kernel
theorem d_R_becomeSum_27 : decode b_R_becomeSum 27 = .ok (.invokevirtual 49, 3) := by decide +kernel
theorem d_R_becomeSum_30 : decode b_R_becomeSum 30 = .ok (.aload_n 0, 1) := by decide +kernel
theorem d_R_becomeSum_31 : decode b_R_becomeSum 31 = .ok (.iload 4, 2) := by decide +kernel
theorem d_R_becomeSum_33 : decode b_R_becomeSum 33 = .ok (.invokevirtual 45, 3) := by decide +kernel
theorem d_R_becomeSum_36 : decode b_R_becomeSum 36 = .ok (.goto 40, 3) := by decide +kernel
theorem d_R_becomeSum_39 : decode b_R_becomeSum 39 = .ok (.aload_n 1, 1) := by decide +kernel
theorem d_R_becomeSum_40 : decode b_R_becomeSum 40 = .ok (.aload_n 2, 1) := by decide +kernel
theorem d_R_becomeSum_41 : decode b_R_becomeSum 41 = .ok (.invokevirtual 53, 3) := by decide +kernel
theorem d_R_becomeSum_44 : decode b_R_becomeSum 44 = .ok (.ifCond .lt 20, 3) := by decide +kernel
theorem d_R_becomeSum_47 : decode b_R_becomeSum 47 = .ok (.aload_n 0, 1) := by decide +kernel
theorem d_R_becomeSum_48 : decode b_R_becomeSum 48 = .ok (.aload_n 1, 1) := by decide +kernel
theorem d_R_becomeSum_49 : decode b_R_becomeSum 49 = .ok (.aload_n 2, 1) := by decide +kernel
theorem d_R_becomeSum_50 : decode b_R_becomeSum 50 = .ok (.invokevirtual 57, 3) := by decide +kernel
theorem d_R_becomeSum_53 : decode b_R_becomeSum 53 = .ok (.aload_n 0, 1) := by decide +kernel
theorem d_R_becomeSum_54 : decode b_R_becomeSum 54 = .ok (.aload_n 1, 1) := by decide +kernel
theorem d_R_becomeSum_55 : decode b_R_becomeSum 55 = .ok (.getfield 19, 3) := by decide +kernel
theorem d_R_becomeSum_58 : decode b_R_becomeSum 58 = .ok (.invokevirtual 45, 3) := by decide +kernel
theorem d_R_becomeSum_61 : decode b_R_becomeSum 61 = .ok (.goto 15, 3) := by decide +kernel
theorem d_R_becomeSum_64 : decode b_R_becomeSum 64 = .ok (.aload_n 0, 1) := by decide +kernel
theorem d_R_becomeSum_65 : decode b_R_becomeSum 65 = .ok (.aload_n 2, 1) := by decide +kernel
theorem d_R_becomeSum_66 : decode b_R_becomeSum 66 = .ok (.aload_n 1, 1) := by decide +kernel
theorem d_R_becomeSum_67 : decode b_R_becomeSum 67 = .ok (.invokevirtual 57, 3) := by decide +kernel
theorem d_R_becomeSum_70 : decode b_R_becomeSum 70 = .ok (.aload_n 0, 1) := by decide +kernel
theorem d_R_becomeSum_71 : decode b_R_becomeSum 71 = .ok (.iload 4, 2) := by decide +kernel
theorem d_R_becomeSum_73 : decode b_R_becomeSum 73 = .ok (.invokevirtual 45, 3) := by decide +kernel
theorem d_R_becomeSum_76 : decode b_R_becomeSum 76 = .ok (.return_, 1) := by decide +kernel
theorem d_R_becomeSizeSum_0 : decode b_R_becomeSizeSum 0 = .ok (.aload_n 1, 1) := by decide +kernel
theorem d_R_becomeSizeSum_1 : decode b_R_becomeSizeSum 1 = .ok (.getfield 15, 3) := by decide +kernel
theorem d_R_becomeSizeSum_4 : decode b_R_becomeSizeSum 4 = .ok (.aload_n 2, 1) := by decide +kernel
theorem d_R_becomeSizeSum_5 : decode b_R_becomeSizeSum 5 = .ok (.getfield 15, 3) := by decide +kernel
theorem d_R_becomeSizeSum_8 : decode b_R_becomeSizeSum 8 = .ok (.invokestatic 60, 3) := by decide +kernel
theorem d_R_becomeSizeSum_11 : decode b_R_becomeSizeSum 11 = .ok (.istore_n 3, 1) := by decide +kernel
theorem d_R_becomeSizeSum_12 : decode b_R_becomeSizeSum 12 = .ok (.lconst 0, 1) := by decide +kernel
theorem d_R_becomeSizeSum_13 : decode b_R_becomeSizeSum 13 = .ok (.lstore 4, 2) := by decide +kernel
theorem d_R_becomeSizeSum_15 : decode b_R_becomeSizeSum 15 = .ok (.iconst 0, 1) := by decide +kernel
theorem d_R_becomeSizeSum_16 : decode b_R_becomeSizeSum 16 = .ok (.istore 6, 2) := by decide +kernel
theorem d_R_becomeSizeSum_18 : decode b_R_becomeSizeSum 18 = .ok (.iload 6, 2) := by decide +kernel
theorem d_R_becomeSizeSum_20 : decode b_R_becomeSizeSum 20 = .ok (.iload_n 3, 1) := by decide +kernel
theorem d_R_becomeSizeSum_21 : decode b_R_becomeSizeSum 21 = .ok (.if_icmp .ge 44, 3) := by decide +kernel
theorem d_R_becomeSizeSum_24 : decode b_R_becomeSizeSum 24 = .ok (.lload 4, 2) := by decide +kernel
theorem d_R_becomeSizeSum_26 : decode b_R_becomeSizeSum 26 = .ok (.aload_n 1, 1) := by decide +kernel
theorem d_R_becomeSizeSum_27 : decode b_R_becomeSizeSum 27 = .ok (.iload 6, 2) := by decide +kernel
theorem d_R_becomeSizeSum_29 : decode b_R_becomeSizeSum 29 = .ok (.invokevirtual 39, 3) := by decide +kernel
theorem d_R_becomeSizeSum_32 : decode b_R_becomeSizeSum 32 = .ok (.aload_n 2, 1) := by decide +kernel
theorem d_R_becomeSizeSum_33 : decode b_R_becomeSizeSum 33 = .ok (.iload 6, 2) := by decide +kernel
theorem d_R_becomeSizeSum_35 : decode b_R_becomeSizeSum 35 = .ok (.invokevirtual 39, 3) := by decide +kernel
theorem d_R_becomeSizeSum_38 : decode b_R_becomeSizeSum 38 = .ok (.ladd, 1) := by decide +kernel
theorem d_R_becomeSizeSum_39 : decode b_R_becomeSizeSum 39 = .ok (.ladd, 1) := by decide +kernel
theorem d_R_becomeSizeSum_40 : decode b_R_becomeSizeSum 40 = .ok (.lstore 4, 2) := by decide +kernel
theorem d_R_becomeSizeSum_42 : decode b_R_becomeSizeSum 42 = .ok (.aload_n 0, 1) := by decide +kernel
theorem d_R_becomeSizeSum_43 : decode b_R_becomeSizeSum 43 = .ok (.getfield 9, 3) := by decide +kernel
theorem d_R_becomeSizeSum_46 : decode b_R_becomeSizeSum 46 = .ok (.iload 6, 2) := by decide +kernel
theorem d_R_becomeSizeSum_48 : decode b_R_becomeSizeSum 48 = .ok (.lload 4, 2) := by decide +kernel
theorem d_R_becomeSizeSum_50 : decode b_R_becomeSizeSum 50 = .ok (.l2i, 1) := by decide +kernel
theorem d_R_becomeSizeSum_51 : decode b_R_becomeSizeSum 51 = .ok (.iastore, 1) := by decide +kernel
theorem d_R_becomeSizeSum_52 : decode b_R_becomeSizeSum 52 = .ok (.lload 4, 2) := by decide +kernel
theorem d_R_becomeSizeSum_54 : decode b_R_becomeSizeSum 54 = .ok (.bipush 32, 2) := by decide +kernel
theorem d_R_becomeSizeSum_56 : decode b_R_becomeSizeSum 56 = .ok (.lushr, 1) := by decide +kernel
theorem d_R_becomeSizeSum_57 : decode b_R_becomeSizeSum 57 = .ok (.lstore 4, 2) := by decide +kernel
theorem d_R_becomeSizeSum_59 : decode b_R_becomeSizeSum 59 = .ok (.iinc 6 1, 3) := by decide +kernel
theorem d_R_becomeSizeSum_62 : decode b_R_becomeSizeSum 62 = .ok (.goto (-44), 3) := by decide +kernel
theorem d_R_becomeSizeSum_65 : decode b_R_becomeSizeSum 65 = .ok (.aload_n 0, 1) := by decide +kernel
theorem d_R_becomeSizeSum_66 : decode b_R_becomeSizeSum 66 = .ok (.getfield 9, 3) := by decide +kernel
theorem d_R_becomeSizeSum_69 : decode b_R_becomeSizeSum 69 = .ok (.iload_n 3, 1) := by decide +kernel
theorem d_R_becomeSizeSum_70 : decode b_R_becomeSizeSum 70 = .ok (.lload 4, 2) := by decide +kernel
theorem d_R_becomeSizeSum_72 : decode b_R_becomeSizeSum 72 = .ok (.l2i, 1) := by decide +kernel
theorem d_R_becomeSizeSum_73 : decode b_R_becomeSizeSum 73 = .ok (.iastore, 1) := by decide +kernel
theorem d_R_becomeSizeSum_74 : decode b_R_becomeSizeSum 74 = .ok (.aload_n 0, 1) := by decide +kernel
theorem d_R_becomeSizeSum_75 : decode b_R_becomeSizeSum 75 = .ok (.iload_n 3, 1) := by decide +kernel
theorem d_R_becomeSizeSum_76 : decode b_R_becomeSizeSum 76 = .ok (.iconst 1, 1) := by decide +kernel
theorem d_R_becomeSizeSum_77 : decode b_R_becomeSizeSum 77 = .ok (.iadd, 1) := by decide +kernel
theorem d_R_becomeSizeSum_78 : decode b_R_becomeSizeSum 78 = .ok (.invokevirtual 23, 3) := by decide +kernel
theorem d_R_becomeSizeSum_81 : decode b_R_becomeSizeSum 81 = .ok (.return_, 1) := by decide +kernel
theorem d_R_becomeSizeDifference_0 : decode b_R_becomeSizeDifference 0 = .ok (.lconst 0, 1) := by decide +kernel
theorem d_R_becomeSizeDifference_1 : decode b_R_becomeSizeDifference 1 = .ok (.lstore_n 3, 1) := by decide +kernel
theorem d_R_becomeSizeDifference_2 : decode b_R_becomeSizeDifference 2 = .ok (.iconst 0, 1) := by decide +kernel
theorem d_R_becomeSizeDifference_3 : decode b_R_becomeSizeDifference 3 = .ok (.istore 5, 2) := by decide +kernel
theorem d_R_becomeSizeDifference_5 : decode b_R_becomeSizeDifference 5 = .ok (.iload 5, 2) := by decide +kernel
theorem d_R_becomeSizeDifference_7 : decode b_R_becomeSizeDifference 7 = .ok (.aload_n 1, 1) := by decide +kernel
theorem d_R_becomeSizeDifference_8 : decode b_R_becomeSizeDifference 8 = .ok (.getfield 15, 3) := by decide +kernel
theorem d_R_becomeSizeDifference_11 : decode b_R_becomeSizeDifference 11 = .ok (.if_icmp .ge 39, 3) := by decide +kernel
theorem d_R_becomeSizeDifference_14 : decode b_R_becomeSizeDifference 14 = .ok (.lload_n 3, 1) := by decide +kernel
theorem d_R_becomeSizeDifference_15 : decode b_R_becomeSizeDifference 15 = .ok (.aload_n 1, 1) := by decide +kernel
theorem d_R_becomeSizeDifference_16 : decode b_R_becomeSizeDifference 16 = .ok (.iload 5, 2) := by decide +kernel
theorem d_R_becomeSizeDifference_18 : decode b_R_becomeSizeDifference 18 = .ok (.invokevirtual 39, 3) := by decide +kernel
theorem d_R_becomeSizeDifference_21 : decode b_R_becomeSizeDifference 21 = .ok (.aload_n 2, 1) := by decide +kernel
theorem d_R_becomeSizeDifference_22 : decode b_R_becomeSizeDifference 22 = .ok (.iload 5, 2) := by decide +kernel
theorem d_R_becomeSizeDifference_24 : decode b_R_becomeSizeDifference 24 = .ok (.invokevirtual 39, 3) := by decide +kernel
theorem d_R_becomeSizeDifference_27 : decode b_R_becomeSizeDifference 27 = .ok (.lsub, 1) := by decide +kernel
theorem d_R_becomeSizeDifference_28 : decode b_R_becomeSizeDifference 28 = .ok (.ladd, 1) := by decide +kernel
theorem d_R_becomeSizeDifference_29 : decode b_R_becomeSizeDifference 29 = .ok (.lstore_n 3, 1) := by decide +kernel
theorem d_R_becomeSizeDifference_30 : decode b_R_becomeSizeDifference 30 = .ok (.aload_n 0, 1) := by decide +kernel
theorem d_R_becomeSizeDifference_31 : decode b_R_becomeSizeDifference 31 = .ok (.getfield 9, 3) := by decide +kernel
theorem d_R_becomeSizeDifference_34 : decode b_R_becomeSizeDifference 34 = .ok (.iload 5, 2) := by decide +kernel
theorem d_R_becomeSizeDifference_36 : decode b_R_becomeSizeDifference 36 = .ok (.lload_n 3, 1) := by decide +kernel
theorem d_R_becomeSizeDifference_37 : decode b_R_becomeSizeDifference 37 = .ok (.l2i, 1) := by decide +kernel
theorem d_R_becomeSizeDifference_38 : decode b_R_becomeSizeDifference 38 = .ok (.iastore, 1) := by decide +kernel
theorem d_R_becomeSizeDifference_39 : decode b_R_becomeSizeDifference 39 = .ok (.lload_n 3, 1) := by decide +kernel
theorem d_R_becomeSizeDifference_40 : decode b_R_becomeSizeDifference 40 = .ok (.bipush 32, 2) := by decide +kernel
theorem d_R_becomeSizeDifference_42 : decode b_R_becomeSizeDifference 42 = .ok (.lshr, 1) := by decide +kernel
theorem d_R_becomeSizeDifference_43 : decode b_R_becomeSizeDifference 43 = .ok (.lstore_n 3, 1) := by decide +kernel
theorem d_R_becomeSizeDifference_44 : decode b_R_becomeSizeDifference 44 = .ok (.iinc 5 1, 3) := by decide +kernel
theorem d_R_becomeSizeDifference_47 : decode b_R_becomeSizeDifference 47 = .ok (.goto (-42), 3) := by decide +kernel
theorem d_R_becomeSizeDifference_50 : decode b_R_becomeSizeDifference 50 = .ok (.aload_n 0, 1) := by decide +kernel
theorem d_R_becomeSizeDifference_51 : decode b_R_becomeSizeDifference 51 = .ok (.aload_n 1, 1) := by decide +kernel
theorem d_R_becomeSizeDifference_52 : decode b_R_becomeSizeDifference 52 = .ok (.getfield 15, 3) := by decide +kernel
theorem d_R_becomeSizeDifference_55 : decode b_R_becomeSizeDifference 55 = .ok (.invokevirtual 23, 3) := by decide +kernel
theorem d_R_becomeSizeDifference_58 : decode b_R_becomeSizeDifference 58 = .ok (.return_, 1) := by decide +kernel
theorem d_R_becomeProduct_0 : decode b_R_becomeProduct 0 = .ok (.aload_n 1, 1) := by decide +kernel
theorem d_R_becomeProduct_1 : decode b_R_becomeProduct 1 = .ok (.getfield 15, 3) := by decide +kernel
theorem d_R_becomeProduct_4 : decode b_R_becomeProduct 4 = .ok (.aload_n 2, 1) := by decide +kernel
theorem d_R_becomeProduct_5 : decode b_R_becomeProduct 5 = .ok (.getfield 15, 3) := by decide +kernel
theorem d_R_becomeProduct_8 : decode b_R_becomeProduct 8 = .ok (.iadd, 1) := by decide +kernel
theorem d_R_becomeProduct_9 : decode b_R_becomeProduct 9 = .ok (.istore_n 3, 1) := by decide +kernel
theorem d_R_becomeProduct_10 : decode b_R_becomeProduct 10 = .ok (.aload_n 0, 1) := by decide +kernel
theorem d_R_becomeProduct_11 : decode b_R_becomeProduct 11 = .ok (.iconst 0, 1) := by decide +kernel
theorem d_R_becomeProduct_12 : decode b_R_becomeProduct 12 = .ok (.iload_n 3, 1) := by decide +kernel
theorem d_R_becomeProduct_13 : decode b_R_becomeProduct 13 = .ok (.invokevirtual 66, 3) := by decide +kernel
theorem d_R_becomeProduct_16 : decode b_R_becomeProduct 16 = .ok (.iconst 0, 1) := by decide +kernel
theorem d_R_becomeProduct_17 : decode b_R_becomeProduct 17 = .ok (.istore 4, 2) := by decide +kernel
theorem d_R_becomeProduct_19 : decode b_R_becomeProduct 19 = .ok (.iload 4, 2) := by decide +kernel
theorem d_R_becomeProduct_21 : decode b_R_becomeProduct 21 = .ok (.aload_n 1, 1) := by decide +kernel
theorem d_R_becomeProduct_22 : decode b_R_becomeProduct 22 = .ok (.getfield 15, 3) := by decide +kernel
theorem d_R_becomeProduct_25 : decode b_R_becomeProduct 25 = .ok (.if_icmp .ge 40, 3) := by decide +kernel
theorem d_R_becomeProduct_28 : decode b_R_becomeProduct 28 = .ok (.aload_n 0, 1) := by decide +kernel
theorem d_R_becomeProduct_29 : decode b_R_becomeProduct 29 = .ok (.getfield 9, 3) := by decide +kernel
theorem d_R_becomeProduct_32 : decode b_R_becomeProduct 32 = .ok (.iload 4, 2) := by decide +kernel
theorem d_R_becomeProduct_34 : decode b_R_becomeProduct 34 = .ok (.aload_n 2, 1) := by decide +kernel
theorem d_R_becomeProduct_35 : decode b_R_becomeProduct 35 = .ok (.getfield 15, 3) := by decide +kernel
theorem d_R_becomeProduct_38 : decode b_R_becomeProduct 38 = .ok (.iadd, 1) := by decide +kernel
theorem d_R_becomeProduct_39 : decode b_R_becomeProduct 39 = .ok (.aload_n 0, 1) := by decide +kernel
theorem d_R_becomeProduct_40 : decode b_R_becomeProduct 40 = .ok (.aload_n 2, 1) := by decide +kernel
theorem d_R_becomeProduct_41 : decode b_R_becomeProduct 41 = .ok (.aload_n 1, 1) := by decide +kernel
theorem d_R_becomeProduct_42 : decode b_R_becomeProduct 42 = .ok (.getfield 9, 3) := by decide +kernel
theorem d_R_becomeProduct_45 : decode b_R_becomeProduct 45 = .ok (.iload 4, 2) := by decide +kernel
theorem d_R_becomeProduct_47 : decode b_R_becomeProduct 47 = .ok (.iaload, 1) := by decide +kernel
theorem d_R_becomeProduct_48 : decode b_R_becomeProduct 48 = .ok (.i2l, 1) := by decide +kernel
theorem d_R_becomeProduct_49 : decode b_R_becomeProduct 49 = .ok (.ldc2_w 43, 3) := by decide +kernel
theorem d_R_becomeProduct_52 : decode b_R_becomeProduct 52 = .ok (.land, 1) := by decide +kernel
theorem d_R_becomeProduct_53 : decode b_R_becomeProduct 53 = .ok (.iload 4, 2) := by decide +kernel
theorem d_R_becomeProduct_55 : decode b_R_becomeProduct 55 = .ok (.invokevirtual 70, 3) := by decide +kernel
theorem d_R_becomeProduct_58 : decode b_R_becomeProduct 58 = .ok (.iastore, 1) := by decide +kernel
theorem d_R_becomeProduct_59 : decode b_R_becomeProduct 59 = .ok (.iinc 4 1, 3) := by decide +kernel
theorem d_R_becomeProduct_62 : decode b_R_becomeProduct 62 = .ok (.goto (-43), 3) := by decide +kernel
theorem d_R_becomeProduct_65 : decode b_R_becomeProduct 65 = .ok (.aload_n 0, 1) := by decide +kernel
theorem d_R_becomeProduct_66 : decode b_R_becomeProduct 66 = .ok (.iload_n 3, 1) := by decide +kernel
theorem d_R_becomeProduct_67 : decode b_R_becomeProduct 67 = .ok (.invokevirtual 23, 3) := by decide +kernel
theorem d_R_becomeProduct_70 : decode b_R_becomeProduct 70 = .ok (.aload_n 0, 1) := by decide +kernel
theorem d_R_becomeProduct_71 : decode b_R_becomeProduct 71 = .ok (.aload_n 1, 1) := by decide +kernel
theorem d_R_becomeProduct_72 : decode b_R_becomeProduct 72 = .ok (.getfield 19, 3) := by decide +kernel
theorem d_R_becomeProduct_75 : decode b_R_becomeProduct 75 = .ok (.aload_n 2, 1) := by decide +kernel
theorem d_R_becomeProduct_76 : decode b_R_becomeProduct 76 = .ok (.getfield 19, 3) := by decide +kernel
theorem d_R_becomeProduct_79 : decode b_R_becomeProduct 79 = .ok (.if_icmp .eq 7, 3) := by decide +kernel
theorem d_R_becomeProduct_82 : decode b_R_becomeProduct 82 = .ok (.iconst 1, 1) := by decide +kernel
theorem d_R_becomeProduct_83 : decode b_R_becomeProduct 83 = .ok (.goto 4, 3) := by decide +kernel
theorem d_R_becomeProduct_86 : decode b_R_becomeProduct 86 = .ok (.iconst 0, 1) := by decide +kernel
theorem d_R_becomeProduct_87 : decode b_R_becomeProduct 87 = .ok (.invokevirtual 45, 3) := by decide +kernel
theorem d_R_becomeProduct_90 : decode b_R_becomeProduct 90 = .ok (.return_, 1) := by decide +kernel
theorem d_R_addMultiple_0 : decode b_R_addMultiple 0 = .ok (.lconst 0, 1) := by decide +kernel
theorem d_R_addMultiple_1 : decode b_R_addMultiple 1 = .ok (.lstore 5, 2) := by decide +kernel
theorem d_R_addMultiple_3 : decode b_R_addMultiple 3 = .ok (.iconst 0, 1) := by decide +kernel
theorem d_R_addMultiple_4 : decode b_R_addMultiple 4 = .ok (.istore 7, 2) := by decide +kernel
theorem d_R_addMultiple_6 : decode b_R_addMultiple 6 = .ok (.iload 7, 2) := by decide +kernel
theorem d_R_addMultiple_8 : decode b_R_addMultiple 8 = .ok (.aload_n 1, 1) := by decide +kernel
theorem d_R_addMultiple_9 : decode b_R_addMultiple 9 = .ok (.getfield 15, 3) := by decide +kernel
theorem d_R_addMultiple_12 : decode b_R_addMultiple 12 = .ok (.if_icmp .ge 64, 3) := by decide +kernel
theorem d_R_addMultiple_15 : decode b_R_addMultiple 15 = .ok (.lload 5, 2) := by decide +kernel
theorem d_R_addMultiple_17 : decode b_R_addMultiple 17 = .ok (.lload_n 2, 1) := by decide +kernel
theorem d_R_addMultiple_18 : decode b_R_addMultiple 18 = .ok (.aload_n 1, 1) := by decide +kernel
theorem d_R_addMultiple_19 : decode b_R_addMultiple 19 = .ok (.getfield 9, 3) := by decide +kernel
theorem d_R_addMultiple_22 : decode b_R_addMultiple 22 = .ok (.iload 7, 2) := by decide +kernel
theorem d_R_addMultiple_24 : decode b_R_addMultiple 24 = .ok (.iaload, 1) := by decide +kernel
theorem d_R_addMultiple_25 : decode b_R_addMultiple 25 = .ok (.i2l, 1) := by decide +kernel
theorem d_R_addMultiple_26 : decode b_R_addMultiple 26 = .ok (.ldc2_w 43, 3) := by decide +kernel
theorem d_R_addMultiple_29 : decode b_R_addMultiple 29 = .ok (.land, 1) := by decide +kernel
theorem d_R_addMultiple_30 : decode b_R_addMultiple 30 = .ok (.lmul, 1) := by decide +kernel
theorem d_R_addMultiple_31 : decode b_R_addMultiple 31 = .ok (.aload_n 0, 1) := by decide +kernel
theorem d_R_addMultiple_32 : decode b_R_addMultiple 32 = .ok (.getfield 9, 3) := by decide +kernel
theorem d_R_addMultiple_35 : decode b_R_addMultiple 35 = .ok (.iload 4, 2) := by decide +kernel
theorem d_R_addMultiple_37 : decode b_R_addMultiple 37 = .ok (.iload 7, 2) := by decide +kernel
theorem d_R_addMultiple_39 : decode b_R_addMultiple 39 = .ok (.iadd, 1) := by decide +kernel
theorem d_R_addMultiple_40 : decode b_R_addMultiple 40 = .ok (.iaload, 1) := by decide +kernel
theorem d_R_addMultiple_41 : decode b_R_addMultiple 41 = .ok (.i2l, 1) := by decide +kernel
theorem d_R_addMultiple_42 : decode b_R_addMultiple 42 = .ok (.ldc2_w 43, 3) := by decide +kernel
theorem d_R_addMultiple_45 : decode b_R_addMultiple 45 = .ok (.land, 1) := by decide +kernel
theorem d_R_addMultiple_46 : decode b_R_addMultiple 46 = .ok (.ladd, 1) := by decide +kernel
theorem d_R_addMultiple_47 : decode b_R_addMultiple 47 = .ok (.ladd, 1) := by decide +kernel
theorem d_R_addMultiple_48 : decode b_R_addMultiple 48 = .ok (.lstore 5, 2) := by decide +kernel
theorem d_R_addMultiple_50 : decode b_R_addMultiple 50 = .ok (.aload_n 0, 1) := by decide +kernel
theorem d_R_addMultiple_51 : decode b_R_addMultiple 51 = .ok (.getfield 9, 3) := by decide +kernel
theorem d_R_addMultiple_54 : decode b_R_addMultiple 54 = .ok (.iload 4, 2) := by decide +kernel
theorem d_R_addMultiple_56 : decode b_R_addMultiple 56 = .ok (.iload 7, 2) := by decide +kernel
theorem d_R_addMultiple_58 : decode b_R_addMultiple 58 = .ok (.iadd, 1) := by decide +kernel
theorem d_R_addMultiple_59 : decode b_R_addMultiple 59 = .ok (.lload 5, 2) := by decide +kernel
theorem d_R_addMultiple_61 : decode b_R_addMultiple 61 = .ok (.l2i, 1) := by decide +kernel
theorem d_R_addMultiple_62 : decode b_R_addMultiple 62 = .ok (.iastore, 1) := by decide +kernel
theorem d_R_addMultiple_63 : decode b_R_addMultiple 63 = .ok (.lload 5, 2) := by decide +kernel
theorem d_R_addMultiple_65 : decode b_R_addMultiple 65 = .ok (.bipush 32, 2) := by decide +kernel
theorem d_R_addMultiple_67 : decode b_R_addMultiple 67 = .ok (.lushr, 1) := by decide +kernel
theorem d_R_addMultiple_68 : decode b_R_addMultiple 68 = .ok (.lstore 5, 2) := by decide +kernel
theorem d_R_addMultiple_70 : decode b_R_addMultiple 70 = .ok (.iinc 7 1, 3) := by decide +kernel
theorem d_R_addMultiple_73 : decode b_R_addMultiple 73 = .ok (.goto (-67), 3) := by decide +kernel
theorem d_R_addMultiple_76 : decode b_R_addMultiple 76 = .ok (.lload 5, 2) := by decide +kernel
theorem d_R_addMultiple_78 : decode b_R_addMultiple 78 = .ok (.l2i, 1) := by decide +kernel
theorem d_R_addMultiple_79 : decode b_R_addMultiple 79 = .ok (.ireturn, 1) := by decide +kernel
theorem d_R_increase_0 : decode b_R_increase 0 = .ok (.iconst 0, 1) := by decide +kernel
theorem d_R_increase_1 : decode b_R_increase 1 = .ok (.istore_n 1, 1) := by decide +kernel
theorem d_R_increase_2 : decode b_R_increase 2 = .ok (.iload_n 1, 1) := by decide +kernel
theorem d_R_increase_3 : decode b_R_increase 3 = .ok (.aload_n 0, 1) := by decide +kernel
theorem d_R_increase_4 : decode b_R_increase 4 = .ok (.getfield 15, 3) := by decide +kernel
theorem d_R_increase_7 : decode b_R_increase 7 = .ok (.if_icmp .ge 26, 3) := by decide +kernel
theorem d_R_increase_10 : decode b_R_increase 10 = .ok (.aload_n 0, 1) := by decide +kernel
theorem d_R_increase_11 : decode b_R_increase 11 = .ok (.getfield 9, 3) := by decide +kernel
theorem d_R_increase_14 : decode b_R_increase 14 = .ok (.iload_n 1, 1) := by decide +kernel
theorem d_R_increase_15 : decode b_R_increase 15 = .ok (.iaload, 1) := by decide +kernel
theorem d_R_increase_16 : decode b_R_increase 16 = .ok (.iconst (-1), 1) := by decide +kernel
theorem d_R_increase_17 : decode b_R_increase 17 = .ok (.if_icmp .ne 16, 3) := by decide +kernel
theorem d_R_increase_20 : decode b_R_increase 20 = .ok (.aload_n 0, 1) := by decide +kernel
theorem d_R_increase_21 : decode b_R_increase 21 = .ok (.getfield 9, 3) := by decide +kernel
theorem d_R_increase_24 : decode b_R_increase 24 = .ok (.iload_n 1, 1) := by decide +kernel
theorem d_R_increase_25 : decode b_R_increase 25 = .ok (.iconst 0, 1) := by decide +kernel
theorem d_R_increase_26 : decode b_R_increase 26 = .ok (.iastore, 1) := by decide +kernel
theorem d_R_increase_27 : decode b_R_increase 27 = .ok (.iinc 1 1, 3) := by decide +kernel
theorem d_R_increase_30 : decode b_R_increase 30 = .ok (.goto (-28), 3) := by decide +kernel
theorem d_R_increase_33 : decode b_R_increase 33 = .ok (.iload_n 1, 1) := by decide +kernel
theorem d_R_increase_34 : decode b_R_increase 34 = .ok (.aload_n 0, 1) := by decide +kernel
theorem d_R_increase_35 : decode b_R_increase 35 = .ok (.getfield 15, 3) := by decide +kernel
theorem d_R_increase_38 : decode b_R_increase 38 = .ok (.if_icmp .ge 16, 3) := by decide +kernel
theorem d_R_increase_41 : decode b_R_increase 41 = .ok (.aload_n 0, 1) := by decide +kernel
theorem d_R_increase_42 : decode b_R_increase 42 = .ok (.getfield 9, 3) := by decide +kernel
theorem d_R_increase_45 : decode b_R_increase 45 = .ok (.iload_n 1, 1) := by decide +kernel
theorem d_R_increase_46 : decode b_R_increase 46 = .ok (.dup2, 1) := by decide +kernel
theorem d_R_increase_47 : decode b_R_increase 47 = .ok (.iaload, 1) := by decide +kernel
theorem d_R_increase_48 : decode b_R_increase 48 = .ok (.iconst 1, 1) := by decide +kernel
theorem d_R_increase_49 : decode b_R_increase 49 = .ok (.iadd, 1) := by decide +kernel
theorem d_R_increase_50 : decode b_R_increase 50 = .ok (.iastore, 1) := by decide +kernel
theorem d_R_increase_51 : decode b_R_increase 51 = .ok (.goto 33, 3) := by decide +kernel
theorem d_R_increase_54 : decode b_R_increase 54 = .ok (.aload_n 0, 1) := by decide +kernel
theorem d_R_increase_55 : decode b_R_increase 55 = .ok (.getfield 15, 3) := by decide +kernel
theorem d_R_increase_58 : decode b_R_increase 58 = .ok (.sipush 632, 3) := by decide +kernel
theorem d_R_increase_61 : decode b_R_increase 61 = .ok (.if_icmp .ge 23, 3) := by decide +kernel
theorem d_R_increase_64 : decode b_R_increase 64 = .ok (.aload_n 0, 1) := by decide +kernel
theorem d_R_increase_65 : decode b_R_increase 65 = .ok (.getfield 9, 3) := by decide +kernel
theorem d_R_increase_68 : decode b_R_increase 68 = .ok (.aload_n 0, 1) := by decide +kernel
theorem d_R_increase_69 : decode b_R_increase 69 = .ok (.getfield 15, 3) := by decide +kernel
theorem d_R_increase_72 : decode b_R_increase 72 = .ok (.iconst 1, 1) := by decide +kernel
theorem d_R_increase_73 : decode b_R_increase 73 = .ok (.iastore, 1) := by decide +kernel
theorem d_R_increase_74 : decode b_R_increase 74 = .ok (.aload_n 0, 1) := by decide +kernel
theorem d_R_increase_75 : decode b_R_increase 75 = .ok (.dup, 1) := by decide +kernel
theorem d_R_increase_76 : decode b_R_increase 76 = .ok (.getfield 15, 3) := by decide +kernel
theorem d_R_increase_79 : decode b_R_increase 79 = .ok (.iconst 1, 1) := by decide +kernel
theorem d_R_increase_80 : decode b_R_increase 80 = .ok (.iadd, 1) := by decide +kernel
theorem d_R_increase_81 : decode b_R_increase 81 = .ok (.putfield 15, 3) := by decide +kernel
theorem d_R_increase_84 : decode b_R_increase 84 = .ok (.return_, 1) := by decide +kernel
theorem d_R_shrink_0 : decode b_R_shrink 0 = .ok (.lconst 0, 1) := by decide +kernel
theorem d_R_shrink_1 : decode b_R_shrink 1 = .ok (.lstore_n 3, 1) := by decide +kernel
theorem d_R_shrink_2 : decode b_R_shrink 2 = .ok (.aload_n 0, 1) := by decide +kernel
theorem d_R_shrink_3 : decode b_R_shrink 3 = .ok (.getfield 15, 3) := by decide +kernel
theorem d_R_shrink_6 : decode b_R_shrink 6 = .ok (.iconst 1, 1) := by decide +kernel
theorem d_R_shrink_7 : decode b_R_shrink 7 = .ok (.isub, 1) := by decide +kernel
theorem d_R_shrink_8 : decode b_R_shrink 8 = .ok (.istore 5, 2) := by decide +kernel
theorem d_R_shrink_10 : decode b_R_shrink 10 = .ok (.iload 5, 2) := by decide +kernel
theorem d_R_shrink_12 : decode b_R_shrink 12 = .ok (.ifCond .lt 54, 3) := by decide +kernel
theorem d_R_shrink_15 : decode b_R_shrink 15 = .ok (.lload_n 3, 1) := by decide +kernel
theorem d_R_shrink_16 : decode b_R_shrink 16 = .ok (.bipush 32, 2) := by decide +kernel
theorem d_R_shrink_18 : decode b_R_shrink 18 = .ok (.lshl, 1) := by decide +kernel
theorem d_R_shrink_19 : decode b_R_shrink 19 = .ok (.aload_n 0, 1) := by decide +kernel
theorem d_R_shrink_20 : decode b_R_shrink 20 = .ok (.getfield 9, 3) := by decide +kernel
theorem d_R_shrink_23 : decode b_R_shrink 23 = .ok (.iload 5, 2) := by decide +kernel
theorem d_R_shrink_25 : decode b_R_shrink 25 = .ok (.iaload, 1) := by decide +kernel
theorem d_R_shrink_26 : decode b_R_shrink 26 = .ok (.i2l, 1) := by decide +kernel
theorem d_R_shrink_27 : decode b_R_shrink 27 = .ok (.ldc2_w 43, 3) := by decide +kernel
theorem d_R_shrink_30 : decode b_R_shrink 30 = .ok (.land, 1) := by decide +kernel
theorem d_R_shrink_31 : decode b_R_shrink 31 = .ok (.lor, 1) := by decide +kernel
theorem d_R_shrink_32 : decode b_R_shrink 32 = .ok (.lstore 6, 2) := by decide +kernel
theorem d_R_shrink_34 : decode b_R_shrink 34 = .ok (.lload 6, 2) := by decide +kernel
theorem d_R_shrink_36 : decode b_R_shrink 36 = .ok (.lload_n 1, 1) := by decide +kernel
theorem d_R_shrink_37 : decode b_R_shrink 37 = .ok (.invokestatic 74, 3) := by decide +kernel
theorem d_R_shrink_40 : decode b_R_shrink 40 = .ok (.lstore 8, 2) := by decide +kernel
theorem d_R_shrink_42 : decode b_R_shrink 42 = .ok (.aload_n 0, 1) := by decide +kernel
theorem d_R_shrink_43 : decode b_R_shrink 43 = .ok (.getfield 9, 3) := by decide +kernel
theorem d_R_shrink_46 : decode b_R_shrink 46 = .ok (.iload 5, 2) := by decide +kernel
theorem d_R_shrink_48 : decode b_R_shrink 48 = .ok (.lload 8, 2) := by decide +kernel
theorem d_R_shrink_50 : decode b_R_shrink 50 = .ok (.l2i, 1) := by decide +kernel
theorem d_R_shrink_51 : decode b_R_shrink 51 = .ok (.iastore, 1) := by decide +kernel
theorem d_R_shrink_52 : decode b_R_shrink 52 = .ok (.lload 6, 2) := by decide +kernel
theorem d_R_shrink_54 : decode b_R_shrink 54 = .ok (.lload 8, 2) := by decide +kernel
theorem d_R_shrink_56 : decode b_R_shrink 56 = .ok (.lload_n 1, 1) := by decide +kernel
theorem d_R_shrink_57 : decode b_R_shrink 57 = .ok (.lmul, 1) := by decide +kernel
theorem d_R_shrink_58 : decode b_R_shrink 58 = .ok (.lsub, 1) := by decide +kernel
theorem d_R_shrink_59 : decode b_R_shrink 59 = .ok (.lstore_n 3, 1) := by decide +kernel
theorem d_R_shrink_60 : decode b_R_shrink 60 = .ok (.iinc 5 (-1), 3) := by decide +kernel
theorem d_R_shrink_63 : decode b_R_shrink 63 = .ok (.goto (-53), 3) := by decide +kernel
theorem d_R_shrink_66 : decode b_R_shrink 66 = .ok (.aload_n 0, 1) := by decide +kernel
theorem d_R_shrink_67 : decode b_R_shrink 67 = .ok (.aload_n 0, 1) := by decide +kernel
theorem d_R_shrink_68 : decode b_R_shrink 68 = .ok (.getfield 15, 3) := by decide +kernel
theorem d_R_shrink_71 : decode b_R_shrink 71 = .ok (.invokevirtual 23, 3) := by decide +kernel
theorem d_R_shrink_74 : decode b_R_shrink 74 = .ok (.lload_n 3, 1) := by decide +kernel
theorem d_R_shrink_75 : decode b_R_shrink 75 = .ok (.lreturn, 1) := by decide +kernel
theorem d_R_shiftUp_0 : decode b_R_shiftUp 0 = .ok (.lconst 0, 1) := by decide +kernel
theorem d_R_shiftUp_1 : decode b_R_shiftUp 1 = .ok (.lstore_n 2, 1) := by decide +kernel
theorem d_R_shiftUp_2 : decode b_R_shiftUp 2 = .ok (.iconst 0, 1) := by decide +kernel
theorem d_R_shiftUp_3 : decode b_R_shiftUp 3 = .ok (.istore 4, 2) := by decide +kernel
theorem d_R_shiftUp_5 : decode b_R_shiftUp 5 = .ok (.iload 4, 2) := by decide +kernel
theorem d_R_shiftUp_7 : decode b_R_shiftUp 7 = .ok (.aload_n 0, 1) := by decide +kernel
theorem d_R_shiftUp_8 : decode b_R_shiftUp 8 = .ok (.getfield 15, 3) := by decide +kernel
theorem d_R_shiftUp_11 : decode b_R_shiftUp 11 = .ok (.if_icmp .ge 43, 3) := by decide +kernel
theorem d_R_shiftUp_14 : decode b_R_shiftUp 14 = .ok (.aload_n 0, 1) := by decide +kernel
theorem d_R_shiftUp_15 : decode b_R_shiftUp 15 = .ok (.getfield 9, 3) := by decide +kernel
theorem d_R_shiftUp_18 : decode b_R_shiftUp 18 = .ok (.iload 4, 2) := by decide +kernel
theorem d_R_shiftUp_20 : decode b_R_shiftUp 20 = .ok (.iaload, 1) := by decide +kernel
theorem d_R_shiftUp_21 : decode b_R_shiftUp 21 = .ok (.i2l, 1) := by decide +kernel
theorem d_R_shiftUp_22 : decode b_R_shiftUp 22 = .ok (.ldc2_w 43, 3) := by decide +kernel
theorem d_R_shiftUp_25 : decode b_R_shiftUp 25 = .ok (.land, 1) := by decide +kernel
theorem d_R_shiftUp_26 : decode b_R_shiftUp 26 = .ok (.iload_n 1, 1) := by decide +kernel
theorem d_R_shiftUp_27 : decode b_R_shiftUp 27 = .ok (.lshl, 1) := by decide +kernel
theorem d_R_shiftUp_28 : decode b_R_shiftUp 28 = .ok (.lload_n 2, 1) := by decide +kernel
theorem d_R_shiftUp_29 : decode b_R_shiftUp 29 = .ok (.lor, 1) := by decide +kernel
theorem d_R_shiftUp_30 : decode b_R_shiftUp 30 = .ok (.lstore 5, 2) := by decide +kernel
theorem d_R_shiftUp_32 : decode b_R_shiftUp 32 = .ok (.aload_n 0, 1) := by decide +kernel
theorem d_R_shiftUp_33 : decode b_R_shiftUp 33 = .ok (.getfield 9, 3) := by decide +kernel
theorem d_R_shiftUp_36 : decode b_R_shiftUp 36 = .ok (.iload 4, 2) := by decide +kernel
theorem d_R_shiftUp_38 : decode b_R_shiftUp 38 = .ok (.lload 5, 2) := by decide +kernel
theorem d_R_shiftUp_40 : decode b_R_shiftUp 40 = .ok (.l2i, 1) := by decide +kernel
theorem d_R_shiftUp_41 : decode b_R_shiftUp 41 = .ok (.iastore, 1) := by decide +kernel
theorem d_R_shiftUp_42 : decode b_R_shiftUp 42 = .ok (.lload 5, 2) := by decide +kernel
theorem d_R_shiftUp_44 : decode b_R_shiftUp 44 = .ok (.bipush 32, 2) := by decide +kernel
theorem d_R_shiftUp_46 : decode b_R_shiftUp 46 = .ok (.lushr, 1) := by decide +kernel
theorem d_R_shiftUp_47 : decode b_R_shiftUp 47 = .ok (.lstore_n 2, 1) := by decide +kernel
theorem d_R_shiftUp_48 : decode b_R_shiftUp 48 = .ok (.iinc 4 1, 3) := by decide +kernel
theorem d_R_shiftUp_51 : decode b_R_shiftUp 51 = .ok (.goto (-46), 3) := by decide +kernel
theorem d_R_shiftUp_54 : decode b_R_shiftUp 54 = .ok (.aload_n 0, 1) := by decide +kernel
theorem d_R_shiftUp_55 : decode b_R_shiftUp 55 = .ok (.getfield 9, 3) := by decide +kernel
theorem d_R_shiftUp_58 : decode b_R_shiftUp 58 = .ok (.aload_n 0, 1) := by decide +kernel
theorem d_R_shiftUp_59 : decode b_R_shiftUp 59 = .ok (.getfield 15, 3) := by decide +kernel
theorem d_R_shiftUp_62 : decode b_R_shiftUp 62 = .ok (.lload_n 2, 1) := by decide +kernel
theorem d_R_shiftUp_63 : decode b_R_shiftUp 63 = .ok (.l2i, 1) := by decide +kernel
theorem d_R_shiftUp_64 : decode b_R_shiftUp 64 = .ok (.iastore, 1) := by decide +kernel
theorem d_R_shiftUp_65 : decode b_R_shiftUp 65 = .ok (.return_, 1) := by decide +kernel
theorem d_R_shiftDown_0 : decode b_R_shiftDown 0 = .ok (.lconst 0, 1) := by decide +kernel
theorem d_R_shiftDown_1 : decode b_R_shiftDown 1 = .ok (.lstore_n 2, 1) := by decide +kernel
theorem d_R_shiftDown_2 : decode b_R_shiftDown 2 = .ok (.aload_n 0, 1) := by decide +kernel
theorem d_R_shiftDown_3 : decode b_R_shiftDown 3 = .ok (.getfield 15, 3) := by decide +kernel
theorem d_R_shiftDown_6 : decode b_R_shiftDown 6 = .ok (.iconst 1, 1) := by decide +kernel
theorem d_R_shiftDown_7 : decode b_R_shiftDown 7 = .ok (.isub, 1) := by decide +kernel
theorem d_R_shiftDown_8 : decode b_R_shiftDown 8 = .ok (.istore 4, 2) := by decide +kernel
theorem d_R_shiftDown_10 : decode b_R_shiftDown 10 = .ok (.iload 4, 2) := by decide +kernel
theorem d_R_shiftDown_12 : decode b_R_shiftDown 12 = .ok (.ifCond .lt 43, 3) := by decide +kernel
theorem d_R_shiftDown_15 : decode b_R_shiftDown 15 = .ok (.aload_n 0, 1) := by decide +kernel
theorem d_R_shiftDown_16 : decode b_R_shiftDown 16 = .ok (.getfield 9, 3) := by decide +kernel
theorem d_R_shiftDown_19 : decode b_R_shiftDown 19 = .ok (.iload 4, 2) := by decide +kernel
theorem d_R_shiftDown_21 : decode b_R_shiftDown 21 = .ok (.iaload, 1) := by decide +kernel
theorem d_R_shiftDown_22 : decode b_R_shiftDown 22 = .ok (.i2l, 1) := by decide +kernel
theorem d_R_shiftDown_23 : decode b_R_shiftDown 23 = .ok (.ldc2_w 43, 3) := by decide +kernel
theorem d_R_shiftDown_26 : decode b_R_shiftDown 26 = .ok (.land, 1) := by decide +kernel
theorem d_R_shiftDown_27 : decode b_R_shiftDown 27 = .ok (.lstore 5, 2) := by decide +kernel
theorem d_R_shiftDown_29 : decode b_R_shiftDown 29 = .ok (.aload_n 0, 1) := by decide +kernel
theorem d_R_shiftDown_30 : decode b_R_shiftDown 30 = .ok (.getfield 9, 3) := by decide +kernel
theorem d_R_shiftDown_33 : decode b_R_shiftDown 33 = .ok (.iload 4, 2) := by decide +kernel
theorem d_R_shiftDown_35 : decode b_R_shiftDown 35 = .ok (.lload_n 2, 1) := by decide +kernel
theorem d_R_shiftDown_36 : decode b_R_shiftDown 36 = .ok (.bipush 32, 2) := by decide +kernel
theorem d_R_shiftDown_38 : decode b_R_shiftDown 38 = .ok (.lshl, 1) := by decide +kernel
theorem d_R_shiftDown_39 : decode b_R_shiftDown 39 = .ok (.lload 5, 2) := by decide +kernel
theorem d_R_shiftDown_41 : decode b_R_shiftDown 41 = .ok (.lor, 1) := by decide +kernel
theorem d_R_shiftDown_42 : decode b_R_shiftDown 42 = .ok (.iload_n 1, 1) := by decide +kernel
theorem d_R_shiftDown_43 : decode b_R_shiftDown 43 = .ok (.lushr, 1) := by decide +kernel
theorem d_R_shiftDown_44 : decode b_R_shiftDown 44 = .ok (.l2i, 1) := by decide +kernel
theorem d_R_shiftDown_45 : decode b_R_shiftDown 45 = .ok (.iastore, 1) := by decide +kernel
theorem d_R_shiftDown_46 : decode b_R_shiftDown 46 = .ok (.lload 5, 2) := by decide +kernel
theorem d_R_shiftDown_48 : decode b_R_shiftDown 48 = .ok (.lstore_n 2, 1) := by decide +kernel
theorem d_R_shiftDown_49 : decode b_R_shiftDown 49 = .ok (.iinc 4 (-1), 3) := by decide +kernel
theorem d_R_shiftDown_52 : decode b_R_shiftDown 52 = .ok (.goto (-42), 3) := by decide +kernel
theorem d_R_shiftDown_55 : decode b_R_shiftDown 55 = .ok (.aload_n 0, 1) := by decide +kernel
theorem d_R_shiftDown_56 : decode b_R_shiftDown 56 = .ok (.aload_n 0, 1) := by decide +kernel
theorem d_R_shiftDown_57 : decode b_R_shiftDown 57 = .ok (.getfield 15, 3) := by decide +kernel
theorem d_R_shiftDown_60 : decode b_R_shiftDown 60 = .ok (.invokevirtual 23, 3) := by decide +kernel
theorem d_R_shiftDown_63 : decode b_R_shiftDown 63 = .ok (.return_, 1) := by decide +kernel
theorem d_R_bitsFrom_0 : decode b_R_bitsFrom 0 = .ok (.iload_n 1, 1) := by decide +kernel
theorem d_R_bitsFrom_1 : decode b_R_bitsFrom 1 = .ok (.bipush 32, 2) := by decide +kernel
theorem d_R_bitsFrom_3 : decode b_R_bitsFrom 3 = .ok (.idiv, 1) := by decide +kernel
theorem d_R_bitsFrom_4 : decode b_R_bitsFrom 4 = .ok (.istore_n 2, 1) := by decide +kernel
theorem d_R_bitsFrom_5 : decode b_R_bitsFrom 5 = .ok (.iload_n 1, 1) := by decide +kernel
theorem d_R_bitsFrom_6 : decode b_R_bitsFrom 6 = .ok (.bipush 32, 2) := by decide +kernel
theorem d_R_bitsFrom_8 : decode b_R_bitsFrom 8 = .ok (.irem, 1) := by decide +kernel
theorem d_R_bitsFrom_9 : decode b_R_bitsFrom 9 = .ok (.istore_n 3, 1) := by decide +kernel
theorem d_R_bitsFrom_10 : decode b_R_bitsFrom 10 = .ok (.aload_n 0, 1) := by decide +kernel
theorem d_R_bitsFrom_11 : decode b_R_bitsFrom 11 = .ok (.iload_n 2, 1) := by decide +kernel
theorem d_R_bitsFrom_12 : decode b_R_bitsFrom 12 = .ok (.invokevirtual 39, 3) := by decide +kernel
theorem d_R_bitsFrom_15 : decode b_R_bitsFrom 15 = .ok (.aload_n 0, 1) := by decide +kernel
theorem d_R_bitsFrom_16 : decode b_R_bitsFrom 16 = .ok (.iload_n 2, 1) := by decide +kernel
theorem d_R_bitsFrom_17 : decode b_R_bitsFrom 17 = .ok (.iconst 1, 1) := by decide +kernel
theorem d_R_bitsFrom_18 : decode b_R_bitsFrom 18 = .ok (.iadd, 1) := by decide +kernel
theorem d_R_bitsFrom_19 : decode b_R_bitsFrom 19 = .ok (.invokevirtual 39, 3) := by decide +kernel
theorem d_R_bitsFrom_22 : decode b_R_bitsFrom 22 = .ok (.bipush 32, 2) := by decide +kernel
theorem d_R_bitsFrom_24 : decode b_R_bitsFrom 24 = .ok (.lshl, 1) := by decide +kernel
theorem d_R_bitsFrom_25 : decode b_R_bitsFrom 25 = .ok (.lor, 1) := by decide +kernel
theorem d_R_bitsFrom_26 : decode b_R_bitsFrom 26 = .ok (.lstore 4, 2) := by decide +kernel
theorem d_R_bitsFrom_28 : decode b_R_bitsFrom 28 = .ok (.iload_n 3, 1) := by decide +kernel
theorem d_R_bitsFrom_29 : decode b_R_bitsFrom 29 = .ok (.ifCond .ne 8, 3) := by decide +kernel
theorem d_R_bitsFrom_32 : decode b_R_bitsFrom 32 = .ok (.lload 4, 2) := by decide +kernel
theorem d_R_bitsFrom_34 : decode b_R_bitsFrom 34 = .ok (.goto 20, 3) := by decide +kernel
theorem d_R_bitsFrom_37 : decode b_R_bitsFrom 37 = .ok (.lload 4, 2) := by decide +kernel
theorem d_R_bitsFrom_39 : decode b_R_bitsFrom 39 = .ok (.iload_n 3, 1) := by decide +kernel
theorem d_R_bitsFrom_40 : decode b_R_bitsFrom 40 = .ok (.lushr, 1) := by decide +kernel
theorem d_R_bitsFrom_41 : decode b_R_bitsFrom 41 = .ok (.aload_n 0, 1) := by decide +kernel
theorem d_R_bitsFrom_42 : decode b_R_bitsFrom 42 = .ok (.iload_n 2, 1) := by decide +kernel
theorem d_R_bitsFrom_43 : decode b_R_bitsFrom 43 = .ok (.iconst 2, 1) := by decide +kernel
theorem d_R_bitsFrom_44 : decode b_R_bitsFrom 44 = .ok (.iadd, 1) := by decide +kernel
theorem d_R_bitsFrom_45 : decode b_R_bitsFrom 45 = .ok (.invokevirtual 39, 3) := by decide +kernel
theorem d_R_bitsFrom_48 : decode b_R_bitsFrom 48 = .ok (.bipush 64, 2) := by decide +kernel
theorem d_R_bitsFrom_50 : decode b_R_bitsFrom 50 = .ok (.iload_n 3, 1) := by decide +kernel
theorem d_R_bitsFrom_51 : decode b_R_bitsFrom 51 = .ok (.isub, 1) := by decide +kernel
theorem d_R_bitsFrom_52 : decode b_R_bitsFrom 52 = .ok (.lshl, 1) := by decide +kernel
theorem d_R_bitsFrom_53 : decode b_R_bitsFrom 53 = .ok (.lor, 1) := by decide +kernel
theorem d_R_bitsFrom_54 : decode b_R_bitsFrom 54 = .ok (.lreturn, 1) := by decide +kernel
end
section
theorem d_D_split_0 : decode b_D_split 0 = .ok (.aload_n 0, 1) := by decide +kernel
theorem d_D_split_1 : decode b_D_split 1 = .ok (.aload_n 1, 1) := by decide +kernel
theorem d_D_split_2 : decode b_D_split 2 = .ok (.invokevirtual 9, 3) := by decide +kernel
theorem d_D_split_5 : decode b_D_split 5 = .ok (.ifCond .ge 16, 3) := by decide +kernel
theorem d_D_split_8 : decode b_D_split 8 = .ok (.aload_n 2, 1) := by decide +kernel
theorem d_D_split_9 : decode b_D_split 9 = .ok (.iconst 0, 1) := by decide +kernel
theorem d_D_split_10 : decode b_D_split 10 = .ok (.invokevirtual 15, 3) := by decide +kernel
theorem d_D_split_13 : decode b_D_split 13 = .ok (.aload_n 0, 1) := by decide +kernel
theorem d_D_split_14 : decode b_D_split 14 = .ok (.iconst 0, 1) := by decide +kernel
theorem d_D_split_15 : decode b_D_split 15 = .ok (.putfield 19, 3) := by decide +kernel
theorem d_D_split_18 : decode b_D_split 18 = .ok (.goto 40, 3) := by decide +kernel
theorem d_D_split_21 : decode b_D_split 21 = .ok (.aload_n 1, 1) := by decide +kernel
theorem d_D_split_22 : decode b_D_split 22 = .ok (.getfield 23, 3) := by decide +kernel
theorem d_D_split_25 : decode b_D_split 25 = .ok (.iconst 1, 1) := by decide +kernel
theorem d_D_split_26 : decode b_D_split 26 = .ok (.if_icmp .gt 26, 3) := by decide +kernel
theorem d_D_split_29 : decode b_D_split 29 = .ok (.aload_n 2, 1) := by decide +kernel
theorem d_D_split_30 : decode b_D_split 30 = .ok (.aload_n 0, 1) := by decide +kernel
theorem d_D_split_31 : decode b_D_split 31 = .ok (.invokevirtual 27, 3) := by decide +kernel
theorem d_D_split_34 : decode b_D_split 34 = .ok (.aload_n 2, 1) := by decide +kernel
theorem d_D_split_35 : decode b_D_split 35 = .ok (.aload_n 1, 1) := by decide +kernel
theorem d_D_split_36 : decode b_D_split 36 = .ok (.iconst 0, 1) := by decide +kernel
theorem d_D_split_37 : decode b_D_split 37 = .ok (.invokevirtual 31, 3) := by decide +kernel
theorem d_D_split_40 : decode b_D_split 40 = .ok (.invokevirtual 35, 3) := by decide +kernel
theorem d_D_split_43 : decode b_D_split 43 = .ok (.lstore_n 3, 1) := by decide +kernel
theorem d_D_split_44 : decode b_D_split 44 = .ok (.aload_n 0, 1) := by decide +kernel
theorem d_D_split_45 : decode b_D_split 45 = .ok (.lload_n 3, 1) := by decide +kernel
theorem d_D_split_46 : decode b_D_split 46 = .ok (.invokevirtual 39, 3) := by decide +kernel
theorem d_D_split_49 : decode b_D_split 49 = .ok (.goto 9, 3) := by decide +kernel
theorem d_D_split_52 : decode b_D_split 52 = .ok (.aload_n 0, 1) := by decide +kernel
theorem d_D_split_53 : decode b_D_split 53 = .ok (.aload_n 1, 1) := by decide +kernel
theorem d_D_split_54 : decode b_D_split 54 = .ok (.aload_n 2, 1) := by decide +kernel
theorem d_D_split_55 : decode b_D_split 55 = .ok (.invokestatic 43, 3) := by decide +kernel
theorem d_D_split_58 : decode b_D_split 58 = .ok (.return_, 1) := by decide +kernel
theorem d_D_splitByLong_0 : decode b_D_splitByLong 0 = .ok (.aload_n 1, 1) := by decide +kernel
theorem d_D_splitByLong_1 : decode b_D_splitByLong 1 = .ok (.getfield 23, 3) := by decide +kernel
theorem d_D_splitByLong_4 : decode b_D_splitByLong 4 = .ok (.istore_n 3, 1) := by decide +kernel
theorem d_D_splitByLong_5 : decode b_D_splitByLong 5 = .ok (.aload_n 0, 1) := by decide +kernel
theorem d_D_splitByLong_6 : decode b_D_splitByLong 6 = .ok (.getfield 23, 3) := by decide +kernel
theorem d_D_splitByLong_9 : decode b_D_splitByLong 9 = .ok (.iload_n 3, 1) := by decide +kernel
theorem d_D_splitByLong_10 : decode b_D_splitByLong 10 = .ok (.isub, 1) := by decide +kernel
theorem d_D_splitByLong_11 : decode b_D_splitByLong 11 = .ok (.istore 4, 2) := by decide +kernel
theorem d_D_splitByLong_13 : decode b_D_splitByLong 13 = .ok (.aload_n 1, 1) := by decide +kernel
theorem d_D_splitByLong_14 : decode b_D_splitByLong 14 = .ok (.getfield 49, 3) := by decide +kernel
theorem d_D_splitByLong_17 : decode b_D_splitByLong 17 = .ok (.iload_n 3, 1) := by decide +kernel
theorem d_D_splitByLong_18 : decode b_D_splitByLong 18 = .ok (.iconst 1, 1) := by decide +kernel
theorem d_D_splitByLong_19 : decode b_D_splitByLong 19 = .ok (.isub, 1) := by decide +kernel
theorem d_D_splitByLong_20 : decode b_D_splitByLong 20 = .ok (.iaload, 1) := by decide +kernel
theorem d_D_splitByLong_21 : decode b_D_splitByLong 21 = .ok (.invokestatic 53, 3) := by decide +kernel
theorem d_D_splitByLong_24 : decode b_D_splitByLong 24 = .ok (.istore 5, 2) := by decide +kernel
theorem d_D_splitByLong_26 : decode b_D_splitByLong 26 = .ok (.aload_n 0, 1) := by decide +kernel
theorem d_D_splitByLong_27 : decode b_D_splitByLong 27 = .ok (.iload 5, 2) := by decide +kernel
theorem d_D_splitByLong_29 : decode b_D_splitByLong 29 = .ok (.invokevirtual 59, 3) := by decide +kernel
theorem d_D_splitByLong_32 : decode b_D_splitByLong 32 = .ok (.aload_n 1, 1) := by decide +kernel
theorem d_D_splitByLong_33 : decode b_D_splitByLong 33 = .ok (.iload 5, 2) := by decide +kernel
theorem d_D_splitByLong_35 : decode b_D_splitByLong 35 = .ok (.invokevirtual 59, 3) := by decide +kernel
theorem d_D_splitByLong_38 : decode b_D_splitByLong 38 = .ok (.iload 4, 2) := by decide +kernel
theorem d_D_splitByLong_40 : decode b_D_splitByLong 40 = .ok (.istore 6, 2) := by decide +kernel
theorem d_D_splitByLong_42 : decode b_D_splitByLong 42 = .ok (.iload 6, 2) := by decide +kernel
theorem d_D_splitByLong_44 : decode b_D_splitByLong 44 = .ok (.ifCond .lt 89, 3) := by decide +kernel
theorem d_D_splitByLong_47 : decode b_D_splitByLong 47 = .ok (.aload_n 0, 1) := by decide +kernel
theorem d_D_splitByLong_48 : decode b_D_splitByLong 48 = .ok (.getfield 49, 3) := by decide +kernel
theorem d_D_splitByLong_51 : decode b_D_splitByLong 51 = .ok (.iload 6, 2) := by decide +kernel
theorem d_D_splitByLong_53 : decode b_D_splitByLong 53 = .ok (.iload_n 3, 1) := by decide +kernel
theorem d_D_splitByLong_54 : decode b_D_splitByLong 54 = .ok (.iadd, 1) := by decide +kernel
theorem d_D_splitByLong_55 : decode b_D_splitByLong 55 = .ok (.aload_n 1, 1) := by decide +kernel
theorem d_D_splitByLong_56 : decode b_D_splitByLong 56 = .ok (.getfield 49, 3) := by decide +kernel
theorem d_D_splitByLong_59 : decode b_D_splitByLong 59 = .ok (.iload_n 3, 1) := by decide +kernel
theorem d_D_splitByLong_60 : decode b_D_splitByLong 60 = .ok (.iconst 1, 1) := by decide +kernel
theorem d_D_splitByLong_61 : decode b_D_splitByLong 61 = .ok (.isub, 1) := by decide +kernel
theorem d_D_splitByLong_62 : decode b_D_splitByLong 62 = .ok (.iaload, 1) := by decide +kernel
theorem d_D_splitByLong_63 : decode b_D_splitByLong 63 = .ok (.i2l, 1) := by decide +kernel
theorem d_D_splitByLong_64 : decode b_D_splitByLong 64 = .ok (.ldc2_w 62, 3) := by decide +kernel
theorem d_D_splitByLong_67 : decode b_D_splitByLong 67 = .ok (.land, 1) := by decide +kernel
theorem d_D_splitByLong_68 : decode b_D_splitByLong 68 = .ok (.aload_n 1, 1) := by decide +kernel
theorem d_D_splitByLong_69 : decode b_D_splitByLong 69 = .ok (.getfield 49, 3) := by decide +kernel
theorem d_D_splitByLong_72 : decode b_D_splitByLong 72 = .ok (.iload_n 3, 1) := by decide +kernel
theorem d_D_splitByLong_73 : decode b_D_splitByLong 73 = .ok (.iconst 2, 1) := by decide +kernel
theorem d_D_splitByLong_74 : decode b_D_splitByLong 74 = .ok (.isub, 1) := by decide +kernel
theorem d_D_splitByLong_75 : decode b_D_splitByLong 75 = .ok (.iaload, 1) := by decide +kernel
theorem d_D_splitByLong_76 : decode b_D_splitByLong 76 = .ok (.i2l, 1) := by decide +kernel
theorem d_D_splitByLong_77 : decode b_D_splitByLong 77 = .ok (.ldc2_w 62, 3) := by decide +kernel
theorem d_D_splitByLong_80 : decode b_D_splitByLong 80 = .ok (.land, 1) := by decide +kernel
theorem d_D_splitByLong_81 : decode b_D_splitByLong 81 = .ok (.invokestatic 64, 3) := by decide +kernel
theorem d_D_splitByLong_84 : decode b_D_splitByLong 84 = .ok (.lstore 7, 2) := by decide +kernel
theorem d_D_splitByLong_86 : decode b_D_splitByLong 86 = .ok (.aload_n 0, 1) := by decide +kernel
theorem d_D_splitByLong_87 : decode b_D_splitByLong 87 = .ok (.getfield 49, 3) := by decide +kernel
theorem d_D_splitByLong_90 : decode b_D_splitByLong 90 = .ok (.iload 6, 2) := by decide +kernel
theorem d_D_splitByLong_92 : decode b_D_splitByLong 92 = .ok (.aload_n 1, 1) := by decide +kernel
theorem d_D_splitByLong_93 : decode b_D_splitByLong 93 = .ok (.lload 7, 2) := by decide +kernel
theorem d_D_splitByLong_95 : decode b_D_splitByLong 95 = .ok (.invokestatic 68, 3) := by decide +kernel
theorem d_D_splitByLong_98 : decode b_D_splitByLong 98 = .ok (.ifCond .eq 19, 3) := by decide +kernel
theorem d_D_splitByLong_101 : decode b_D_splitByLong 101 = .ok (.aload_n 0, 1) := by decide +kernel
theorem d_D_splitByLong_102 : decode b_D_splitByLong 102 = .ok (.getfield 49, 3) := by decide +kernel
theorem d_D_splitByLong_105 : decode b_D_splitByLong 105 = .ok (.iload 6, 2) := by decide +kernel
theorem d_D_splitByLong_107 : decode b_D_splitByLong 107 = .ok (.aload_n 1, 1) := by decide +kernel
theorem d_D_splitByLong_108 : decode b_D_splitByLong 108 = .ok (.invokestatic 72, 3) := by decide +kernel
theorem d_D_splitByLong_111 : decode b_D_splitByLong 111 = .ok (.lload 7, 2) := by decide +kernel
theorem d_D_splitByLong_113 : decode b_D_splitByLong 113 = .ok (.lconst 1, 1) := by decide +kernel
theorem d_D_splitByLong_114 : decode b_D_splitByLong 114 = .ok (.lsub, 1) := by decide +kernel
theorem d_D_splitByLong_115 : decode b_D_splitByLong 115 = .ok (.lstore 7, 2) := by decide +kernel
theorem d_D_splitByLong_117 : decode b_D_splitByLong 117 = .ok (.aload_n 2, 1) := by decide +kernel
theorem d_D_splitByLong_118 : decode b_D_splitByLong 118 = .ok (.getfield 49, 3) := by decide +kernel
theorem d_D_splitByLong_121 : decode b_D_splitByLong 121 = .ok (.iload 6, 2) := by decide +kernel
theorem d_D_splitByLong_123 : decode b_D_splitByLong 123 = .ok (.lload 7, 2) := by decide +kernel
theorem d_D_splitByLong_125 : decode b_D_splitByLong 125 = .ok (.l2i, 1) := by decide +kernel
theorem d_D_splitByLong_126 : decode b_D_splitByLong 126 = .ok (.iastore, 1) := by decide +kernel
theorem d_D_splitByLong_127 : decode b_D_splitByLong 127 = .ok (.iinc 6 (-1), 3) := by decide +kernel
theorem d_D_splitByLong_130 : decode b_D_splitByLong 130 = .ok (.goto (-88), 3) := by decide +kernel
theorem d_D_splitByLong_133 : decode b_D_splitByLong 133 = .ok (.aload_n 2, 1) := by decide +kernel
theorem d_D_splitByLong_134 : decode b_D_splitByLong 134 = .ok (.iload 4, 2) := by decide +kernel
theorem d_D_splitByLong_136 : decode b_D_splitByLong 136 = .ok (.iconst 1, 1) := by decide +kernel
theorem d_D_splitByLong_137 : decode b_D_splitByLong 137 = .ok (.iadd, 1) := by decide +kernel
theorem d_D_splitByLong_138 : decode b_D_splitByLong 138 = .ok (.invokevirtual 15, 3) := by decide +kernel
theorem d_D_splitByLong_141 : decode b_D_splitByLong 141 = .ok (.aload_n 0, 1) := by decide +kernel
theorem d_D_splitByLong_142 : decode b_D_splitByLong 142 = .ok (.iload_n 3, 1) := by decide +kernel
theorem d_D_splitByLong_143 : decode b_D_splitByLong 143 = .ok (.invokevirtual 15, 3) := by decide +kernel
theorem d_D_splitByLong_146 : decode b_D_splitByLong 146 = .ok (.aload_n 0, 1) := by decide +kernel
theorem d_D_splitByLong_147 : decode b_D_splitByLong 147 = .ok (.iload 5, 2) := by decide +kernel
theorem d_D_splitByLong_149 : decode b_D_splitByLong 149 = .ok (.invokevirtual 76, 3) := by decide +kernel
theorem d_D_splitByLong_152 : decode b_D_splitByLong 152 = .ok (.aload_n 1, 1) := by decide +kernel
theorem d_D_splitByLong_153 : decode b_D_splitByLong 153 = .ok (.iload 5, 2) := by decide +kernel
theorem d_D_splitByLong_155 : decode b_D_splitByLong 155 = .ok (.invokevirtual 76, 3) := by decide +kernel
theorem d_D_splitByLong_158 : decode b_D_splitByLong 158 = .ok (.return_, 1) := by decide +kernel
theorem d_D_guess_0 : decode b_D_guess 0 = .ok (.aload_n 0, 1) := by decide +kernel
theorem d_D_guess_1 : decode b_D_guess 1 = .ok (.iload_n 1, 1) := by decide +kernel
theorem d_D_guess_2 : decode b_D_guess 2 = .ok (.iaload, 1) := by decide +kernel
theorem d_D_guess_3 : decode b_D_guess 3 = .ok (.i2l, 1) := by decide +kernel
theorem d_D_guess_4 : decode b_D_guess 4 = .ok (.ldc2_w 62, 3) := by decide +kernel
theorem d_D_guess_7 : decode b_D_guess 7 = .ok (.land, 1) := by decide +kernel
theorem d_D_guess_8 : decode b_D_guess 8 = .ok (.bipush 32, 2) := by decide +kernel
theorem d_D_guess_10 : decode b_D_guess 10 = .ok (.lshl, 1) := by decide +kernel
theorem d_D_guess_11 : decode b_D_guess 11 = .ok (.aload_n 0, 1) := by decide +kernel
theorem d_D_guess_12 : decode b_D_guess 12 = .ok (.iload_n 1, 1) := by decide +kernel
theorem d_D_guess_13 : decode b_D_guess 13 = .ok (.iconst 1, 1) := by decide +kernel
theorem d_D_guess_14 : decode b_D_guess 14 = .ok (.isub, 1) := by decide +kernel
theorem d_D_guess_15 : decode b_D_guess 15 = .ok (.iaload, 1) := by decide +kernel
theorem d_D_guess_16 : decode b_D_guess 16 = .ok (.i2l, 1) := by decide +kernel
theorem d_D_guess_17 : decode b_D_guess 17 = .ok (.ldc2_w 62, 3) := by decide +kernel
theorem d_D_guess_20 : decode b_D_guess 20 = .ok (.land, 1) := by decide +kernel
theorem d_D_guess_21 : decode b_D_guess 21 = .ok (.lor, 1) := by decide +kernel
theorem d_D_guess_22 : decode b_D_guess 22 = .ok (.lstore 6, 2) := by decide +kernel
theorem d_D_guess_24 : decode b_D_guess 24 = .ok (.aload_n 0, 1) := by decide +kernel
theorem d_D_guess_25 : decode b_D_guess 25 = .ok (.iload_n 1, 1) := by decide +kernel
theorem d_D_guess_26 : decode b_D_guess 26 = .ok (.iconst 2, 1) := by decide +kernel
theorem d_D_guess_27 : decode b_D_guess 27 = .ok (.isub, 1) := by decide +kernel
theorem d_D_guess_28 : decode b_D_guess 28 = .ok (.iaload, 1) := by decide +kernel
theorem d_D_guess_29 : decode b_D_guess 29 = .ok (.i2l, 1) := by decide +kernel
theorem d_D_guess_30 : decode b_D_guess 30 = .ok (.ldc2_w 62, 3) := by decide +kernel
theorem d_D_guess_33 : decode b_D_guess 33 = .ok (.land, 1) := by decide +kernel
theorem d_D_guess_34 : decode b_D_guess 34 = .ok (.lstore 8, 2) := by decide +kernel
theorem d_D_guess_36 : decode b_D_guess 36 = .ok (.aload_n 0, 1) := by decide +kernel
theorem d_D_guess_37 : decode b_D_guess 37 = .ok (.iload_n 1, 1) := by decide +kernel
theorem d_D_guess_38 : decode b_D_guess 38 = .ok (.iaload, 1) := by decide +kernel
theorem d_D_guess_39 : decode b_D_guess 39 = .ok (.i2l, 1) := by decide +kernel
theorem d_D_guess_40 : decode b_D_guess 40 = .ok (.ldc2_w 62, 3) := by decide +kernel
theorem d_D_guess_43 : decode b_D_guess 43 = .ok (.land, 1) := by decide +kernel
theorem d_D_guess_44 : decode b_D_guess 44 = .ok (.lload_n 2, 1) := by decide +kernel
theorem d_D_guess_45 : decode b_D_guess 45 = .ok (.lcmp, 1) := by decide +kernel
theorem d_D_guess_46 : decode b_D_guess 46 = .ok (.ifCond .lt 9, 3) := by decide +kernel
theorem d_D_guess_49 : decode b_D_guess 49 = .ok (.ldc2_w 62, 3) := by decide +kernel
theorem d_D_guess_52 : decode b_D_guess 52 = .ok (.goto 9, 3) := by decide +kernel
theorem d_D_guess_55 : decode b_D_guess 55 = .ok (.lload 6, 2) := by decide +kernel
theorem d_D_guess_57 : decode b_D_guess 57 = .ok (.lload_n 2, 1) := by decide +kernel
theorem d_D_guess_58 : decode b_D_guess 58 = .ok (.invokestatic 79, 3) := by decide +kernel
theorem d_D_guess_61 : decode b_D_guess 61 = .ok (.lstore 10, 2) := by decide +kernel
theorem d_D_guess_63 : decode b_D_guess 63 = .ok (.lload 6, 2) := by decide +kernel
theorem d_D_guess_65 : decode b_D_guess 65 = .ok (.lload 10, 2) := by decide +kernel
theorem d_D_guess_67 : decode b_D_guess 67 = .ok (.lload_n 2, 1) := by decide +kernel
theorem d_D_guess_68 : decode b_D_guess 68 = .ok (.lmul, 1) := by decide +kernel
theorem d_D_guess_69 : decode b_D_guess 69 = .ok (.lsub, 1) := by decide +kernel
theorem d_D_guess_70 : decode b_D_guess 70 = .ok (.lstore 12, 2) := by decide +kernel
theorem d_D_guess_72 : decode b_D_guess 72 = .ok (.iconst 0, 1) := by decide +kernel
theorem d_D_guess_73 : decode b_D_guess 73 = .ok (.istore 14, 2) := by decide +kernel
theorem d_D_guess_75 : decode b_D_guess 75 = .ok (.iload 14, 2) := by decide +kernel
theorem d_D_guess_77 : decode b_D_guess 77 = .ok (.iconst 2, 1) := by decide +kernel
theorem d_D_guess_78 : decode b_D_guess 78 = .ok (.if_icmp .ge 58, 3) := by decide +kernel
theorem d_D_guess_81 : decode b_D_guess 81 = .ok (.lload 12, 2) := by decide +kernel
theorem d_D_guess_83 : decode b_D_guess 83 = .ok (.ldc2_w 62, 3) := by decide +kernel
theorem d_D_guess_86 : decode b_D_guess 86 = .ok (.lcmp, 1) := by decide +kernel
theorem d_D_guess_87 : decode b_D_guess 87 = .ok (.ifCond .gt 49, 3) := by decide +kernel
theorem d_D_guess_90 : decode b_D_guess 90 = .ok (.lload 10, 2) := by decide +kernel
theorem d_D_guess_92 : decode b_D_guess 92 = .ok (.lload 4, 2) := by decide +kernel
theorem d_D_guess_94 : decode b_D_guess 94 = .ok (.lmul, 1) := by decide +kernel
theorem d_D_guess_95 : decode b_D_guess 95 = .ok (.ldc2_w 83, 3) := by decide +kernel
theorem d_D_guess_98 : decode b_D_guess 98 = .ok (.ladd, 1) := by decide +kernel
theorem d_D_guess_99 : decode b_D_guess 99 = .ok (.lload 12, 2) := by decide +kernel
theorem d_D_guess_101 : decode b_D_guess 101 = .ok (.bipush 32, 2) := by decide +kernel
theorem d_D_guess_103 : decode b_D_guess 103 = .ok (.lshl, 1) := by decide +kernel
theorem d_D_guess_104 : decode b_D_guess 104 = .ok (.lload 8, 2) := by decide +kernel
theorem d_D_guess_106 : decode b_D_guess 106 = .ok (.lor, 1) := by decide +kernel
theorem d_D_guess_107 : decode b_D_guess 107 = .ok (.ldc2_w 83, 3) := by decide +kernel
theorem d_D_guess_110 : decode b_D_guess 110 = .ok (.ladd, 1) := by decide +kernel
theorem d_D_guess_111 : decode b_D_guess 111 = .ok (.lcmp, 1) := by decide +kernel
theorem d_D_guess_112 : decode b_D_guess 112 = .ok (.ifCond .gt 6, 3) := by decide +kernel
theorem d_D_guess_115 : decode b_D_guess 115 = .ok (.goto 21, 3) := by decide +kernel
theorem d_D_guess_118 : decode b_D_guess 118 = .ok (.lload 10, 2) := by decide +kernel
theorem d_D_guess_120 : decode b_D_guess 120 = .ok (.lconst 1, 1) := by decide +kernel
theorem d_D_guess_121 : decode b_D_guess 121 = .ok (.lsub, 1) := by decide +kernel
theorem d_D_guess_122 : decode b_D_guess 122 = .ok (.lstore 10, 2) := by decide +kernel
theorem d_D_guess_124 : decode b_D_guess 124 = .ok (.lload 12, 2) := by decide +kernel
theorem d_D_guess_126 : decode b_D_guess 126 = .ok (.lload_n 2, 1) := by decide +kernel
theorem d_D_guess_127 : decode b_D_guess 127 = .ok (.ladd, 1) := by decide +kernel
theorem d_D_guess_128 : decode b_D_guess 128 = .ok (.lstore 12, 2) := by decide +kernel
theorem d_D_guess_130 : decode b_D_guess 130 = .ok (.iinc 14 1, 3) := by decide +kernel
theorem d_D_guess_133 : decode b_D_guess 133 = .ok (.goto (-58), 3) := by decide +kernel
theorem d_D_guess_136 : decode b_D_guess 136 = .ok (.lload 10, 2) := by decide +kernel
theorem d_D_guess_138 : decode b_D_guess 138 = .ok (.lreturn, 1) := by decide +kernel
theorem d_D_takeMultiple_0 : decode b_D_takeMultiple 0 = .ok (.lconst 0, 1) := by decide +kernel
theorem d_D_takeMultiple_1 : decode b_D_takeMultiple 1 = .ok (.lstore 5, 2) := by decide +kernel
theorem d_D_takeMultiple_3 : decode b_D_takeMultiple 3 = .ok (.iconst 0, 1) := by decide +kernel
theorem d_D_takeMultiple_4 : decode b_D_takeMultiple 4 = .ok (.istore 7, 2) := by decide +kernel
theorem d_D_takeMultiple_6 : decode b_D_takeMultiple 6 = .ok (.iload 7, 2) := by decide +kernel
theorem d_D_takeMultiple_8 : decode b_D_takeMultiple 8 = .ok (.aload_n 2, 1) := by decide +kernel
theorem d_D_takeMultiple_9 : decode b_D_takeMultiple 9 = .ok (.getfield 23, 3) := by decide +kernel
theorem d_D_takeMultiple_12 : decode b_D_takeMultiple 12 = .ok (.if_icmp .ge 78, 3) := by decide +kernel
theorem d_D_takeMultiple_15 : decode b_D_takeMultiple 15 = .ok (.lload 5, 2) := by decide +kernel
theorem d_D_takeMultiple_17 : decode b_D_takeMultiple 17 = .ok (.lload_n 3, 1) := by decide +kernel
theorem d_D_takeMultiple_18 : decode b_D_takeMultiple 18 = .ok (.aload_n 2, 1) := by decide +kernel
theorem d_D_takeMultiple_19 : decode b_D_takeMultiple 19 = .ok (.getfield 49, 3) := by decide +kernel
theorem d_D_takeMultiple_22 : decode b_D_takeMultiple 22 = .ok (.iload 7, 2) := by decide +kernel
theorem d_D_takeMultiple_24 : decode b_D_takeMultiple 24 = .ok (.iaload, 1) := by decide +kernel
theorem d_D_takeMultiple_25 : decode b_D_takeMultiple 25 = .ok (.i2l, 1) := by decide +kernel
theorem d_D_takeMultiple_26 : decode b_D_takeMultiple 26 = .ok (.ldc2_w 62, 3) := by decide +kernel
theorem d_D_takeMultiple_29 : decode b_D_takeMultiple 29 = .ok (.land, 1) := by decide +kernel
theorem d_D_takeMultiple_30 : decode b_D_takeMultiple 30 = .ok (.lmul, 1) := by decide +kernel
theorem d_D_takeMultiple_31 : decode b_D_takeMultiple 31 = .ok (.ladd, 1) := by decide +kernel
theorem d_D_takeMultiple_32 : decode b_D_takeMultiple 32 = .ok (.lstore 5, 2) := by decide +kernel
theorem d_D_takeMultiple_34 : decode b_D_takeMultiple 34 = .ok (.aload_n 0, 1) := by decide +kernel
theorem d_D_takeMultiple_35 : decode b_D_takeMultiple 35 = .ok (.iload_n 1, 1) := by decide +kernel
theorem d_D_takeMultiple_36 : decode b_D_takeMultiple 36 = .ok (.iload 7, 2) := by decide +kernel
theorem d_D_takeMultiple_38 : decode b_D_takeMultiple 38 = .ok (.iadd, 1) := by decide +kernel
theorem d_D_takeMultiple_39 : decode b_D_takeMultiple 39 = .ok (.iaload, 1) := by decide +kernel
theorem d_D_takeMultiple_40 : decode b_D_takeMultiple 40 = .ok (.i2l, 1) := by decide +kernel
theorem d_D_takeMultiple_41 : decode b_D_takeMultiple 41 = .ok (.ldc2_w 62, 3) := by decide +kernel
theorem d_D_takeMultiple_44 : decode b_D_takeMultiple 44 = .ok (.land, 1) := by decide +kernel
theorem d_D_takeMultiple_45 : decode b_D_takeMultiple 45 = .ok (.lload 5, 2) := by decide +kernel
theorem d_D_takeMultiple_47 : decode b_D_takeMultiple 47 = .ok (.ldc2_w 62, 3) := by decide +kernel
theorem d_D_takeMultiple_50 : decode b_D_takeMultiple 50 = .ok (.land, 1) := by decide +kernel
theorem d_D_takeMultiple_51 : decode b_D_takeMultiple 51 = .ok (.lsub, 1) := by decide +kernel
theorem d_D_takeMultiple_52 : decode b_D_takeMultiple 52 = .ok (.lstore 8, 2) := by decide +kernel
theorem d_D_takeMultiple_54 : decode b_D_takeMultiple 54 = .ok (.aload_n 0, 1) := by decide +kernel
theorem d_D_takeMultiple_55 : decode b_D_takeMultiple 55 = .ok (.iload_n 1, 1) := by decide +kernel
theorem d_D_takeMultiple_56 : decode b_D_takeMultiple 56 = .ok (.iload 7, 2) := by decide +kernel
theorem d_D_takeMultiple_58 : decode b_D_takeMultiple 58 = .ok (.iadd, 1) := by decide +kernel
theorem d_D_takeMultiple_59 : decode b_D_takeMultiple 59 = .ok (.lload 8, 2) := by decide +kernel
theorem d_D_takeMultiple_61 : decode b_D_takeMultiple 61 = .ok (.l2i, 1) := by decide +kernel
theorem d_D_takeMultiple_62 : decode b_D_takeMultiple 62 = .ok (.iastore, 1) := by decide +kernel
theorem d_D_takeMultiple_63 : decode b_D_takeMultiple 63 = .ok (.lload 5, 2) := by decide +kernel
theorem d_D_takeMultiple_65 : decode b_D_takeMultiple 65 = .ok (.bipush 32, 2) := by decide +kernel
theorem d_D_takeMultiple_67 : decode b_D_takeMultiple 67 = .ok (.lushr, 1) := by decide +kernel
theorem d_D_takeMultiple_68 : decode b_D_takeMultiple 68 = .ok (.lload 8, 2) := by decide +kernel
theorem d_D_takeMultiple_70 : decode b_D_takeMultiple 70 = .ok (.lconst 0, 1) := by decide +kernel
theorem d_D_takeMultiple_71 : decode b_D_takeMultiple 71 = .ok (.lcmp, 1) := by decide +kernel
theorem d_D_takeMultiple_72 : decode b_D_takeMultiple 72 = .ok (.ifCond .ge 7, 3) := by decide +kernel
theorem d_D_takeMultiple_75 : decode b_D_takeMultiple 75 = .ok (.iconst 1, 1) := by decide +kernel
theorem d_D_takeMultiple_76 : decode b_D_takeMultiple 76 = .ok (.goto 4, 3) := by decide +kernel
theorem d_D_takeMultiple_79 : decode b_D_takeMultiple 79 = .ok (.iconst 0, 1) := by decide +kernel
theorem d_D_takeMultiple_80 : decode b_D_takeMultiple 80 = .ok (.i2l, 1) := by decide +kernel
theorem d_D_takeMultiple_81 : decode b_D_takeMultiple 81 = .ok (.ladd, 1) := by decide +kernel
theorem d_D_takeMultiple_82 : decode b_D_takeMultiple 82 = .ok (.lstore 5, 2) := by decide +kernel
theorem d_D_takeMultiple_84 : decode b_D_takeMultiple 84 = .ok (.iinc 7 1, 3) := by decide +kernel
theorem d_D_takeMultiple_87 : decode b_D_takeMultiple 87 = .ok (.goto (-81), 3) := by decide +kernel
theorem d_D_takeMultiple_90 : decode b_D_takeMultiple 90 = .ok (.aload_n 0, 1) := by decide +kernel
theorem d_D_takeMultiple_91 : decode b_D_takeMultiple 91 = .ok (.iload_n 1, 1) := by decide +kernel
theorem d_D_takeMultiple_92 : decode b_D_takeMultiple 92 = .ok (.aload_n 2, 1) := by decide +kernel
theorem d_D_takeMultiple_93 : decode b_D_takeMultiple 93 = .ok (.getfield 23, 3) := by decide +kernel
theorem d_D_takeMultiple_96 : decode b_D_takeMultiple 96 = .ok (.iadd, 1) := by decide +kernel
theorem d_D_takeMultiple_97 : decode b_D_takeMultiple 97 = .ok (.iaload, 1) := by decide +kernel
theorem d_D_takeMultiple_98 : decode b_D_takeMultiple 98 = .ok (.i2l, 1) := by decide +kernel
theorem d_D_takeMultiple_99 : decode b_D_takeMultiple 99 = .ok (.ldc2_w 62, 3) := by decide +kernel
theorem d_D_takeMultiple_102 : decode b_D_takeMultiple 102 = .ok (.land, 1) := by decide +kernel
theorem d_D_takeMultiple_103 : decode b_D_takeMultiple 103 = .ok (.lload 5, 2) := by decide +kernel
theorem d_D_takeMultiple_105 : decode b_D_takeMultiple 105 = .ok (.lcmp, 1) := by decide +kernel
theorem d_D_takeMultiple_106 : decode b_D_takeMultiple 106 = .ok (.ifCond .ge 7, 3) := by decide +kernel
theorem d_D_takeMultiple_109 : decode b_D_takeMultiple 109 = .ok (.iconst 1, 1) := by decide +kernel
theorem d_D_takeMultiple_110 : decode b_D_takeMultiple 110 = .ok (.goto 4, 3) := by decide +kernel
theorem d_D_takeMultiple_113 : decode b_D_takeMultiple 113 = .ok (.iconst 0, 1) := by decide +kernel
theorem d_D_takeMultiple_114 : decode b_D_takeMultiple 114 = .ok (.ireturn, 1) := by decide +kernel
theorem d_D_putBack_0 : decode b_D_putBack 0 = .ok (.lconst 0, 1) := by decide +kernel
theorem d_D_putBack_1 : decode b_D_putBack 1 = .ok (.lstore_n 3, 1) := by decide +kernel
theorem d_D_putBack_2 : decode b_D_putBack 2 = .ok (.iconst 0, 1) := by decide +kernel
theorem d_D_putBack_3 : decode b_D_putBack 3 = .ok (.istore 5, 2) := by decide +kernel
theorem d_D_putBack_5 : decode b_D_putBack 5 = .ok (.iload 5, 2) := by decide +kernel
theorem d_D_putBack_7 : decode b_D_putBack 7 = .ok (.aload_n 2, 1) := by decide +kernel
theorem d_D_putBack_8 : decode b_D_putBack 8 = .ok (.getfield 23, 3) := by decide +kernel
theorem d_D_putBack_11 : decode b_D_putBack 11 = .ok (.if_icmp .ge 49, 3) := by decide +kernel
theorem d_D_putBack_14 : decode b_D_putBack 14 = .ok (.lload_n 3, 1) := by decide +kernel
theorem d_D_putBack_15 : decode b_D_putBack 15 = .ok (.aload_n 0, 1) := by decide +kernel
theorem d_D_putBack_16 : decode b_D_putBack 16 = .ok (.iload_n 1, 1) := by decide +kernel
theorem d_D_putBack_17 : decode b_D_putBack 17 = .ok (.iload 5, 2) := by decide +kernel
theorem d_D_putBack_19 : decode b_D_putBack 19 = .ok (.iadd, 1) := by decide +kernel
theorem d_D_putBack_20 : decode b_D_putBack 20 = .ok (.iaload, 1) := by decide +kernel
theorem d_D_putBack_21 : decode b_D_putBack 21 = .ok (.i2l, 1) := by decide +kernel
theorem d_D_putBack_22 : decode b_D_putBack 22 = .ok (.ldc2_w 62, 3) := by decide +kernel
theorem d_D_putBack_25 : decode b_D_putBack 25 = .ok (.land, 1) := by decide +kernel
theorem d_D_putBack_26 : decode b_D_putBack 26 = .ok (.aload_n 2, 1) := by decide +kernel
theorem d_D_putBack_27 : decode b_D_putBack 27 = .ok (.getfield 49, 3) := by decide +kernel
theorem d_D_putBack_30 : decode b_D_putBack 30 = .ok (.iload 5, 2) := by decide +kernel
theorem d_D_putBack_32 : decode b_D_putBack 32 = .ok (.iaload, 1) := by decide +kernel
theorem d_D_putBack_33 : decode b_D_putBack 33 = .ok (.i2l, 1) := by decide +kernel
theorem d_D_putBack_34 : decode b_D_putBack 34 = .ok (.ldc2_w 62, 3) := by decide +kernel
theorem d_D_putBack_37 : decode b_D_putBack 37 = .ok (.land, 1) := by decide +kernel
theorem d_D_putBack_38 : decode b_D_putBack 38 = .ok (.ladd, 1) := by decide +kernel
theorem d_D_putBack_39 : decode b_D_putBack 39 = .ok (.ladd, 1) := by decide +kernel
theorem d_D_putBack_40 : decode b_D_putBack 40 = .ok (.lstore_n 3, 1) := by decide +kernel
theorem d_D_putBack_41 : decode b_D_putBack 41 = .ok (.aload_n 0, 1) := by decide +kernel
theorem d_D_putBack_42 : decode b_D_putBack 42 = .ok (.iload_n 1, 1) := by decide +kernel
theorem d_D_putBack_43 : decode b_D_putBack 43 = .ok (.iload 5, 2) := by decide +kernel
theorem d_D_putBack_45 : decode b_D_putBack 45 = .ok (.iadd, 1) := by decide +kernel
theorem d_D_putBack_46 : decode b_D_putBack 46 = .ok (.lload_n 3, 1) := by decide +kernel
theorem d_D_putBack_47 : decode b_D_putBack 47 = .ok (.l2i, 1) := by decide +kernel
theorem d_D_putBack_48 : decode b_D_putBack 48 = .ok (.iastore, 1) := by decide +kernel
theorem d_D_putBack_49 : decode b_D_putBack 49 = .ok (.lload_n 3, 1) := by decide +kernel
theorem d_D_putBack_50 : decode b_D_putBack 50 = .ok (.bipush 32, 2) := by decide +kernel
theorem d_D_putBack_52 : decode b_D_putBack 52 = .ok (.lushr, 1) := by decide +kernel
theorem d_D_putBack_53 : decode b_D_putBack 53 = .ok (.lstore_n 3, 1) := by decide +kernel
theorem d_D_putBack_54 : decode b_D_putBack 54 = .ok (.iinc 5 1, 3) := by decide +kernel
theorem d_D_putBack_57 : decode b_D_putBack 57 = .ok (.goto (-52), 3) := by decide +kernel
theorem d_D_putBack_60 : decode b_D_putBack 60 = .ok (.return_, 1) := by decide +kernel
theorem d_D_unsigned_0 : decode b_D_unsigned 0 = .ok (.lload_n 2, 1) := by decide +kernel
theorem d_D_unsigned_1 : decode b_D_unsigned 1 = .ok (.lconst 0, 1) := by decide +kernel
theorem d_D_unsigned_2 : decode b_D_unsigned 2 = .ok (.lcmp, 1) := by decide +kernel
theorem d_D_unsigned_3 : decode b_D_unsigned 3 = .ok (.ifCond .gt 5, 3) := by decide +kernel
theorem d_D_unsigned_6 : decode b_D_unsigned 6 = .ok (.lconst 0, 1) := by decide +kernel
theorem d_D_unsigned_7 : decode b_D_unsigned 7 = .ok (.lreturn, 1) := by decide +kernel
theorem d_D_unsigned_8 : decode b_D_unsigned 8 = .ok (.lload_n 0, 1) := by decide +kernel
theorem d_D_unsigned_9 : decode b_D_unsigned 9 = .ok (.lconst 0, 1) := by decide +kernel
theorem d_D_unsigned_10 : decode b_D_unsigned 10 = .ok (.lcmp, 1) := by decide +kernel
theorem d_D_unsigned_11 : decode b_D_unsigned 11 = .ok (.ifCond .lt 7, 3) := by decide +kernel
theorem d_D_unsigned_14 : decode b_D_unsigned 14 = .ok (.lload_n 0, 1) := by decide +kernel
theorem d_D_unsigned_15 : decode b_D_unsigned 15 = .ok (.lload_n 2, 1) := by decide +kernel
theorem d_D_unsigned_16 : decode b_D_unsigned 16 = .ok (.ldiv, 1) := by decide +kernel
theorem d_D_unsigned_17 : decode b_D_unsigned 17 = .ok (.lreturn, 1) := by decide +kernel
theorem d_D_unsigned_18 : decode b_D_unsigned 18 = .ok (.lload_n 0, 1) := by decide +kernel
theorem d_D_unsigned_19 : decode b_D_unsigned 19 = .ok (.iconst 1, 1) := by decide +kernel
theorem d_D_unsigned_20 : decode b_D_unsigned 20 = .ok (.lushr, 1) := by decide +kernel
theorem d_D_unsigned_21 : decode b_D_unsigned 21 = .ok (.lload_n 2, 1) := by decide +kernel
theorem d_D_unsigned_22 : decode b_D_unsigned 22 = .ok (.ldiv, 1) := by decide +kernel
theorem d_D_unsigned_23 : decode b_D_unsigned 23 = .ok (.iconst 1, 1) := by decide +kernel
theorem d_D_unsigned_24 : decode b_D_unsigned 24 = .ok (.lshl, 1) := by decide +kernel
theorem d_D_unsigned_25 : decode b_D_unsigned 25 = .ok (.lstore 4, 2) := by decide +kernel
theorem d_D_unsigned_27 : decode b_D_unsigned 27 = .ok (.lload_n 0, 1) := by decide +kernel
theorem d_D_unsigned_28 : decode b_D_unsigned 28 = .ok (.lload 4, 2) := by decide +kernel
theorem d_D_unsigned_30 : decode b_D_unsigned 30 = .ok (.lload_n 2, 1) := by decide +kernel
theorem d_D_unsigned_31 : decode b_D_unsigned 31 = .ok (.lmul, 1) := by decide +kernel
theorem d_D_unsigned_32 : decode b_D_unsigned 32 = .ok (.lsub, 1) := by decide +kernel
theorem d_D_unsigned_33 : decode b_D_unsigned 33 = .ok (.lload_n 2, 1) := by decide +kernel
theorem d_D_unsigned_34 : decode b_D_unsigned 34 = .ok (.lcmp, 1) := by decide +kernel
theorem d_D_unsigned_35 : decode b_D_unsigned 35 = .ok (.ifCond .lt 10, 3) := by decide +kernel
theorem d_D_unsigned_38 : decode b_D_unsigned 38 = .ok (.lload 4, 2) := by decide +kernel
theorem d_D_unsigned_40 : decode b_D_unsigned 40 = .ok (.lconst 1, 1) := by decide +kernel
theorem d_D_unsigned_41 : decode b_D_unsigned 41 = .ok (.ladd, 1) := by decide +kernel
theorem d_D_unsigned_42 : decode b_D_unsigned 42 = .ok (.goto 5, 3) := by decide +kernel
theorem d_D_unsigned_45 : decode b_D_unsigned 45 = .ok (.lload 4, 2) := by decide +kernel
theorem d_D_unsigned_47 : decode b_D_unsigned 47 = .ok (.lreturn, 1) := by decide +kernel
end
section
theorem d_E_init_0 : decode b_E_init 0 = .ok (.aload_n 0, 1) := by decide +kernel
theorem d_E_init_1 : decode b_E_init 1 = .ok (.invokespecial 3, 3) := by decide +kernel
theorem d_E_init_4 : decode b_E_init 4 = .ok (.aload_n 0, 1) := by decide +kernel
theorem d_E_init_5 : decode b_E_init 5 = .ok (.lconst 1, 1) := by decide +kernel
theorem d_E_init_6 : decode b_E_init 6 = .ok (.putfield 9, 3) := by decide +kernel
theorem d_E_init_9 : decode b_E_init 9 = .ok (.aload_n 0, 1) := by decide +kernel
theorem d_E_init_10 : decode b_E_init 10 = .ok (.lconst 0, 1) := by decide +kernel
theorem d_E_init_11 : decode b_E_init 11 = .ok (.putfield 15, 3) := by decide +kernel
theorem d_E_init_14 : decode b_E_init 14 = .ok (.aload_n 0, 1) := by decide +kernel
theorem d_E_init_15 : decode b_E_init 15 = .ok (.lconst 0, 1) := by decide +kernel
theorem d_E_init_16 : decode b_E_init 16 = .ok (.putfield 18, 3) := by decide +kernel
theorem d_E_init_19 : decode b_E_init 19 = .ok (.aload_n 0, 1) := by decide +kernel
theorem d_E_init_20 : decode b_E_init 20 = .ok (.lconst 1, 1) := by decide +kernel
theorem d_E_init_21 : decode b_E_init 21 = .ok (.putfield 21, 3) := by decide +kernel
theorem d_E_init_24 : decode b_E_init 24 = .ok (.return_, 1) := by decide +kernel
theorem d_E_greatest_0 : decode b_E_greatest 0 = .ok (.aload_n 1, 1) := by decide +kernel
theorem d_E_greatest_1 : decode b_E_greatest 1 = .ok (.aload_n 2, 1) := by decide +kernel
theorem d_E_greatest_2 : decode b_E_greatest 2 = .ok (.invokevirtual 24, 3) := by decide +kernel
theorem d_E_greatest_5 : decode b_E_greatest 5 = .ok (.ifCond .lt 7, 3) := by decide +kernel
theorem d_E_greatest_8 : decode b_E_greatest 8 = .ok (.iconst 1, 1) := by decide +kernel
theorem d_E_greatest_9 : decode b_E_greatest 9 = .ok (.goto 4, 3) := by decide +kernel
theorem d_E_greatest_12 : decode b_E_greatest 12 = .ok (.iconst 0, 1) := by decide +kernel
theorem d_E_greatest_13 : decode b_E_greatest 13 = .ok (.istore 4, 2) := by decide +kernel
theorem d_E_greatest_15 : decode b_E_greatest 15 = .ok (.iload 4, 2) := by decide +kernel
theorem d_E_greatest_17 : decode b_E_greatest 17 = .ok (.ifCond .eq 7, 3) := by decide +kernel
theorem d_E_greatest_20 : decode b_E_greatest 20 = .ok (.aload_n 1, 1) := by decide +kernel
theorem d_E_greatest_21 : decode b_E_greatest 21 = .ok (.goto 4, 3) := by decide +kernel
theorem d_E_greatest_24 : decode b_E_greatest 24 = .ok (.aload_n 2, 1) := by decide +kernel
theorem d_E_greatest_25 : decode b_E_greatest 25 = .ok (.astore 5, 2) := by decide +kernel
theorem d_E_greatest_27 : decode b_E_greatest 27 = .ok (.iload 4, 2) := by decide +kernel
theorem d_E_greatest_29 : decode b_E_greatest 29 = .ok (.ifCond .eq 7, 3) := by decide +kernel
theorem d_E_greatest_32 : decode b_E_greatest 32 = .ok (.aload_n 2, 1) := by decide +kernel
theorem d_E_greatest_33 : decode b_E_greatest 33 = .ok (.goto 4, 3) := by decide +kernel
theorem d_E_greatest_36 : decode b_E_greatest 36 = .ok (.aload_n 1, 1) := by decide +kernel
theorem d_E_greatest_37 : decode b_E_greatest 37 = .ok (.astore 6, 2) := by decide +kernel
theorem d_E_greatest_39 : decode b_E_greatest 39 = .ok (.iconst 0, 1) := by decide +kernel
theorem d_E_greatest_40 : decode b_E_greatest 40 = .ok (.istore 7, 2) := by decide +kernel
theorem d_E_greatest_42 : decode b_E_greatest 42 = .ok (.iload 7, 2) := by decide +kernel
theorem d_E_greatest_44 : decode b_E_greatest 44 = .ok (.ldc 30, 2) := by decide +kernel
theorem d_E_greatest_46 : decode b_E_greatest 46 = .ok (.if_icmp .ge 89, 3) := by decide +kernel
theorem d_E_greatest_49 : decode b_E_greatest 49 = .ok (.aload 6, 2) := by decide +kernel
theorem d_E_greatest_51 : decode b_E_greatest 51 = .ok (.getfield 31, 3) := by decide +kernel
theorem d_E_greatest_54 : decode b_E_greatest 54 = .ok (.ifCond .le 81, 3) := by decide +kernel
theorem d_E_greatest_57 : decode b_E_greatest 57 = .ok (.aload 5, 2) := by decide +kernel
theorem d_E_greatest_59 : decode b_E_greatest 59 = .ok (.invokevirtual 35, 3) := by decide +kernel
theorem d_E_greatest_62 : decode b_E_greatest 62 = .ok (.bipush 62, 2) := by decide +kernel
theorem d_E_greatest_64 : decode b_E_greatest 64 = .ok (.isub, 1) := by decide +kernel
theorem d_E_greatest_65 : decode b_E_greatest 65 = .ok (.iconst 0, 1) := by decide +kernel
theorem d_E_greatest_66 : decode b_E_greatest 66 = .ok (.invokestatic 39, 3) := by decide +kernel
theorem d_E_greatest_69 : decode b_E_greatest 69 = .ok (.istore 8, 2) := by decide +kernel
theorem d_E_greatest_71 : decode b_E_greatest 71 = .ok (.aload_n 0, 1) := by decide +kernel
theorem d_E_greatest_72 : decode b_E_greatest 72 = .ok (.aload 5, 2) := by decide +kernel
theorem d_E_greatest_74 : decode b_E_greatest 74 = .ok (.iload 8, 2) := by decide +kernel
theorem d_E_greatest_76 : decode b_E_greatest 76 = .ok (.invokevirtual 45, 3) := by decide +kernel
theorem d_E_greatest_79 : decode b_E_greatest 79 = .ok (.aload 6, 2) := by decide +kernel
theorem d_E_greatest_81 : decode b_E_greatest 81 = .ok (.iload 8, 2) := by decide +kernel
theorem d_E_greatest_83 : decode b_E_greatest 83 = .ok (.invokevirtual 45, 3) := by decide +kernel
theorem d_E_greatest_86 : decode b_E_greatest 86 = .ok (.invokevirtual 49, 3) := by decide +kernel
theorem d_E_greatest_89 : decode b_E_greatest 89 = .ok (.aload_n 0, 1) := by decide +kernel
theorem d_E_greatest_90 : decode b_E_greatest 90 = .ok (.getfield 15, 3) := by decide +kernel
theorem d_E_greatest_93 : decode b_E_greatest 93 = .ok (.lconst 0, 1) := by decide +kernel
theorem d_E_greatest_94 : decode b_E_greatest 94 = .ok (.lcmp, 1) := by decide +kernel
theorem d_E_greatest_95 : decode b_E_greatest 95 = .ok (.ifCond .eq 14, 3) := by decide +kernel
theorem d_E_greatest_98 : decode b_E_greatest 98 = .ok (.aload_n 0, 1) := by decide +kernel
theorem d_E_greatest_99 : decode b_E_greatest 99 = .ok (.aload 5, 2) := by decide +kernel
theorem d_E_greatest_101 : decode b_E_greatest 101 = .ok (.aload 6, 2) := by decide +kernel
theorem d_E_greatest_103 : decode b_E_greatest 103 = .ok (.invokevirtual 53, 3) := by decide +kernel
theorem d_E_greatest_106 : decode b_E_greatest 106 = .ok (.goto 23, 3) := by decide +kernel
theorem d_E_greatest_109 : decode b_E_greatest 109 = .ok (.aload 5, 2) := by decide +kernel
theorem d_E_greatest_111 : decode b_E_greatest 111 = .ok (.aload 6, 2) := by decide +kernel
theorem d_E_greatest_113 : decode b_E_greatest 113 = .ok (.aload_n 3, 1) := by decide +kernel
theorem d_E_greatest_114 : decode b_E_greatest 114 = .ok (.invokestatic 57, 3) := by decide +kernel
theorem d_E_greatest_117 : decode b_E_greatest 117 = .ok (.aload 5, 2) := by decide +kernel
theorem d_E_greatest_119 : decode b_E_greatest 119 = .ok (.astore 9, 2) := by decide +kernel
theorem d_E_greatest_121 : decode b_E_greatest 121 = .ok (.aload 6, 2) := by decide +kernel
theorem d_E_greatest_123 : decode b_E_greatest 123 = .ok (.astore 5, 2) := by decide +kernel
theorem d_E_greatest_125 : decode b_E_greatest 125 = .ok (.aload 9, 2) := by decide +kernel
theorem d_E_greatest_127 : decode b_E_greatest 127 = .ok (.astore 6, 2) := by decide +kernel
theorem d_E_greatest_129 : decode b_E_greatest 129 = .ok (.iinc 7 1, 3) := by decide +kernel
theorem d_E_greatest_132 : decode b_E_greatest 132 = .ok (.goto (-90), 3) := by decide +kernel
theorem d_E_greatest_135 : decode b_E_greatest 135 = .ok (.aload 5, 2) := by decide +kernel
theorem d_E_greatest_137 : decode b_E_greatest 137 = .ok (.iconst 0, 1) := by decide +kernel
theorem d_E_greatest_138 : decode b_E_greatest 138 = .ok (.putfield 63, 3) := by decide +kernel
theorem d_E_greatest_141 : decode b_E_greatest 141 = .ok (.aload 5, 2) := by decide +kernel
theorem d_E_greatest_143 : decode b_E_greatest 143 = .ok (.areturn, 1) := by decide +kernel
theorem d_E_foresee_0 : decode b_E_foresee 0 = .ok (.lload_n 1, 1) := by decide +kernel
theorem d_E_foresee_1 : decode b_E_foresee 1 = .ok (.lstore 5, 2) := by decide +kernel
theorem d_E_foresee_3 : decode b_E_foresee 3 = .ok (.lload_n 3, 1) := by decide +kernel
theorem d_E_foresee_4 : decode b_E_foresee 4 = .ok (.lstore 7, 2) := by decide +kernel
theorem d_E_foresee_6 : decode b_E_foresee 6 = .ok (.aload_n 0, 1) := by decide +kernel
theorem d_E_foresee_7 : decode b_E_foresee 7 = .ok (.lconst 1, 1) := by decide +kernel
theorem d_E_foresee_8 : decode b_E_foresee 8 = .ok (.putfield 9, 3) := by decide +kernel
theorem d_E_foresee_11 : decode b_E_foresee 11 = .ok (.aload_n 0, 1) := by decide +kernel
theorem d_E_foresee_12 : decode b_E_foresee 12 = .ok (.lconst 0, 1) := by decide +kernel
theorem d_E_foresee_13 : decode b_E_foresee 13 = .ok (.putfield 15, 3) := by decide +kernel
theorem d_E_foresee_16 : decode b_E_foresee 16 = .ok (.aload_n 0, 1) := by decide +kernel
theorem d_E_foresee_17 : decode b_E_foresee 17 = .ok (.lconst 0, 1) := by decide +kernel
theorem d_E_foresee_18 : decode b_E_foresee 18 = .ok (.putfield 18, 3) := by decide +kernel
theorem d_E_foresee_21 : decode b_E_foresee 21 = .ok (.aload_n 0, 1) := by decide +kernel
theorem d_E_foresee_22 : decode b_E_foresee 22 = .ok (.lconst 1, 1) := by decide +kernel
theorem d_E_foresee_23 : decode b_E_foresee 23 = .ok (.putfield 21, 3) := by decide +kernel
theorem d_E_foresee_26 : decode b_E_foresee 26 = .ok (.iconst 0, 1) := by decide +kernel
theorem d_E_foresee_27 : decode b_E_foresee 27 = .ok (.istore 9, 2) := by decide +kernel
theorem d_E_foresee_29 : decode b_E_foresee 29 = .ok (.iload 9, 2) := by decide +kernel
theorem d_E_foresee_31 : decode b_E_foresee 31 = .ok (.bipush 62, 2) := by decide +kernel
theorem d_E_foresee_33 : decode b_E_foresee 33 = .ok (.if_icmp .ge 187, 3) := by decide +kernel
theorem d_E_foresee_36 : decode b_E_foresee 36 = .ok (.lload 7, 2) := by decide +kernel
theorem d_E_foresee_38 : decode b_E_foresee 38 = .ok (.aload_n 0, 1) := by decide +kernel
theorem d_E_foresee_39 : decode b_E_foresee 39 = .ok (.getfield 18, 3) := by decide +kernel
theorem d_E_foresee_42 : decode b_E_foresee 42 = .ok (.ladd, 1) := by decide +kernel
theorem d_E_foresee_43 : decode b_E_foresee 43 = .ok (.lconst 0, 1) := by decide +kernel
theorem d_E_foresee_44 : decode b_E_foresee 44 = .ok (.lcmp, 1) := by decide +kernel
theorem d_E_foresee_45 : decode b_E_foresee 45 = .ok (.ifCond .le 175, 3) := by decide +kernel
theorem d_E_foresee_48 : decode b_E_foresee 48 = .ok (.lload 7, 2) := by decide +kernel
theorem d_E_foresee_50 : decode b_E_foresee 50 = .ok (.aload_n 0, 1) := by decide +kernel
theorem d_E_foresee_51 : decode b_E_foresee 51 = .ok (.getfield 21, 3) := by decide +kernel
theorem d_E_foresee_54 : decode b_E_foresee 54 = .ok (.ladd, 1) := by decide +kernel
theorem d_E_foresee_55 : decode b_E_foresee 55 = .ok (.lconst 0, 1) := by decide +kernel
theorem d_E_foresee_56 : decode b_E_foresee 56 = .ok (.lcmp, 1) := by decide +kernel
theorem d_E_foresee_57 : decode b_E_foresee 57 = .ok (.ifCond .gt 6, 3) := by decide +kernel
theorem d_E_foresee_60 : decode b_E_foresee 60 = .ok (.goto 160, 3) := by decide +kernel
theorem d_E_foresee_63 : decode b_E_foresee 63 = .ok (.lload 5, 2) := by decide +kernel
theorem d_E_foresee_65 : decode b_E_foresee 65 = .ok (.aload_n 0, 1) := by decide +kernel
theorem d_E_foresee_66 : decode b_E_foresee 66 = .ok (.getfield 9, 3) := by decide +kernel
theorem d_E_foresee_69 : decode b_E_foresee 69 = .ok (.ladd, 1) := by decide +kernel
theorem d_E_foresee_70 : decode b_E_foresee 70 = .ok (.lload 7, 2) := by decide +kernel
theorem d_E_foresee_72 : decode b_E_foresee 72 = .ok (.aload_n 0, 1) := by decide +kernel
theorem d_E_foresee_73 : decode b_E_foresee 73 = .ok (.getfield 18, 3) := by decide +kernel
theorem d_E_foresee_76 : decode b_E_foresee 76 = .ok (.ladd, 1) := by decide +kernel
theorem d_E_foresee_77 : decode b_E_foresee 77 = .ok (.ldiv, 1) := by decide +kernel
theorem d_E_foresee_78 : decode b_E_foresee 78 = .ok (.lstore 10, 2) := by decide +kernel
theorem d_E_foresee_80 : decode b_E_foresee 80 = .ok (.lload 10, 2) := by decide +kernel
theorem d_E_foresee_82 : decode b_E_foresee 82 = .ok (.lload 5, 2) := by decide +kernel
theorem d_E_foresee_84 : decode b_E_foresee 84 = .ok (.aload_n 0, 1) := by decide +kernel
theorem d_E_foresee_85 : decode b_E_foresee 85 = .ok (.getfield 15, 3) := by decide +kernel
theorem d_E_foresee_88 : decode b_E_foresee 88 = .ok (.ladd, 1) := by decide +kernel
theorem d_E_foresee_89 : decode b_E_foresee 89 = .ok (.lload 7, 2) := by decide +kernel
theorem d_E_foresee_91 : decode b_E_foresee 91 = .ok (.aload_n 0, 1) := by decide +kernel
theorem d_E_foresee_92 : decode b_E_foresee 92 = .ok (.getfield 21, 3) := by decide +kernel
theorem d_E_foresee_95 : decode b_E_foresee 95 = .ok (.ladd, 1) := by decide +kernel
theorem d_E_foresee_96 : decode b_E_foresee 96 = .ok (.ldiv, 1) := by decide +kernel
theorem d_E_foresee_97 : decode b_E_foresee 97 = .ok (.lcmp, 1) := by decide +kernel
theorem d_E_foresee_98 : decode b_E_foresee 98 = .ok (.ifCond .ne 122, 3) := by decide +kernel
theorem d_E_foresee_101 : decode b_E_foresee 101 = .ok (.lload 10, 2) := by decide +kernel
theorem d_E_foresee_103 : decode b_E_foresee 103 = .ok (.ldc2_w 67, 3) := by decide +kernel
theorem d_E_foresee_106 : decode b_E_foresee 106 = .ok (.lcmp, 1) := by decide +kernel
theorem d_E_foresee_107 : decode b_E_foresee 107 = .ok (.ifCond .le 6, 3) := by decide +kernel
theorem d_E_foresee_110 : decode b_E_foresee 110 = .ok (.goto 110, 3) := by decide +kernel
theorem d_E_foresee_113 : decode b_E_foresee 113 = .ok (.aload_n 0, 1) := by decide +kernel
theorem d_E_foresee_114 : decode b_E_foresee 114 = .ok (.getfield 9, 3) := by decide +kernel
theorem d_E_foresee_117 : decode b_E_foresee 117 = .ok (.lload 10, 2) := by decide +kernel
theorem d_E_foresee_119 : decode b_E_foresee 119 = .ok (.aload_n 0, 1) := by decide +kernel
theorem d_E_foresee_120 : decode b_E_foresee 120 = .ok (.getfield 18, 3) := by decide +kernel
theorem d_E_foresee_123 : decode b_E_foresee 123 = .ok (.lmul, 1) := by decide +kernel
theorem d_E_foresee_124 : decode b_E_foresee 124 = .ok (.lsub, 1) := by decide +kernel
theorem d_E_foresee_125 : decode b_E_foresee 125 = .ok (.lstore 12, 2) := by decide +kernel
theorem d_E_foresee_127 : decode b_E_foresee 127 = .ok (.aload_n 0, 1) := by decide +kernel
theorem d_E_foresee_128 : decode b_E_foresee 128 = .ok (.getfield 15, 3) := by decide +kernel
theorem d_E_foresee_131 : decode b_E_foresee 131 = .ok (.lload 10, 2) := by decide +kernel
theorem d_E_foresee_133 : decode b_E_foresee 133 = .ok (.aload_n 0, 1) := by decide +kernel
theorem d_E_foresee_134 : decode b_E_foresee 134 = .ok (.getfield 21, 3) := by decide +kernel
theorem d_E_foresee_137 : decode b_E_foresee 137 = .ok (.lmul, 1) := by decide +kernel
theorem d_E_foresee_138 : decode b_E_foresee 138 = .ok (.lsub, 1) := by decide +kernel
theorem d_E_foresee_139 : decode b_E_foresee 139 = .ok (.lstore 14, 2) := by decide +kernel
theorem d_E_foresee_141 : decode b_E_foresee 141 = .ok (.lload 12, 2) := by decide +kernel
theorem d_E_foresee_143 : decode b_E_foresee 143 = .ok (.invokestatic 69, 3) := by decide +kernel
theorem d_E_foresee_146 : decode b_E_foresee 146 = .ok (.ldc2_w 67, 3) := by decide +kernel
theorem d_E_foresee_149 : decode b_E_foresee 149 = .ok (.lcmp, 1) := by decide +kernel
theorem d_E_foresee_150 : decode b_E_foresee 150 = .ok (.ifCond .gt 70, 3) := by decide +kernel
theorem d_E_foresee_153 : decode b_E_foresee 153 = .ok (.lload 14, 2) := by decide +kernel
theorem d_E_foresee_155 : decode b_E_foresee 155 = .ok (.invokestatic 69, 3) := by decide +kernel
theorem d_E_foresee_158 : decode b_E_foresee 158 = .ok (.ldc2_w 67, 3) := by decide +kernel
theorem d_E_foresee_161 : decode b_E_foresee 161 = .ok (.lcmp, 1) := by decide +kernel
theorem d_E_foresee_162 : decode b_E_foresee 162 = .ok (.ifCond .le 6, 3) := by decide +kernel
theorem d_E_foresee_165 : decode b_E_foresee 165 = .ok (.goto 55, 3) := by decide +kernel
theorem d_E_foresee_168 : decode b_E_foresee 168 = .ok (.lload 5, 2) := by decide +kernel
theorem d_E_foresee_170 : decode b_E_foresee 170 = .ok (.lload 10, 2) := by decide +kernel
theorem d_E_foresee_172 : decode b_E_foresee 172 = .ok (.lload 7, 2) := by decide +kernel
theorem d_E_foresee_174 : decode b_E_foresee 174 = .ok (.lmul, 1) := by decide +kernel
theorem d_E_foresee_175 : decode b_E_foresee 175 = .ok (.lsub, 1) := by decide +kernel
theorem d_E_foresee_176 : decode b_E_foresee 176 = .ok (.lstore 16, 2) := by decide +kernel
theorem d_E_foresee_178 : decode b_E_foresee 178 = .ok (.aload_n 0, 1) := by decide +kernel
theorem d_E_foresee_179 : decode b_E_foresee 179 = .ok (.aload_n 0, 1) := by decide +kernel
theorem d_E_foresee_180 : decode b_E_foresee 180 = .ok (.getfield 18, 3) := by decide +kernel
theorem d_E_foresee_183 : decode b_E_foresee 183 = .ok (.putfield 9, 3) := by decide +kernel
theorem d_E_foresee_186 : decode b_E_foresee 186 = .ok (.aload_n 0, 1) := by decide +kernel
theorem d_E_foresee_187 : decode b_E_foresee 187 = .ok (.aload_n 0, 1) := by decide +kernel
theorem d_E_foresee_188 : decode b_E_foresee 188 = .ok (.getfield 21, 3) := by decide +kernel
theorem d_E_foresee_191 : decode b_E_foresee 191 = .ok (.putfield 15, 3) := by decide +kernel
theorem d_E_foresee_194 : decode b_E_foresee 194 = .ok (.lload 7, 2) := by decide +kernel
theorem d_E_foresee_196 : decode b_E_foresee 196 = .ok (.lstore 5, 2) := by decide +kernel
theorem d_E_foresee_198 : decode b_E_foresee 198 = .ok (.aload_n 0, 1) := by decide +kernel
theorem d_E_foresee_199 : decode b_E_foresee 199 = .ok (.lload 12, 2) := by decide +kernel
theorem d_E_foresee_201 : decode b_E_foresee 201 = .ok (.putfield 18, 3) := by decide +kernel
theorem d_E_foresee_204 : decode b_E_foresee 204 = .ok (.aload_n 0, 1) := by decide +kernel
theorem d_E_foresee_205 : decode b_E_foresee 205 = .ok (.lload 14, 2) := by decide +kernel
theorem d_E_foresee_207 : decode b_E_foresee 207 = .ok (.putfield 21, 3) := by decide +kernel
theorem d_E_foresee_210 : decode b_E_foresee 210 = .ok (.lload 16, 2) := by decide +kernel
theorem d_E_foresee_212 : decode b_E_foresee 212 = .ok (.lstore 7, 2) := by decide +kernel
theorem d_E_foresee_214 : decode b_E_foresee 214 = .ok (.iinc 9 1, 3) := by decide +kernel
theorem d_E_foresee_217 : decode b_E_foresee 217 = .ok (.goto (-188), 3) := by decide +kernel
theorem d_E_foresee_220 : decode b_E_foresee 220 = .ok (.return_, 1) := by decide +kernel
theorem d_E_follow_0 : decode b_E_follow 0 = .ok (.aload_n 1, 1) := by decide +kernel
theorem d_E_follow_1 : decode b_E_follow 1 = .ok (.getfield 31, 3) := by decide +kernel
theorem d_E_follow_4 : decode b_E_follow 4 = .ok (.istore_n 3, 1) := by decide +kernel
theorem d_E_follow_5 : decode b_E_follow 5 = .ok (.aload_n 2, 1) := by decide +kernel
theorem d_E_follow_6 : decode b_E_follow 6 = .ok (.aload_n 2, 1) := by decide +kernel
theorem d_E_follow_7 : decode b_E_follow 7 = .ok (.getfield 31, 3) := by decide +kernel
theorem d_E_follow_10 : decode b_E_follow 10 = .ok (.iload_n 3, 1) := by decide +kernel
theorem d_E_follow_11 : decode b_E_follow 11 = .ok (.invokevirtual 73, 3) := by decide +kernel
theorem d_E_follow_14 : decode b_E_follow 14 = .ok (.lconst 0, 1) := by decide +kernel
theorem d_E_follow_15 : decode b_E_follow 15 = .ok (.lstore 4, 2) := by decide +kernel
theorem d_E_follow_17 : decode b_E_follow 17 = .ok (.lconst 0, 1) := by decide +kernel
theorem d_E_follow_18 : decode b_E_follow 18 = .ok (.lstore 6, 2) := by decide +kernel
theorem d_E_follow_20 : decode b_E_follow 20 = .ok (.iconst 0, 1) := by decide +kernel
theorem d_E_follow_21 : decode b_E_follow 21 = .ok (.istore 8, 2) := by decide +kernel
theorem d_E_follow_23 : decode b_E_follow 23 = .ok (.iload 8, 2) := by decide +kernel
theorem d_E_follow_25 : decode b_E_follow 25 = .ok (.iload_n 3, 1) := by decide +kernel
theorem d_E_follow_26 : decode b_E_follow 26 = .ok (.if_icmp .ge 111, 3) := by decide +kernel
theorem d_E_follow_29 : decode b_E_follow 29 = .ok (.aload_n 1, 1) := by decide +kernel
theorem d_E_follow_30 : decode b_E_follow 30 = .ok (.getfield 77, 3) := by decide +kernel
theorem d_E_follow_33 : decode b_E_follow 33 = .ok (.iload 8, 2) := by decide +kernel
theorem d_E_follow_35 : decode b_E_follow 35 = .ok (.iaload, 1) := by decide +kernel
theorem d_E_follow_36 : decode b_E_follow 36 = .ok (.i2l, 1) := by decide +kernel
theorem d_E_follow_37 : decode b_E_follow 37 = .ok (.ldc2_w 81, 3) := by decide +kernel
theorem d_E_follow_40 : decode b_E_follow 40 = .ok (.land, 1) := by decide +kernel
theorem d_E_follow_41 : decode b_E_follow 41 = .ok (.lstore 9, 2) := by decide +kernel
theorem d_E_follow_43 : decode b_E_follow 43 = .ok (.aload_n 2, 1) := by decide +kernel
theorem d_E_follow_44 : decode b_E_follow 44 = .ok (.getfield 77, 3) := by decide +kernel
theorem d_E_follow_47 : decode b_E_follow 47 = .ok (.iload 8, 2) := by decide +kernel
theorem d_E_follow_49 : decode b_E_follow 49 = .ok (.iaload, 1) := by decide +kernel
theorem d_E_follow_50 : decode b_E_follow 50 = .ok (.i2l, 1) := by decide +kernel
theorem d_E_follow_51 : decode b_E_follow 51 = .ok (.ldc2_w 81, 3) := by decide +kernel
theorem d_E_follow_54 : decode b_E_follow 54 = .ok (.land, 1) := by decide +kernel
theorem d_E_follow_55 : decode b_E_follow 55 = .ok (.lstore 11, 2) := by decide +kernel
theorem d_E_follow_57 : decode b_E_follow 57 = .ok (.lload 4, 2) := by decide +kernel
theorem d_E_follow_59 : decode b_E_follow 59 = .ok (.aload_n 0, 1) := by decide +kernel
theorem d_E_follow_60 : decode b_E_follow 60 = .ok (.getfield 9, 3) := by decide +kernel
theorem d_E_follow_63 : decode b_E_follow 63 = .ok (.lload 9, 2) := by decide +kernel
theorem d_E_follow_65 : decode b_E_follow 65 = .ok (.lmul, 1) := by decide +kernel
theorem d_E_follow_66 : decode b_E_follow 66 = .ok (.aload_n 0, 1) := by decide +kernel
theorem d_E_follow_67 : decode b_E_follow 67 = .ok (.getfield 15, 3) := by decide +kernel
theorem d_E_follow_70 : decode b_E_follow 70 = .ok (.lload 11, 2) := by decide +kernel
theorem d_E_follow_72 : decode b_E_follow 72 = .ok (.lmul, 1) := by decide +kernel
theorem d_E_follow_73 : decode b_E_follow 73 = .ok (.ladd, 1) := by decide +kernel
theorem d_E_follow_74 : decode b_E_follow 74 = .ok (.ladd, 1) := by decide +kernel
theorem d_E_follow_75 : decode b_E_follow 75 = .ok (.lstore 4, 2) := by decide +kernel
theorem d_E_follow_77 : decode b_E_follow 77 = .ok (.lload 6, 2) := by decide +kernel
theorem d_E_follow_79 : decode b_E_follow 79 = .ok (.aload_n 0, 1) := by decide +kernel
theorem d_E_follow_80 : decode b_E_follow 80 = .ok (.getfield 18, 3) := by decide +kernel
theorem d_E_follow_83 : decode b_E_follow 83 = .ok (.lload 9, 2) := by decide +kernel
theorem d_E_follow_85 : decode b_E_follow 85 = .ok (.lmul, 1) := by decide +kernel
theorem d_E_follow_86 : decode b_E_follow 86 = .ok (.aload_n 0, 1) := by decide +kernel
theorem d_E_follow_87 : decode b_E_follow 87 = .ok (.getfield 21, 3) := by decide +kernel
theorem d_E_follow_90 : decode b_E_follow 90 = .ok (.lload 11, 2) := by decide +kernel
theorem d_E_follow_92 : decode b_E_follow 92 = .ok (.lmul, 1) := by decide +kernel
theorem d_E_follow_93 : decode b_E_follow 93 = .ok (.ladd, 1) := by decide +kernel
theorem d_E_follow_94 : decode b_E_follow 94 = .ok (.ladd, 1) := by decide +kernel
theorem d_E_follow_95 : decode b_E_follow 95 = .ok (.lstore 6, 2) := by decide +kernel
theorem d_E_follow_97 : decode b_E_follow 97 = .ok (.aload_n 1, 1) := by decide +kernel
theorem d_E_follow_98 : decode b_E_follow 98 = .ok (.getfield 77, 3) := by decide +kernel
theorem d_E_follow_101 : decode b_E_follow 101 = .ok (.iload 8, 2) := by decide +kernel
theorem d_E_follow_103 : decode b_E_follow 103 = .ok (.lload 4, 2) := by decide +kernel
theorem d_E_follow_105 : decode b_E_follow 105 = .ok (.l2i, 1) := by decide +kernel
theorem d_E_follow_106 : decode b_E_follow 106 = .ok (.iastore, 1) := by decide +kernel
theorem d_E_follow_107 : decode b_E_follow 107 = .ok (.aload_n 2, 1) := by decide +kernel
theorem d_E_follow_108 : decode b_E_follow 108 = .ok (.getfield 77, 3) := by decide +kernel
theorem d_E_follow_111 : decode b_E_follow 111 = .ok (.iload 8, 2) := by decide +kernel
theorem d_E_follow_113 : decode b_E_follow 113 = .ok (.lload 6, 2) := by decide +kernel
theorem d_E_follow_115 : decode b_E_follow 115 = .ok (.l2i, 1) := by decide +kernel
theorem d_E_follow_116 : decode b_E_follow 116 = .ok (.iastore, 1) := by decide +kernel
theorem d_E_follow_117 : decode b_E_follow 117 = .ok (.lload 4, 2) := by decide +kernel
theorem d_E_follow_119 : decode b_E_follow 119 = .ok (.bipush 32, 2) := by decide +kernel
theorem d_E_follow_121 : decode b_E_follow 121 = .ok (.lshr, 1) := by decide +kernel
theorem d_E_follow_122 : decode b_E_follow 122 = .ok (.lstore 4, 2) := by decide +kernel
theorem d_E_follow_124 : decode b_E_follow 124 = .ok (.lload 6, 2) := by decide +kernel
theorem d_E_follow_126 : decode b_E_follow 126 = .ok (.bipush 32, 2) := by decide +kernel
theorem d_E_follow_128 : decode b_E_follow 128 = .ok (.lshr, 1) := by decide +kernel
theorem d_E_follow_129 : decode b_E_follow 129 = .ok (.lstore 6, 2) := by decide +kernel
theorem d_E_follow_131 : decode b_E_follow 131 = .ok (.iinc 8 1, 3) := by decide +kernel
theorem d_E_follow_134 : decode b_E_follow 134 = .ok (.goto (-111), 3) := by decide +kernel
theorem d_E_follow_137 : decode b_E_follow 137 = .ok (.aload_n 1, 1) := by decide +kernel
theorem d_E_follow_138 : decode b_E_follow 138 = .ok (.iload_n 3, 1) := by decide +kernel
theorem d_E_follow_139 : decode b_E_follow 139 = .ok (.invokevirtual 83, 3) := by decide +kernel
theorem d_E_follow_142 : decode b_E_follow 142 = .ok (.aload_n 2, 1) := by decide +kernel
theorem d_E_follow_143 : decode b_E_follow 143 = .ok (.iload_n 3, 1) := by decide +kernel
theorem d_E_follow_144 : decode b_E_follow 144 = .ok (.invokevirtual 83, 3) := by decide +kernel
theorem d_E_follow_147 : decode b_E_follow 147 = .ok (.return_, 1) := by decide +kernel
end
section
theorem d_S_init_0 : decode b_S_init 0 = .ok (.aload_n 0, 1) := by decide +kernel
theorem d_S_init_1 : decode b_S_init 1 = .ok (.invokespecial 3, 3) := by decide +kernel
theorem d_S_init_4 : decode b_S_init 4 = .ok (.aload_n 0, 1) := by decide +kernel
theorem d_S_init_5 : decode b_S_init 5 = .ok (.sipush 17500, 3) := by decide +kernel
theorem d_S_init_8 : decode b_S_init 8 = .ok (.newarray .int, 2) := by decide +kernel
theorem d_S_init_10 : decode b_S_init 10 = .ok (.putfield 9, 3) := by decide +kernel
theorem d_S_init_13 : decode b_S_init 13 = .ok (.aload_n 0, 1) := by decide +kernel
theorem d_S_init_14 : decode b_S_init 14 = .ok (.bipush 24, 2) := by decide +kernel
theorem d_S_init_16 : decode b_S_init 16 = .ok (.newarray .int, 2) := by decide +kernel
theorem d_S_init_18 : decode b_S_init 18 = .ok (.putfield 15, 3) := by decide +kernel
theorem d_S_init_21 : decode b_S_init 21 = .ok (.aload_n 0, 1) := by decide +kernel
theorem d_S_init_22 : decode b_S_init 22 = .ok (.bipush 24, 2) := by decide +kernel
theorem d_S_init_24 : decode b_S_init 24 = .ok (.newarray .int, 2) := by decide +kernel
theorem d_S_init_26 : decode b_S_init 26 = .ok (.putfield 18, 3) := by decide +kernel
theorem d_S_init_29 : decode b_S_init 29 = .ok (.aload_n 0, 1) := by decide +kernel
theorem d_S_init_30 : decode b_S_init 30 = .ok (.bipush 24, 2) := by decide +kernel
theorem d_S_init_32 : decode b_S_init 32 = .ok (.newarray .boolean, 2) := by decide +kernel
theorem d_S_init_34 : decode b_S_init 34 = .ok (.putfield 21, 3) := by decide +kernel
theorem d_S_init_37 : decode b_S_init 37 = .ok (.aload_n 0, 1) := by decide +kernel
theorem d_S_init_38 : decode b_S_init 38 = .ok (.iconst 0, 1) := by decide +kernel
theorem d_S_init_39 : decode b_S_init 39 = .ok (.putfield 25, 3) := by decide +kernel
theorem d_S_init_42 : decode b_S_init 42 = .ok (.return_, 1) := by decide +kernel
theorem d_S_read_0 : decode b_S_read 0 = .ok (.aload_n 0, 1) := by decide +kernel
theorem d_S_read_1 : decode b_S_read 1 = .ok (.getfield 9, 3) := by decide +kernel
theorem d_S_read_4 : decode b_S_read 4 = .ok (.aload_n 0, 1) := by decide +kernel
theorem d_S_read_5 : decode b_S_read 5 = .ok (.getfield 15, 3) := by decide +kernel
theorem d_S_read_8 : decode b_S_read 8 = .ok (.iload_n 1, 1) := by decide +kernel
theorem d_S_read_9 : decode b_S_read 9 = .ok (.iaload, 1) := by decide +kernel
theorem d_S_read_10 : decode b_S_read 10 = .ok (.aload_n 2, 1) := by decide +kernel
theorem d_S_read_11 : decode b_S_read 11 = .ok (.getfield 29, 3) := by decide +kernel
theorem d_S_read_14 : decode b_S_read 14 = .ok (.iconst 0, 1) := by decide +kernel
theorem d_S_read_15 : decode b_S_read 15 = .ok (.aload_n 0, 1) := by decide +kernel
theorem d_S_read_16 : decode b_S_read 16 = .ok (.getfield 18, 3) := by decide +kernel
theorem d_S_read_19 : decode b_S_read 19 = .ok (.iload_n 1, 1) := by decide +kernel
theorem d_S_read_20 : decode b_S_read 20 = .ok (.iaload, 1) := by decide +kernel
theorem d_S_read_21 : decode b_S_read 21 = .ok (.invokestatic 34, 3) := by decide +kernel
theorem d_S_read_24 : decode b_S_read 24 = .ok (.aload_n 2, 1) := by decide +kernel
theorem d_S_read_25 : decode b_S_read 25 = .ok (.aload_n 0, 1) := by decide +kernel
theorem d_S_read_26 : decode b_S_read 26 = .ok (.getfield 18, 3) := by decide +kernel
theorem d_S_read_29 : decode b_S_read 29 = .ok (.iload_n 1, 1) := by decide +kernel
theorem d_S_read_30 : decode b_S_read 30 = .ok (.iaload, 1) := by decide +kernel
theorem d_S_read_31 : decode b_S_read 31 = .ok (.putfield 40, 3) := by decide +kernel
theorem d_S_read_34 : decode b_S_read 34 = .ok (.aload_n 2, 1) := by decide +kernel
theorem d_S_read_35 : decode b_S_read 35 = .ok (.aload_n 0, 1) := by decide +kernel
theorem d_S_read_36 : decode b_S_read 36 = .ok (.getfield 21, 3) := by decide +kernel
theorem d_S_read_39 : decode b_S_read 39 = .ok (.iload_n 1, 1) := by decide +kernel
theorem d_S_read_40 : decode b_S_read 40 = .ok (.baload, 1) := by decide +kernel
theorem d_S_read_41 : decode b_S_read 41 = .ok (.putfield 43, 3) := by decide +kernel
theorem d_S_read_44 : decode b_S_read 44 = .ok (.return_, 1) := by decide +kernel
theorem d_S_write_0 : decode b_S_write 0 = .ok (.aload_n 0, 1) := by decide +kernel
theorem d_S_write_1 : decode b_S_write 1 = .ok (.getfield 18, 3) := by decide +kernel
theorem d_S_write_4 : decode b_S_write 4 = .ok (.iload_n 1, 1) := by decide +kernel
theorem d_S_write_5 : decode b_S_write 5 = .ok (.iconst 0, 1) := by decide +kernel
theorem d_S_write_6 : decode b_S_write 6 = .ok (.iastore, 1) := by decide +kernel
theorem d_S_write_7 : decode b_S_write 7 = .ok (.aload_n 2, 1) := by decide +kernel
theorem d_S_write_8 : decode b_S_write 8 = .ok (.getfield 40, 3) := by decide +kernel
theorem d_S_write_11 : decode b_S_write 11 = .ok (.sipush 17500, 3) := by decide +kernel
theorem d_S_write_14 : decode b_S_write 14 = .ok (.aload_n 0, 1) := by decide +kernel
theorem d_S_write_15 : decode b_S_write 15 = .ok (.getfield 25, 3) := by decide +kernel
theorem d_S_write_18 : decode b_S_write 18 = .ok (.isub, 1) := by decide +kernel
theorem d_S_write_19 : decode b_S_write 19 = .ok (.if_icmp .le 7, 3) := by decide +kernel
theorem d_S_write_22 : decode b_S_write 22 = .ok (.aload_n 0, 1) := by decide +kernel
theorem d_S_write_23 : decode b_S_write 23 = .ok (.invokevirtual 47, 3) := by decide +kernel
theorem d_S_write_26 : decode b_S_write 26 = .ok (.aload_n 2, 1) := by decide +kernel
theorem d_S_write_27 : decode b_S_write 27 = .ok (.getfield 29, 3) := by decide +kernel
theorem d_S_write_30 : decode b_S_write 30 = .ok (.iconst 0, 1) := by decide +kernel
theorem d_S_write_31 : decode b_S_write 31 = .ok (.aload_n 0, 1) := by decide +kernel
theorem d_S_write_32 : decode b_S_write 32 = .ok (.getfield 9, 3) := by decide +kernel
theorem d_S_write_35 : decode b_S_write 35 = .ok (.aload_n 0, 1) := by decide +kernel
theorem d_S_write_36 : decode b_S_write 36 = .ok (.getfield 25, 3) := by decide +kernel
theorem d_S_write_39 : decode b_S_write 39 = .ok (.aload_n 2, 1) := by decide +kernel
theorem d_S_write_40 : decode b_S_write 40 = .ok (.getfield 40, 3) := by decide +kernel
theorem d_S_write_43 : decode b_S_write 43 = .ok (.invokestatic 34, 3) := by decide +kernel
theorem d_S_write_46 : decode b_S_write 46 = .ok (.aload_n 0, 1) := by decide +kernel
theorem d_S_write_47 : decode b_S_write 47 = .ok (.getfield 15, 3) := by decide +kernel
theorem d_S_write_50 : decode b_S_write 50 = .ok (.iload_n 1, 1) := by decide +kernel
theorem d_S_write_51 : decode b_S_write 51 = .ok (.aload_n 0, 1) := by decide +kernel
theorem d_S_write_52 : decode b_S_write 52 = .ok (.getfield 25, 3) := by decide +kernel
theorem d_S_write_55 : decode b_S_write 55 = .ok (.iastore, 1) := by decide +kernel
theorem d_S_write_56 : decode b_S_write 56 = .ok (.aload_n 0, 1) := by decide +kernel
theorem d_S_write_57 : decode b_S_write 57 = .ok (.getfield 18, 3) := by decide +kernel
theorem d_S_write_60 : decode b_S_write 60 = .ok (.iload_n 1, 1) := by decide +kernel
theorem d_S_write_61 : decode b_S_write 61 = .ok (.aload_n 2, 1) := by decide +kernel
theorem d_S_write_62 : decode b_S_write 62 = .ok (.getfield 40, 3) := by decide +kernel
theorem d_S_write_65 : decode b_S_write 65 = .ok (.iastore, 1) := by decide +kernel
theorem d_S_write_66 : decode b_S_write 66 = .ok (.aload_n 0, 1) := by decide +kernel
theorem d_S_write_67 : decode b_S_write 67 = .ok (.getfield 21, 3) := by decide +kernel
theorem d_S_write_70 : decode b_S_write 70 = .ok (.iload_n 1, 1) := by decide +kernel
theorem d_S_write_71 : decode b_S_write 71 = .ok (.aload_n 2, 1) := by decide +kernel
theorem d_S_write_72 : decode b_S_write 72 = .ok (.getfield 43, 3) := by decide +kernel
theorem d_S_write_75 : decode b_S_write 75 = .ok (.bastore, 1) := by decide +kernel
theorem d_S_write_76 : decode b_S_write 76 = .ok (.aload_n 0, 1) := by decide +kernel
theorem d_S_write_77 : decode b_S_write 77 = .ok (.dup, 1) := by decide +kernel
theorem d_S_write_78 : decode b_S_write 78 = .ok (.getfield 25, 3) := by decide +kernel
theorem d_S_write_81 : decode b_S_write 81 = .ok (.aload_n 2, 1) := by decide +kernel
theorem d_S_write_82 : decode b_S_write 82 = .ok (.getfield 40, 3) := by decide +kernel
theorem d_S_write_85 : decode b_S_write 85 = .ok (.iadd, 1) := by decide +kernel
theorem d_S_write_86 : decode b_S_write 86 = .ok (.putfield 25, 3) := by decide +kernel
theorem d_S_write_89 : decode b_S_write 89 = .ok (.return_, 1) := by decide +kernel
theorem d_S_exchange_0 : decode b_S_exchange 0 = .ok (.aload_n 0, 1) := by decide +kernel
theorem d_S_exchange_1 : decode b_S_exchange 1 = .ok (.getfield 15, 3) := by decide +kernel
theorem d_S_exchange_4 : decode b_S_exchange 4 = .ok (.iload_n 1, 1) := by decide +kernel
theorem d_S_exchange_5 : decode b_S_exchange 5 = .ok (.iaload, 1) := by decide +kernel
theorem d_S_exchange_6 : decode b_S_exchange 6 = .ok (.istore_n 3, 1) := by decide +kernel
theorem d_S_exchange_7 : decode b_S_exchange 7 = .ok (.aload_n 0, 1) := by decide +kernel
theorem d_S_exchange_8 : decode b_S_exchange 8 = .ok (.getfield 18, 3) := by decide +kernel
theorem d_S_exchange_11 : decode b_S_exchange 11 = .ok (.iload_n 1, 1) := by decide +kernel
theorem d_S_exchange_12 : decode b_S_exchange 12 = .ok (.iaload, 1) := by decide +kernel
theorem d_S_exchange_13 : decode b_S_exchange 13 = .ok (.istore 4, 2) := by decide +kernel
theorem d_S_exchange_15 : decode b_S_exchange 15 = .ok (.aload_n 0, 1) := by decide +kernel
theorem d_S_exchange_16 : decode b_S_exchange 16 = .ok (.getfield 21, 3) := by decide +kernel
theorem d_S_exchange_19 : decode b_S_exchange 19 = .ok (.iload_n 1, 1) := by decide +kernel
theorem d_S_exchange_20 : decode b_S_exchange 20 = .ok (.baload, 1) := by decide +kernel
theorem d_S_exchange_21 : decode b_S_exchange 21 = .ok (.istore 5, 2) := by decide +kernel
theorem d_S_exchange_23 : decode b_S_exchange 23 = .ok (.aload_n 0, 1) := by decide +kernel
theorem d_S_exchange_24 : decode b_S_exchange 24 = .ok (.getfield 15, 3) := by decide +kernel
theorem d_S_exchange_27 : decode b_S_exchange 27 = .ok (.iload_n 1, 1) := by decide +kernel
theorem d_S_exchange_28 : decode b_S_exchange 28 = .ok (.aload_n 0, 1) := by decide +kernel
theorem d_S_exchange_29 : decode b_S_exchange 29 = .ok (.getfield 15, 3) := by decide +kernel
theorem d_S_exchange_32 : decode b_S_exchange 32 = .ok (.iload_n 2, 1) := by decide +kernel
theorem d_S_exchange_33 : decode b_S_exchange 33 = .ok (.iaload, 1) := by decide +kernel
theorem d_S_exchange_34 : decode b_S_exchange 34 = .ok (.iastore, 1) := by decide +kernel
theorem d_S_exchange_35 : decode b_S_exchange 35 = .ok (.aload_n 0, 1) := by decide +kernel
theorem d_S_exchange_36 : decode b_S_exchange 36 = .ok (.getfield 18, 3) := by decide +kernel
theorem d_S_exchange_39 : decode b_S_exchange 39 = .ok (.iload_n 1, 1) := by decide +kernel
theorem d_S_exchange_40 : decode b_S_exchange 40 = .ok (.aload_n 0, 1) := by decide +kernel
theorem d_S_exchange_41 : decode b_S_exchange 41 = .ok (.getfield 18, 3) := by decide +kernel
theorem d_S_exchange_44 : decode b_S_exchange 44 = .ok (.iload_n 2, 1) := by decide +kernel
theorem d_S_exchange_45 : decode b_S_exchange 45 = .ok (.iaload, 1) := by decide +kernel
theorem d_S_exchange_46 : decode b_S_exchange 46 = .ok (.iastore, 1) := by decide +kernel
theorem d_S_exchange_47 : decode b_S_exchange 47 = .ok (.aload_n 0, 1) := by decide +kernel
theorem d_S_exchange_48 : decode b_S_exchange 48 = .ok (.getfield 21, 3) := by decide +kernel
theorem d_S_exchange_51 : decode b_S_exchange 51 = .ok (.iload_n 1, 1) := by decide +kernel
theorem d_S_exchange_52 : decode b_S_exchange 52 = .ok (.aload_n 0, 1) := by decide +kernel
theorem d_S_exchange_53 : decode b_S_exchange 53 = .ok (.getfield 21, 3) := by decide +kernel
theorem d_S_exchange_56 : decode b_S_exchange 56 = .ok (.iload_n 2, 1) := by decide +kernel
theorem d_S_exchange_57 : decode b_S_exchange 57 = .ok (.baload, 1) := by decide +kernel
theorem d_S_exchange_58 : decode b_S_exchange 58 = .ok (.bastore, 1) := by decide +kernel
theorem d_S_exchange_59 : decode b_S_exchange 59 = .ok (.aload_n 0, 1) := by decide +kernel
theorem d_S_exchange_60 : decode b_S_exchange 60 = .ok (.getfield 15, 3) := by decide +kernel
theorem d_S_exchange_63 : decode b_S_exchange 63 = .ok (.iload_n 2, 1) := by decide +kernel
theorem d_S_exchange_64 : decode b_S_exchange 64 = .ok (.iload_n 3, 1) := by decide +kernel
theorem d_S_exchange_65 : decode b_S_exchange 65 = .ok (.iastore, 1) := by decide +kernel
theorem d_S_exchange_66 : decode b_S_exchange 66 = .ok (.aload_n 0, 1) := by decide +kernel
theorem d_S_exchange_67 : decode b_S_exchange 67 = .ok (.getfield 18, 3) := by decide +kernel
theorem d_S_exchange_70 : decode b_S_exchange 70 = .ok (.iload_n 2, 1) := by decide +kernel
theorem d_S_exchange_71 : decode b_S_exchange 71 = .ok (.iload 4, 2) := by decide +kernel
theorem d_S_exchange_73 : decode b_S_exchange 73 = .ok (.iastore, 1) := by decide +kernel
theorem d_S_exchange_74 : decode b_S_exchange 74 = .ok (.aload_n 0, 1) := by decide +kernel
theorem d_S_exchange_75 : decode b_S_exchange 75 = .ok (.getfield 21, 3) := by decide +kernel
theorem d_S_exchange_78 : decode b_S_exchange 78 = .ok (.iload_n 2, 1) := by decide +kernel
theorem d_S_exchange_79 : decode b_S_exchange 79 = .ok (.iload 5, 2) := by decide +kernel
theorem d_S_exchange_81 : decode b_S_exchange 81 = .ok (.bastore, 1) := by decide +kernel
theorem d_S_exchange_82 : decode b_S_exchange 82 = .ok (.return_, 1) := by decide +kernel
theorem d_S_turn_0 : decode b_S_turn 0 = .ok (.aload_n 0, 1) := by decide +kernel
theorem d_S_turn_1 : decode b_S_turn 1 = .ok (.getfield 21, 3) := by decide +kernel
theorem d_S_turn_4 : decode b_S_turn 4 = .ok (.iload_n 1, 1) := by decide +kernel
theorem d_S_turn_5 : decode b_S_turn 5 = .ok (.aload_n 0, 1) := by decide +kernel
theorem d_S_turn_6 : decode b_S_turn 6 = .ok (.getfield 18, 3) := by decide +kernel
theorem d_S_turn_9 : decode b_S_turn 9 = .ok (.iload_n 1, 1) := by decide +kernel
theorem d_S_turn_10 : decode b_S_turn 10 = .ok (.iaload, 1) := by decide +kernel
theorem d_S_turn_11 : decode b_S_turn 11 = .ok (.ifCond .le 16, 3) := by decide +kernel
theorem d_S_turn_14 : decode b_S_turn 14 = .ok (.aload_n 0, 1) := by decide +kernel
theorem d_S_turn_15 : decode b_S_turn 15 = .ok (.getfield 21, 3) := by decide +kernel
theorem d_S_turn_18 : decode b_S_turn 18 = .ok (.iload_n 1, 1) := by decide +kernel
theorem d_S_turn_19 : decode b_S_turn 19 = .ok (.baload, 1) := by decide +kernel
theorem d_S_turn_20 : decode b_S_turn 20 = .ok (.ifCond .ne 7, 3) := by decide +kernel
theorem d_S_turn_23 : decode b_S_turn 23 = .ok (.iconst 1, 1) := by decide +kernel
theorem d_S_turn_24 : decode b_S_turn 24 = .ok (.goto 4, 3) := by decide +kernel
theorem d_S_turn_27 : decode b_S_turn 27 = .ok (.iconst 0, 1) := by decide +kernel
theorem d_S_turn_28 : decode b_S_turn 28 = .ok (.bastore, 1) := by decide +kernel
theorem d_S_turn_29 : decode b_S_turn 29 = .ok (.return_, 1) := by decide +kernel
theorem d_S_pack_0 : decode b_S_pack 0 = .ok (.iconst 0, 1) := by decide +kernel
theorem d_S_pack_1 : decode b_S_pack 1 = .ok (.istore_n 1, 1) := by decide +kernel
theorem d_S_pack_2 : decode b_S_pack 2 = .ok (.iconst 0, 1) := by decide +kernel
theorem d_S_pack_3 : decode b_S_pack 3 = .ok (.istore_n 2, 1) := by decide +kernel
theorem d_S_pack_4 : decode b_S_pack 4 = .ok (.iconst 0, 1) := by decide +kernel
theorem d_S_pack_5 : decode b_S_pack 5 = .ok (.istore_n 3, 1) := by decide +kernel
theorem d_S_pack_6 : decode b_S_pack 6 = .ok (.iload_n 3, 1) := by decide +kernel
theorem d_S_pack_7 : decode b_S_pack 7 = .ok (.bipush 24, 2) := by decide +kernel
theorem d_S_pack_9 : decode b_S_pack 9 = .ok (.if_icmp .ge 84, 3) := by decide +kernel
theorem d_S_pack_12 : decode b_S_pack 12 = .ok (.aload_n 0, 1) := by decide +kernel
theorem d_S_pack_13 : decode b_S_pack 13 = .ok (.iload_n 1, 1) := by decide +kernel
theorem d_S_pack_14 : decode b_S_pack 14 = .ok (.invokevirtual 50, 3) := by decide +kernel
theorem d_S_pack_17 : decode b_S_pack 17 = .ok (.istore 4, 2) := by decide +kernel
theorem d_S_pack_19 : decode b_S_pack 19 = .ok (.iload 4, 2) := by decide +kernel
theorem d_S_pack_21 : decode b_S_pack 21 = .ok (.iconst (-1), 1) := by decide +kernel
theorem d_S_pack_22 : decode b_S_pack 22 = .ok (.if_icmp .ne 6, 3) := by decide +kernel
theorem d_S_pack_25 : decode b_S_pack 25 = .ok (.goto 68, 3) := by decide +kernel
theorem d_S_pack_28 : decode b_S_pack 28 = .ok (.aload_n 0, 1) := by decide +kernel
theorem d_S_pack_29 : decode b_S_pack 29 = .ok (.getfield 15, 3) := by decide +kernel
theorem d_S_pack_32 : decode b_S_pack 32 = .ok (.iload 4, 2) := by decide +kernel
theorem d_S_pack_34 : decode b_S_pack 34 = .ok (.iaload, 1) := by decide +kernel
theorem d_S_pack_35 : decode b_S_pack 35 = .ok (.istore 5, 2) := by decide +kernel
theorem d_S_pack_37 : decode b_S_pack 37 = .ok (.aload_n 0, 1) := by decide +kernel
theorem d_S_pack_38 : decode b_S_pack 38 = .ok (.getfield 9, 3) := by decide +kernel
theorem d_S_pack_41 : decode b_S_pack 41 = .ok (.iload 5, 2) := by decide +kernel
theorem d_S_pack_43 : decode b_S_pack 43 = .ok (.aload_n 0, 1) := by decide +kernel
theorem d_S_pack_44 : decode b_S_pack 44 = .ok (.getfield 9, 3) := by decide +kernel
theorem d_S_pack_47 : decode b_S_pack 47 = .ok (.iload_n 2, 1) := by decide +kernel
theorem d_S_pack_48 : decode b_S_pack 48 = .ok (.aload_n 0, 1) := by decide +kernel
theorem d_S_pack_49 : decode b_S_pack 49 = .ok (.getfield 18, 3) := by decide +kernel
theorem d_S_pack_52 : decode b_S_pack 52 = .ok (.iload 4, 2) := by decide +kernel
theorem d_S_pack_54 : decode b_S_pack 54 = .ok (.iaload, 1) := by decide +kernel
theorem d_S_pack_55 : decode b_S_pack 55 = .ok (.invokestatic 34, 3) := by decide +kernel
theorem d_S_pack_58 : decode b_S_pack 58 = .ok (.aload_n 0, 1) := by decide +kernel
theorem d_S_pack_59 : decode b_S_pack 59 = .ok (.getfield 15, 3) := by decide +kernel
theorem d_S_pack_62 : decode b_S_pack 62 = .ok (.iload 4, 2) := by decide +kernel
theorem d_S_pack_64 : decode b_S_pack 64 = .ok (.iload_n 2, 1) := by decide +kernel
theorem d_S_pack_65 : decode b_S_pack 65 = .ok (.iastore, 1) := by decide +kernel
theorem d_S_pack_66 : decode b_S_pack 66 = .ok (.iload_n 2, 1) := by decide +kernel
theorem d_S_pack_67 : decode b_S_pack 67 = .ok (.aload_n 0, 1) := by decide +kernel
theorem d_S_pack_68 : decode b_S_pack 68 = .ok (.getfield 18, 3) := by decide +kernel
theorem d_S_pack_71 : decode b_S_pack 71 = .ok (.iload 4, 2) := by decide +kernel
theorem d_S_pack_73 : decode b_S_pack 73 = .ok (.iaload, 1) := by decide +kernel
theorem d_S_pack_74 : decode b_S_pack 74 = .ok (.iadd, 1) := by decide +kernel
theorem d_S_pack_75 : decode b_S_pack 75 = .ok (.istore_n 2, 1) := by decide +kernel
theorem d_S_pack_76 : decode b_S_pack 76 = .ok (.iload 5, 2) := by decide +kernel
theorem d_S_pack_78 : decode b_S_pack 78 = .ok (.aload_n 0, 1) := by decide +kernel
theorem d_S_pack_79 : decode b_S_pack 79 = .ok (.getfield 18, 3) := by decide +kernel
theorem d_S_pack_82 : decode b_S_pack 82 = .ok (.iload 4, 2) := by decide +kernel
theorem d_S_pack_84 : decode b_S_pack 84 = .ok (.iaload, 1) := by decide +kernel
theorem d_S_pack_85 : decode b_S_pack 85 = .ok (.iadd, 1) := by decide +kernel
theorem d_S_pack_86 : decode b_S_pack 86 = .ok (.istore_n 1, 1) := by decide +kernel
theorem d_S_pack_87 : decode b_S_pack 87 = .ok (.iinc 3 1, 3) := by decide +kernel
theorem d_S_pack_90 : decode b_S_pack 90 = .ok (.goto (-84), 3) := by decide +kernel
theorem d_S_pack_93 : decode b_S_pack 93 = .ok (.aload_n 0, 1) := by decide +kernel
theorem d_S_pack_94 : decode b_S_pack 94 = .ok (.iload_n 2, 1) := by decide +kernel
theorem d_S_pack_95 : decode b_S_pack 95 = .ok (.putfield 25, 3) := by decide +kernel
theorem d_S_pack_98 : decode b_S_pack 98 = .ok (.return_, 1) := by decide +kernel
theorem d_S_firstFrom_0 : decode b_S_firstFrom 0 = .ok (.iconst (-1), 1) := by decide +kernel
theorem d_S_firstFrom_1 : decode b_S_firstFrom 1 = .ok (.istore_n 2, 1) := by decide +kernel
theorem d_S_firstFrom_2 : decode b_S_firstFrom 2 = .ok (.iconst 0, 1) := by decide +kernel
theorem d_S_firstFrom_3 : decode b_S_firstFrom 3 = .ok (.istore_n 3, 1) := by decide +kernel
theorem d_S_firstFrom_4 : decode b_S_firstFrom 4 = .ok (.iload_n 3, 1) := by decide +kernel
theorem d_S_firstFrom_5 : decode b_S_firstFrom 5 = .ok (.bipush 24, 2) := by decide +kernel
theorem d_S_firstFrom_7 : decode b_S_firstFrom 7 = .ok (.if_icmp .ge 62, 3) := by decide +kernel
theorem d_S_firstFrom_10 : decode b_S_firstFrom 10 = .ok (.aload_n 0, 1) := by decide +kernel
theorem d_S_firstFrom_11 : decode b_S_firstFrom 11 = .ok (.getfield 18, 3) := by decide +kernel
theorem d_S_firstFrom_14 : decode b_S_firstFrom 14 = .ok (.iload_n 3, 1) := by decide +kernel
theorem d_S_firstFrom_15 : decode b_S_firstFrom 15 = .ok (.iaload, 1) := by decide +kernel
theorem d_S_firstFrom_16 : decode b_S_firstFrom 16 = .ok (.ifCond .le 17, 3) := by decide +kernel
theorem d_S_firstFrom_19 : decode b_S_firstFrom 19 = .ok (.aload_n 0, 1) := by decide +kernel
theorem d_S_firstFrom_20 : decode b_S_firstFrom 20 = .ok (.getfield 15, 3) := by decide +kernel
theorem d_S_firstFrom_23 : decode b_S_firstFrom 23 = .ok (.iload_n 3, 1) := by decide +kernel
theorem d_S_firstFrom_24 : decode b_S_firstFrom 24 = .ok (.iaload, 1) := by decide +kernel
theorem d_S_firstFrom_25 : decode b_S_firstFrom 25 = .ok (.iload_n 1, 1) := by decide +kernel
theorem d_S_firstFrom_26 : decode b_S_firstFrom 26 = .ok (.if_icmp .lt 7, 3) := by decide +kernel
theorem d_S_firstFrom_29 : decode b_S_firstFrom 29 = .ok (.iconst 1, 1) := by decide +kernel
theorem d_S_firstFrom_30 : decode b_S_firstFrom 30 = .ok (.goto 4, 3) := by decide +kernel
theorem d_S_firstFrom_33 : decode b_S_firstFrom 33 = .ok (.iconst 0, 1) := by decide +kernel
theorem d_S_firstFrom_34 : decode b_S_firstFrom 34 = .ok (.istore 4, 2) := by decide +kernel
theorem d_S_firstFrom_36 : decode b_S_firstFrom 36 = .ok (.iload 4, 2) := by decide +kernel
theorem d_S_firstFrom_38 : decode b_S_firstFrom 38 = .ok (.ifCond .eq 25, 3) := by decide +kernel
theorem d_S_firstFrom_41 : decode b_S_firstFrom 41 = .ok (.iload_n 2, 1) := by decide +kernel
theorem d_S_firstFrom_42 : decode b_S_firstFrom 42 = .ok (.iconst (-1), 1) := by decide +kernel
theorem d_S_firstFrom_43 : decode b_S_firstFrom 43 = .ok (.if_icmp .eq 18, 3) := by decide +kernel
theorem d_S_firstFrom_46 : decode b_S_firstFrom 46 = .ok (.aload_n 0, 1) := by decide +kernel
theorem d_S_firstFrom_47 : decode b_S_firstFrom 47 = .ok (.getfield 15, 3) := by decide +kernel
theorem d_S_firstFrom_50 : decode b_S_firstFrom 50 = .ok (.iload_n 3, 1) := by decide +kernel
theorem d_S_firstFrom_51 : decode b_S_firstFrom 51 = .ok (.iaload, 1) := by decide +kernel
theorem d_S_firstFrom_52 : decode b_S_firstFrom 52 = .ok (.aload_n 0, 1) := by decide +kernel
theorem d_S_firstFrom_53 : decode b_S_firstFrom 53 = .ok (.getfield 15, 3) := by decide +kernel
theorem d_S_firstFrom_56 : decode b_S_firstFrom 56 = .ok (.iload_n 2, 1) := by decide +kernel
theorem d_S_firstFrom_57 : decode b_S_firstFrom 57 = .ok (.iaload, 1) := by decide +kernel
theorem d_S_firstFrom_58 : decode b_S_firstFrom 58 = .ok (.if_icmp .ge 5, 3) := by decide +kernel
theorem d_S_firstFrom_61 : decode b_S_firstFrom 61 = .ok (.iload_n 3, 1) := by decide +kernel
theorem d_S_firstFrom_62 : decode b_S_firstFrom 62 = .ok (.istore_n 2, 1) := by decide +kernel
theorem d_S_firstFrom_63 : decode b_S_firstFrom 63 = .ok (.iinc 3 1, 3) := by decide +kernel
theorem d_S_firstFrom_66 : decode b_S_firstFrom 66 = .ok (.goto (-62), 3) := by decide +kernel
theorem d_S_firstFrom_69 : decode b_S_firstFrom 69 = .ok (.iload_n 2, 1) := by decide +kernel
theorem d_S_firstFrom_70 : decode b_S_firstFrom 70 = .ok (.ireturn, 1) := by decide +kernel
end
section
theorem d_T_init_0 : decode b_T_init 0 = .ok (.aload_n 0, 1) := by decide +kernel
theorem d_T_init_1 : decode b_T_init 1 = .ok (.invokespecial 5, 3) := by decide +kernel
theorem d_T_init_4 : decode b_T_init 4 = .ok (.aload_n 0, 1) := by decide +kernel
theorem d_T_init_5 : decode b_T_init 5 = .ok (.sipush 6031, 3) := by decide +kernel
theorem d_T_init_8 : decode b_T_init 8 = .ok (.newarray .byte, 2) := by decide +kernel
theorem d_T_init_10 : decode b_T_init 10 = .ok (.putfield 11, 3) := by decide +kernel
theorem d_T_init_13 : decode b_T_init 13 = .ok (.aload_n 0, 1) := by decide +kernel
theorem d_T_init_14 : decode b_T_init 14 = .ok (.sipush 6031, 3) := by decide +kernel
theorem d_T_init_17 : decode b_T_init 17 = .ok (.putfield 15, 3) := by decide +kernel
theorem d_T_init_20 : decode b_T_init 20 = .ok (.return_, 1) := by decide +kernel
theorem d_T_write_0 : decode b_T_write 0 = .ok (.aload_n 1, 1) := by decide +kernel
theorem d_T_write_1 : decode b_T_write 1 = .ok (.getfield 19, 3) := by decide +kernel
theorem d_T_write_4 : decode b_T_write 4 = .ok (.istore_n 2, 1) := by decide +kernel
theorem d_T_write_5 : decode b_T_write 5 = .ok (.aload_n 0, 1) := by decide +kernel
theorem d_T_write_6 : decode b_T_write 6 = .ok (.sipush 6031, 3) := by decide +kernel
theorem d_T_write_9 : decode b_T_write 9 = .ok (.putfield 15, 3) := by decide +kernel
theorem d_T_write_12 : decode b_T_write 12 = .ok (.aload_n 1, 1) := by decide +kernel
theorem d_T_write_13 : decode b_T_write 13 = .ok (.getfield 25, 3) := by decide +kernel
theorem d_T_write_16 : decode b_T_write 16 = .ok (.ifCond .ne 9, 3) := by decide +kernel
theorem d_T_write_19 : decode b_T_write 19 = .ok (.aload_n 0, 1) := by decide +kernel
theorem d_T_write_20 : decode b_T_write 20 = .ok (.bipush 48, 2) := by decide +kernel
theorem d_T_write_22 : decode b_T_write 22 = .ok (.invokevirtual 28, 3) := by decide +kernel
theorem d_T_write_25 : decode b_T_write 25 = .ok (.iconst 0, 1) := by decide +kernel
theorem d_T_write_26 : decode b_T_write 26 = .ok (.istore_n 3, 1) := by decide +kernel
theorem d_T_write_27 : decode b_T_write 27 = .ok (.iload_n 3, 1) := by decide +kernel
theorem d_T_write_28 : decode b_T_write 28 = .ok (.sipush 670, 3) := by decide +kernel
theorem d_T_write_31 : decode b_T_write 31 = .ok (.if_icmp .ge 40, 3) := by decide +kernel
theorem d_T_write_34 : decode b_T_write 34 = .ok (.aload_n 1, 1) := by decide +kernel
theorem d_T_write_35 : decode b_T_write 35 = .ok (.getfield 25, 3) := by decide +kernel
theorem d_T_write_38 : decode b_T_write 38 = .ok (.ifCond .le 33, 3) := by decide +kernel
theorem d_T_write_41 : decode b_T_write 41 = .ok (.aload_n 0, 1) := by decide +kernel
theorem d_T_write_42 : decode b_T_write 42 = .ok (.aload_n 1, 1) := by decide +kernel
theorem d_T_write_43 : decode b_T_write 43 = .ok (.ldc2_w 32, 3) := by decide +kernel
theorem d_T_write_46 : decode b_T_write 46 = .ok (.invokevirtual 34, 3) := by decide +kernel
theorem d_T_write_49 : decode b_T_write 49 = .ok (.l2i, 1) := by decide +kernel
theorem d_T_write_50 : decode b_T_write 50 = .ok (.aload_n 1, 1) := by decide +kernel
theorem d_T_write_51 : decode b_T_write 51 = .ok (.getfield 25, 3) := by decide +kernel
theorem d_T_write_54 : decode b_T_write 54 = .ok (.ifCond .le 7, 3) := by decide +kernel
theorem d_T_write_57 : decode b_T_write 57 = .ok (.iconst 1, 1) := by decide +kernel
theorem d_T_write_58 : decode b_T_write 58 = .ok (.goto 4, 3) := by decide +kernel
theorem d_T_write_61 : decode b_T_write 61 = .ok (.iconst 0, 1) := by decide +kernel
theorem d_T_write_62 : decode b_T_write 62 = .ok (.invokevirtual 38, 3) := by decide +kernel
theorem d_T_write_65 : decode b_T_write 65 = .ok (.iinc 3 1, 3) := by decide +kernel
theorem d_T_write_68 : decode b_T_write 68 = .ok (.goto (-41), 3) := by decide +kernel
theorem d_T_write_71 : decode b_T_write 71 = .ok (.iload_n 2, 1) := by decide +kernel
theorem d_T_write_72 : decode b_T_write 72 = .ok (.ifCond .eq 9, 3) := by decide +kernel
theorem d_T_write_75 : decode b_T_write 75 = .ok (.aload_n 0, 1) := by decide +kernel
theorem d_T_write_76 : decode b_T_write 76 = .ok (.bipush 45, 2) := by decide +kernel
theorem d_T_write_78 : decode b_T_write 78 = .ok (.invokevirtual 28, 3) := by decide +kernel
theorem d_T_write_81 : decode b_T_write 81 = .ok (.sipush 6031, 3) := by decide +kernel
theorem d_T_write_84 : decode b_T_write 84 = .ok (.aload_n 0, 1) := by decide +kernel
theorem d_T_write_85 : decode b_T_write 85 = .ok (.getfield 15, 3) := by decide +kernel
theorem d_T_write_88 : decode b_T_write 88 = .ok (.isub, 1) := by decide +kernel
theorem d_T_write_89 : decode b_T_write 89 = .ok (.ireturn, 1) := by decide +kernel
theorem d_T_writeChunk_0 : decode b_T_writeChunk 0 = .ok (.iload_n 1, 1) := by decide +kernel
theorem d_T_writeChunk_1 : decode b_T_writeChunk 1 = .ok (.istore_n 3, 1) := by decide +kernel
theorem d_T_writeChunk_2 : decode b_T_writeChunk 2 = .ok (.iconst 0, 1) := by decide +kernel
theorem d_T_writeChunk_3 : decode b_T_writeChunk 3 = .ok (.istore 4, 2) := by decide +kernel
theorem d_T_writeChunk_5 : decode b_T_writeChunk 5 = .ok (.iload 4, 2) := by decide +kernel
theorem d_T_writeChunk_7 : decode b_T_writeChunk 7 = .ok (.bipush 9, 2) := by decide +kernel
theorem d_T_writeChunk_9 : decode b_T_writeChunk 9 = .ok (.if_icmp .ge 33, 3) := by decide +kernel
theorem d_T_writeChunk_12 : decode b_T_writeChunk 12 = .ok (.iload_n 2, 1) := by decide +kernel
theorem d_T_writeChunk_13 : decode b_T_writeChunk 13 = .ok (.ifCond .ne 7, 3) := by decide +kernel
theorem d_T_writeChunk_16 : decode b_T_writeChunk 16 = .ok (.iload_n 3, 1) := by decide +kernel
theorem d_T_writeChunk_17 : decode b_T_writeChunk 17 = .ok (.ifCond .le 25, 3) := by decide +kernel
theorem d_T_writeChunk_20 : decode b_T_writeChunk 20 = .ok (.aload_n 0, 1) := by decide +kernel
theorem d_T_writeChunk_21 : decode b_T_writeChunk 21 = .ok (.bipush 48, 2) := by decide +kernel
theorem d_T_writeChunk_23 : decode b_T_writeChunk 23 = .ok (.iload_n 3, 1) := by decide +kernel
theorem d_T_writeChunk_24 : decode b_T_writeChunk 24 = .ok (.bipush 10, 2) := by decide +kernel
theorem d_T_writeChunk_26 : decode b_T_writeChunk 26 = .ok (.irem, 1) := by decide +kernel
theorem d_T_writeChunk_27 : decode b_T_writeChunk 27 = .ok (.iadd, 1) := by decide +kernel
theorem d_T_writeChunk_28 : decode b_T_writeChunk 28 = .ok (.invokevirtual 28, 3) := by decide +kernel
theorem d_T_writeChunk_31 : decode b_T_writeChunk 31 = .ok (.iload_n 3, 1) := by decide +kernel
theorem d_T_writeChunk_32 : decode b_T_writeChunk 32 = .ok (.bipush 10, 2) := by decide +kernel
theorem d_T_writeChunk_34 : decode b_T_writeChunk 34 = .ok (.idiv, 1) := by decide +kernel
theorem d_T_writeChunk_35 : decode b_T_writeChunk 35 = .ok (.istore_n 3, 1) := by decide +kernel
theorem d_T_writeChunk_36 : decode b_T_writeChunk 36 = .ok (.iinc 4 1, 3) := by decide +kernel
theorem d_T_writeChunk_39 : decode b_T_writeChunk 39 = .ok (.goto (-34), 3) := by decide +kernel
theorem d_T_writeChunk_42 : decode b_T_writeChunk 42 = .ok (.return_, 1) := by decide +kernel
theorem d_T_putBefore_0 : decode b_T_putBefore 0 = .ok (.aload_n 0, 1) := by decide +kernel
theorem d_T_putBefore_1 : decode b_T_putBefore 1 = .ok (.getfield 15, 3) := by decide +kernel
theorem d_T_putBefore_4 : decode b_T_putBefore 4 = .ok (.ifCond .le 24, 3) := by decide +kernel
theorem d_T_putBefore_7 : decode b_T_putBefore 7 = .ok (.aload_n 0, 1) := by decide +kernel
theorem d_T_putBefore_8 : decode b_T_putBefore 8 = .ok (.dup, 1) := by decide +kernel
theorem d_T_putBefore_9 : decode b_T_putBefore 9 = .ok (.getfield 15, 3) := by decide +kernel
theorem d_T_putBefore_12 : decode b_T_putBefore 12 = .ok (.iconst 1, 1) := by decide +kernel
theorem d_T_putBefore_13 : decode b_T_putBefore 13 = .ok (.isub, 1) := by decide +kernel
theorem d_T_putBefore_14 : decode b_T_putBefore 14 = .ok (.putfield 15, 3) := by decide +kernel
theorem d_T_putBefore_17 : decode b_T_putBefore 17 = .ok (.aload_n 0, 1) := by decide +kernel
theorem d_T_putBefore_18 : decode b_T_putBefore 18 = .ok (.getfield 11, 3) := by decide +kernel
theorem d_T_putBefore_21 : decode b_T_putBefore 21 = .ok (.aload_n 0, 1) := by decide +kernel
theorem d_T_putBefore_22 : decode b_T_putBefore 22 = .ok (.getfield 15, 3) := by decide +kernel
theorem d_T_putBefore_25 : decode b_T_putBefore 25 = .ok (.iload_n 1, 1) := by decide +kernel
theorem d_T_putBefore_26 : decode b_T_putBefore 26 = .ok (.i2b, 1) := by decide +kernel
theorem d_T_putBefore_27 : decode b_T_putBefore 27 = .ok (.bastore, 1) := by decide +kernel
theorem d_T_putBefore_28 : decode b_T_putBefore 28 = .ok (.return_, 1) := by decide +kernel
theorem d_T_at_0 : decode b_T_at 0 = .ok (.iload_n 1, 1) := by decide +kernel
theorem d_T_at_1 : decode b_T_at 1 = .ok (.ifCond .lt 15, 3) := by decide +kernel
theorem d_T_at_4 : decode b_T_at 4 = .ok (.iload_n 1, 1) := by decide +kernel
theorem d_T_at_5 : decode b_T_at 5 = .ok (.sipush 6031, 3) := by decide +kernel
theorem d_T_at_8 : decode b_T_at 8 = .ok (.aload_n 0, 1) := by decide +kernel
theorem d_T_at_9 : decode b_T_at 9 = .ok (.getfield 15, 3) := by decide +kernel
theorem d_T_at_12 : decode b_T_at 12 = .ok (.isub, 1) := by decide +kernel
theorem d_T_at_13 : decode b_T_at 13 = .ok (.if_icmp .lt 7, 3) := by decide +kernel
theorem d_T_at_16 : decode b_T_at 16 = .ok (.iconst (-1), 1) := by decide +kernel
theorem d_T_at_17 : decode b_T_at 17 = .ok (.goto 14, 3) := by decide +kernel
theorem d_T_at_20 : decode b_T_at 20 = .ok (.aload_n 0, 1) := by decide +kernel
theorem d_T_at_21 : decode b_T_at 21 = .ok (.getfield 11, 3) := by decide +kernel
theorem d_T_at_24 : decode b_T_at 24 = .ok (.aload_n 0, 1) := by decide +kernel
theorem d_T_at_25 : decode b_T_at 25 = .ok (.getfield 15, 3) := by decide +kernel
theorem d_T_at_28 : decode b_T_at 28 = .ok (.iload_n 1, 1) := by decide +kernel
theorem d_T_at_29 : decode b_T_at 29 = .ok (.iadd, 1) := by decide +kernel
theorem d_T_at_30 : decode b_T_at 30 = .ok (.baload, 1) := by decide +kernel
theorem d_T_at_31 : decode b_T_at 31 = .ok (.ireturn, 1) := by decide +kernel
end
section
theorem d_P_init_0 : decode b_P_init 0 = .ok (.aload_n 0, 1) := by decide +kernel
theorem d_P_init_1 : decode b_P_init 1 = .ok (.invokespecial 3, 3) := by decide +kernel
theorem d_P_init_4 : decode b_P_init 4 = .ok (.aload_n 0, 1) := by decide +kernel
theorem d_P_init_5 : decode b_P_init 5 = .ok (.new 9, 3) := by decide +kernel
theorem d_P_init_8 : decode b_P_init 8 = .ok (.dup, 1) := by decide +kernel
theorem d_P_init_9 : decode b_P_init 9 = .ok (.invokespecial 11, 3) := by decide +kernel
theorem d_P_init_12 : decode b_P_init 12 = .ok (.putfield 12, 3) := by decide +kernel
theorem d_P_init_15 : decode b_P_init 15 = .ok (.aload_n 0, 1) := by decide +kernel
theorem d_P_init_16 : decode b_P_init 16 = .ok (.new 16, 3) := by decide +kernel
theorem d_P_init_19 : decode b_P_init 19 = .ok (.dup, 1) := by decide +kernel
theorem d_P_init_20 : decode b_P_init 20 = .ok (.invokespecial 18, 3) := by decide +kernel
theorem d_P_init_23 : decode b_P_init 23 = .ok (.putfield 19, 3) := by decide +kernel
theorem d_P_init_26 : decode b_P_init 26 = .ok (.aload_n 0, 1) := by decide +kernel
theorem d_P_init_27 : decode b_P_init 27 = .ok (.new 23, 3) := by decide +kernel
theorem d_P_init_30 : decode b_P_init 30 = .ok (.dup, 1) := by decide +kernel
theorem d_P_init_31 : decode b_P_init 31 = .ok (.invokespecial 25, 3) := by decide +kernel
theorem d_P_init_34 : decode b_P_init 34 = .ok (.putfield 26, 3) := by decide +kernel
theorem d_P_init_37 : decode b_P_init 37 = .ok (.aload_n 0, 1) := by decide +kernel
theorem d_P_init_38 : decode b_P_init 38 = .ok (.new 30, 3) := by decide +kernel
theorem d_P_init_41 : decode b_P_init 41 = .ok (.dup, 1) := by decide +kernel
theorem d_P_init_42 : decode b_P_init 42 = .ok (.invokespecial 32, 3) := by decide +kernel
theorem d_P_init_45 : decode b_P_init 45 = .ok (.putfield 33, 3) := by decide +kernel
theorem d_P_init_48 : decode b_P_init 48 = .ok (.aload_n 0, 1) := by decide +kernel
theorem d_P_init_49 : decode b_P_init 49 = .ok (.new 30, 3) := by decide +kernel
theorem d_P_init_52 : decode b_P_init 52 = .ok (.dup, 1) := by decide +kernel
theorem d_P_init_53 : decode b_P_init 53 = .ok (.invokespecial 32, 3) := by decide +kernel
theorem d_P_init_56 : decode b_P_init 56 = .ok (.putfield 37, 3) := by decide +kernel
theorem d_P_init_59 : decode b_P_init 59 = .ok (.aload_n 0, 1) := by decide +kernel
theorem d_P_init_60 : decode b_P_init 60 = .ok (.new 30, 3) := by decide +kernel
theorem d_P_init_63 : decode b_P_init 63 = .ok (.dup, 1) := by decide +kernel
theorem d_P_init_64 : decode b_P_init 64 = .ok (.invokespecial 32, 3) := by decide +kernel
theorem d_P_init_67 : decode b_P_init 67 = .ok (.putfield 40, 3) := by decide +kernel
theorem d_P_init_70 : decode b_P_init 70 = .ok (.aload_n 0, 1) := by decide +kernel
theorem d_P_init_71 : decode b_P_init 71 = .ok (.new 30, 3) := by decide +kernel
theorem d_P_init_74 : decode b_P_init 74 = .ok (.dup, 1) := by decide +kernel
theorem d_P_init_75 : decode b_P_init 75 = .ok (.invokespecial 32, 3) := by decide +kernel
theorem d_P_init_78 : decode b_P_init 78 = .ok (.putfield 43, 3) := by decide +kernel
theorem d_P_init_81 : decode b_P_init 81 = .ok (.return_, 1) := by decide +kernel
theorem d_P_set_0 : decode b_P_set 0 = .ok (.aload_n 0, 1) := by decide +kernel
theorem d_P_set_1 : decode b_P_set 1 = .ok (.iload_n 1, 1) := by decide +kernel
theorem d_P_set_2 : decode b_P_set 2 = .ok (.invokevirtual 46, 3) := by decide +kernel
theorem d_P_set_5 : decode b_P_set 5 = .ok (.aload_n 0, 1) := by decide +kernel
theorem d_P_set_6 : decode b_P_set 6 = .ok (.getfield 33, 3) := by decide +kernel
theorem d_P_set_9 : decode b_P_set 9 = .ok (.lload_n 2, 1) := by decide +kernel
theorem d_P_set_10 : decode b_P_set 10 = .ok (.invokevirtual 50, 3) := by decide +kernel
theorem d_P_set_13 : decode b_P_set 13 = .ok (.aload_n 0, 1) := by decide +kernel
theorem d_P_set_14 : decode b_P_set 14 = .ok (.iload_n 1, 1) := by decide +kernel
theorem d_P_set_15 : decode b_P_set 15 = .ok (.aload_n 0, 1) := by decide +kernel
theorem d_P_set_16 : decode b_P_set 16 = .ok (.getfield 33, 3) := by decide +kernel
theorem d_P_set_19 : decode b_P_set 19 = .ok (.invokevirtual 54, 3) := by decide +kernel
theorem d_P_set_22 : decode b_P_set 22 = .ok (.ireturn, 1) := by decide +kernel
theorem d_P_push_0 : decode b_P_push 0 = .ok (.aload_n 0, 1) := by decide +kernel
theorem d_P_push_1 : decode b_P_push 1 = .ok (.iload_n 1, 1) := by decide +kernel
theorem d_P_push_2 : decode b_P_push 2 = .ok (.invokevirtual 46, 3) := by decide +kernel
theorem d_P_push_5 : decode b_P_push 5 = .ok (.aload_n 0, 1) := by decide +kernel
theorem d_P_push_6 : decode b_P_push 6 = .ok (.getfield 12, 3) := by decide +kernel
theorem d_P_push_9 : decode b_P_push 9 = .ok (.iload_n 1, 1) := by decide +kernel
theorem d_P_push_10 : decode b_P_push 10 = .ok (.aload_n 0, 1) := by decide +kernel
theorem d_P_push_11 : decode b_P_push 11 = .ok (.getfield 33, 3) := by decide +kernel
theorem d_P_push_14 : decode b_P_push 14 = .ok (.invokevirtual 58, 3) := by decide +kernel
theorem d_P_push_17 : decode b_P_push 17 = .ok (.aload_n 0, 1) := by decide +kernel
theorem d_P_push_18 : decode b_P_push 18 = .ok (.getfield 33, 3) := by decide +kernel
theorem d_P_push_21 : decode b_P_push 21 = .ok (.iload_n 2, 1) := by decide +kernel
theorem d_P_push_22 : decode b_P_push 22 = .ok (.invokevirtual 62, 3) := by decide +kernel
theorem d_P_push_25 : decode b_P_push 25 = .ok (.aload_n 0, 1) := by decide +kernel
theorem d_P_push_26 : decode b_P_push 26 = .ok (.iload_n 1, 1) := by decide +kernel
theorem d_P_push_27 : decode b_P_push 27 = .ok (.aload_n 0, 1) := by decide +kernel
theorem d_P_push_28 : decode b_P_push 28 = .ok (.getfield 33, 3) := by decide +kernel
theorem d_P_push_31 : decode b_P_push 31 = .ok (.invokevirtual 54, 3) := by decide +kernel
theorem d_P_push_34 : decode b_P_push 34 = .ok (.ireturn, 1) := by decide +kernel
theorem d_P_copy_0 : decode b_P_copy 0 = .ok (.aload_n 0, 1) := by decide +kernel
theorem d_P_copy_1 : decode b_P_copy 1 = .ok (.iload_n 1, 1) := by decide +kernel
theorem d_P_copy_2 : decode b_P_copy 2 = .ok (.iload_n 2, 1) := by decide +kernel
theorem d_P_copy_3 : decode b_P_copy 3 = .ok (.invokevirtual 65, 3) := by decide +kernel
theorem d_P_copy_6 : decode b_P_copy 6 = .ok (.aload_n 0, 1) := by decide +kernel
theorem d_P_copy_7 : decode b_P_copy 7 = .ok (.getfield 12, 3) := by decide +kernel
theorem d_P_copy_10 : decode b_P_copy 10 = .ok (.iload_n 2, 1) := by decide +kernel
theorem d_P_copy_11 : decode b_P_copy 11 = .ok (.aload_n 0, 1) := by decide +kernel
theorem d_P_copy_12 : decode b_P_copy 12 = .ok (.getfield 33, 3) := by decide +kernel
theorem d_P_copy_15 : decode b_P_copy 15 = .ok (.invokevirtual 58, 3) := by decide +kernel
theorem d_P_copy_18 : decode b_P_copy 18 = .ok (.aload_n 0, 1) := by decide +kernel
theorem d_P_copy_19 : decode b_P_copy 19 = .ok (.iload_n 1, 1) := by decide +kernel
theorem d_P_copy_20 : decode b_P_copy 20 = .ok (.aload_n 0, 1) := by decide +kernel
theorem d_P_copy_21 : decode b_P_copy 21 = .ok (.getfield 33, 3) := by decide +kernel
theorem d_P_copy_24 : decode b_P_copy 24 = .ok (.invokevirtual 54, 3) := by decide +kernel
theorem d_P_copy_27 : decode b_P_copy 27 = .ok (.ireturn, 1) := by decide +kernel
theorem d_P_swap_0 : decode b_P_swap 0 = .ok (.aload_n 0, 1) := by decide +kernel
theorem d_P_swap_1 : decode b_P_swap 1 = .ok (.iload_n 1, 1) := by decide +kernel
theorem d_P_swap_2 : decode b_P_swap 2 = .ok (.iload_n 2, 1) := by decide +kernel
theorem d_P_swap_3 : decode b_P_swap 3 = .ok (.invokevirtual 65, 3) := by decide +kernel
theorem d_P_swap_6 : decode b_P_swap 6 = .ok (.aload_n 0, 1) := by decide +kernel
theorem d_P_swap_7 : decode b_P_swap 7 = .ok (.getfield 12, 3) := by decide +kernel
theorem d_P_swap_10 : decode b_P_swap 10 = .ok (.iload_n 1, 1) := by decide +kernel
theorem d_P_swap_11 : decode b_P_swap 11 = .ok (.iload_n 2, 1) := by decide +kernel
theorem d_P_swap_12 : decode b_P_swap 12 = .ok (.invokevirtual 69, 3) := by decide +kernel
theorem d_P_swap_15 : decode b_P_swap 15 = .ok (.aload_n 0, 1) := by decide +kernel
theorem d_P_swap_16 : decode b_P_swap 16 = .ok (.iload_n 1, 1) := by decide +kernel
theorem d_P_swap_17 : decode b_P_swap 17 = .ok (.invokevirtual 72, 3) := by decide +kernel
theorem d_P_swap_20 : decode b_P_swap 20 = .ok (.ireturn, 1) := by decide +kernel
theorem d_P_negate_0 : decode b_P_negate 0 = .ok (.aload_n 0, 1) := by decide +kernel
theorem d_P_negate_1 : decode b_P_negate 1 = .ok (.iload_n 1, 1) := by decide +kernel
theorem d_P_negate_2 : decode b_P_negate 2 = .ok (.invokevirtual 46, 3) := by decide +kernel
theorem d_P_negate_5 : decode b_P_negate 5 = .ok (.aload_n 0, 1) := by decide +kernel
theorem d_P_negate_6 : decode b_P_negate 6 = .ok (.getfield 12, 3) := by decide +kernel
theorem d_P_negate_9 : decode b_P_negate 9 = .ok (.iload_n 1, 1) := by decide +kernel
theorem d_P_negate_10 : decode b_P_negate 10 = .ok (.invokevirtual 76, 3) := by decide +kernel
theorem d_P_negate_13 : decode b_P_negate 13 = .ok (.aload_n 0, 1) := by decide +kernel
theorem d_P_negate_14 : decode b_P_negate 14 = .ok (.iload_n 1, 1) := by decide +kernel
theorem d_P_negate_15 : decode b_P_negate 15 = .ok (.invokevirtual 72, 3) := by decide +kernel
theorem d_P_negate_18 : decode b_P_negate 18 = .ok (.ireturn, 1) := by decide +kernel
theorem d_P_add_0 : decode b_P_add 0 = .ok (.aload_n 0, 1) := by decide +kernel
theorem d_P_add_1 : decode b_P_add 1 = .ok (.iload_n 1, 1) := by decide +kernel
theorem d_P_add_2 : decode b_P_add 2 = .ok (.iload_n 2, 1) := by decide +kernel
theorem d_P_add_3 : decode b_P_add 3 = .ok (.iload_n 3, 1) := by decide +kernel
theorem d_P_add_4 : decode b_P_add 4 = .ok (.iconst 0, 1) := by decide +kernel
theorem d_P_add_5 : decode b_P_add 5 = .ok (.invokevirtual 79, 3) := by decide +kernel
theorem d_P_add_8 : decode b_P_add 8 = .ok (.ireturn, 1) := by decide +kernel
theorem d_P_subtract_0 : decode b_P_subtract 0 = .ok (.aload_n 0, 1) := by decide +kernel
theorem d_P_subtract_1 : decode b_P_subtract 1 = .ok (.iload_n 1, 1) := by decide +kernel
theorem d_P_subtract_2 : decode b_P_subtract 2 = .ok (.iload_n 2, 1) := by decide +kernel
theorem d_P_subtract_3 : decode b_P_subtract 3 = .ok (.iload_n 3, 1) := by decide +kernel
theorem d_P_subtract_4 : decode b_P_subtract 4 = .ok (.iconst 1, 1) := by decide +kernel
theorem d_P_subtract_5 : decode b_P_subtract 5 = .ok (.invokevirtual 79, 3) := by decide +kernel
theorem d_P_subtract_8 : decode b_P_subtract 8 = .ok (.ireturn, 1) := by decide +kernel
theorem d_P_multiply_0 : decode b_P_multiply 0 = .ok (.aload_n 0, 1) := by decide +kernel
theorem d_P_multiply_1 : decode b_P_multiply 1 = .ok (.iload_n 1, 1) := by decide +kernel
theorem d_P_multiply_2 : decode b_P_multiply 2 = .ok (.invokevirtual 46, 3) := by decide +kernel
theorem d_P_multiply_5 : decode b_P_multiply 5 = .ok (.aload_n 0, 1) := by decide +kernel
theorem d_P_multiply_6 : decode b_P_multiply 6 = .ok (.iload_n 2, 1) := by decide +kernel
theorem d_P_multiply_7 : decode b_P_multiply 7 = .ok (.iload_n 3, 1) := by decide +kernel
theorem d_P_multiply_8 : decode b_P_multiply 8 = .ok (.invokevirtual 65, 3) := by decide +kernel
theorem d_P_multiply_11 : decode b_P_multiply 11 = .ok (.aload_n 0, 1) := by decide +kernel
theorem d_P_multiply_12 : decode b_P_multiply 12 = .ok (.iload_n 2, 1) := by decide +kernel
theorem d_P_multiply_13 : decode b_P_multiply 13 = .ok (.iload_n 3, 1) := by decide +kernel
theorem d_P_multiply_14 : decode b_P_multiply 14 = .ok (.invokevirtual 83, 3) := by decide +kernel
theorem d_P_multiply_17 : decode b_P_multiply 17 = .ok (.aload_n 0, 1) := by decide +kernel
theorem d_P_multiply_18 : decode b_P_multiply 18 = .ok (.aload_n 0, 1) := by decide +kernel
theorem d_P_multiply_19 : decode b_P_multiply 19 = .ok (.invokevirtual 86, 3) := by decide +kernel
theorem d_P_multiply_22 : decode b_P_multiply 22 = .ok (.invokevirtual 90, 3) := by decide +kernel
theorem d_P_multiply_25 : decode b_P_multiply 25 = .ok (.aload_n 0, 1) := by decide +kernel
theorem d_P_multiply_26 : decode b_P_multiply 26 = .ok (.getfield 40, 3) := by decide +kernel
theorem d_P_multiply_29 : decode b_P_multiply 29 = .ok (.aload_n 0, 1) := by decide +kernel
theorem d_P_multiply_30 : decode b_P_multiply 30 = .ok (.getfield 33, 3) := by decide +kernel
theorem d_P_multiply_33 : decode b_P_multiply 33 = .ok (.aload_n 0, 1) := by decide +kernel
theorem d_P_multiply_34 : decode b_P_multiply 34 = .ok (.getfield 37, 3) := by decide +kernel
theorem d_P_multiply_37 : decode b_P_multiply 37 = .ok (.invokevirtual 93, 3) := by decide +kernel
theorem d_P_multiply_40 : decode b_P_multiply 40 = .ok (.aload_n 0, 1) := by decide +kernel
theorem d_P_multiply_41 : decode b_P_multiply 41 = .ok (.iload_n 1, 1) := by decide +kernel
theorem d_P_multiply_42 : decode b_P_multiply 42 = .ok (.aload_n 0, 1) := by decide +kernel
theorem d_P_multiply_43 : decode b_P_multiply 43 = .ok (.getfield 40, 3) := by decide +kernel
theorem d_P_multiply_46 : decode b_P_multiply 46 = .ok (.invokevirtual 54, 3) := by decide +kernel
theorem d_P_multiply_49 : decode b_P_multiply 49 = .ok (.ireturn, 1) := by decide +kernel
theorem d_P_addProduct_0 : decode b_P_addProduct 0 = .ok (.aload_n 0, 1) := by decide +kernel
theorem d_P_addProduct_1 : decode b_P_addProduct 1 = .ok (.iload_n 1, 1) := by decide +kernel
theorem d_P_addProduct_2 : decode b_P_addProduct 2 = .ok (.invokevirtual 46, 3) := by decide +kernel
theorem d_P_addProduct_5 : decode b_P_addProduct 5 = .ok (.aload_n 0, 1) := by decide +kernel
theorem d_P_addProduct_6 : decode b_P_addProduct 6 = .ok (.iload_n 2, 1) := by decide +kernel
theorem d_P_addProduct_7 : decode b_P_addProduct 7 = .ok (.iload_n 3, 1) := by decide +kernel
theorem d_P_addProduct_8 : decode b_P_addProduct 8 = .ok (.invokevirtual 65, 3) := by decide +kernel
theorem d_P_addProduct_11 : decode b_P_addProduct 11 = .ok (.aload_n 0, 1) := by decide +kernel
theorem d_P_addProduct_12 : decode b_P_addProduct 12 = .ok (.iload_n 2, 1) := by decide +kernel
theorem d_P_addProduct_13 : decode b_P_addProduct 13 = .ok (.iload_n 3, 1) := by decide +kernel
theorem d_P_addProduct_14 : decode b_P_addProduct 14 = .ok (.invokevirtual 83, 3) := by decide +kernel
theorem d_P_addProduct_17 : decode b_P_addProduct 17 = .ok (.aload_n 0, 1) := by decide +kernel
theorem d_P_addProduct_18 : decode b_P_addProduct 18 = .ok (.aload_n 0, 1) := by decide +kernel
theorem d_P_addProduct_19 : decode b_P_addProduct 19 = .ok (.invokevirtual 86, 3) := by decide +kernel
theorem d_P_addProduct_22 : decode b_P_addProduct 22 = .ok (.iconst 1, 1) := by decide +kernel
theorem d_P_addProduct_23 : decode b_P_addProduct 23 = .ok (.isub, 1) := by decide +kernel
theorem d_P_addProduct_24 : decode b_P_addProduct 24 = .ok (.invokevirtual 90, 3) := by decide +kernel
theorem d_P_addProduct_27 : decode b_P_addProduct 27 = .ok (.aload_n 0, 1) := by decide +kernel
theorem d_P_addProduct_28 : decode b_P_addProduct 28 = .ok (.getfield 40, 3) := by decide +kernel
theorem d_P_addProduct_31 : decode b_P_addProduct 31 = .ok (.aload_n 0, 1) := by decide +kernel
theorem d_P_addProduct_32 : decode b_P_addProduct 32 = .ok (.getfield 33, 3) := by decide +kernel
theorem d_P_addProduct_35 : decode b_P_addProduct 35 = .ok (.aload_n 0, 1) := by decide +kernel
theorem d_P_addProduct_36 : decode b_P_addProduct 36 = .ok (.getfield 37, 3) := by decide +kernel
theorem d_P_addProduct_39 : decode b_P_addProduct 39 = .ok (.invokevirtual 93, 3) := by decide +kernel
theorem d_P_addProduct_42 : decode b_P_addProduct 42 = .ok (.aload_n 0, 1) := by decide +kernel
theorem d_P_addProduct_43 : decode b_P_addProduct 43 = .ok (.getfield 12, 3) := by decide +kernel
theorem d_P_addProduct_46 : decode b_P_addProduct 46 = .ok (.iload_n 1, 1) := by decide +kernel
theorem d_P_addProduct_47 : decode b_P_addProduct 47 = .ok (.aload_n 0, 1) := by decide +kernel
theorem d_P_addProduct_48 : decode b_P_addProduct 48 = .ok (.getfield 33, 3) := by decide +kernel
theorem d_P_addProduct_51 : decode b_P_addProduct 51 = .ok (.invokevirtual 58, 3) := by decide +kernel
theorem d_P_addProduct_54 : decode b_P_addProduct 54 = .ok (.aload_n 0, 1) := by decide +kernel
theorem d_P_addProduct_55 : decode b_P_addProduct 55 = .ok (.getfield 43, 3) := by decide +kernel
theorem d_P_addProduct_58 : decode b_P_addProduct 58 = .ok (.aload_n 0, 1) := by decide +kernel
theorem d_P_addProduct_59 : decode b_P_addProduct 59 = .ok (.getfield 33, 3) := by decide +kernel
theorem d_P_addProduct_62 : decode b_P_addProduct 62 = .ok (.aload_n 0, 1) := by decide +kernel
theorem d_P_addProduct_63 : decode b_P_addProduct 63 = .ok (.getfield 40, 3) := by decide +kernel
theorem d_P_addProduct_66 : decode b_P_addProduct 66 = .ok (.iload 4, 2) := by decide +kernel
theorem d_P_addProduct_68 : decode b_P_addProduct 68 = .ok (.invokevirtual 97, 3) := by decide +kernel
theorem d_P_addProduct_71 : decode b_P_addProduct 71 = .ok (.aload_n 0, 1) := by decide +kernel
theorem d_P_addProduct_72 : decode b_P_addProduct 72 = .ok (.iload_n 1, 1) := by decide +kernel
theorem d_P_addProduct_73 : decode b_P_addProduct 73 = .ok (.aload_n 0, 1) := by decide +kernel
theorem d_P_addProduct_74 : decode b_P_addProduct 74 = .ok (.getfield 43, 3) := by decide +kernel
theorem d_P_addProduct_77 : decode b_P_addProduct 77 = .ok (.invokevirtual 54, 3) := by decide +kernel
theorem d_P_addProduct_80 : decode b_P_addProduct 80 = .ok (.ireturn, 1) := by decide +kernel
theorem d_P_divide_0 : decode b_P_divide 0 = .ok (.aload_n 0, 1) := by decide +kernel
theorem d_P_divide_1 : decode b_P_divide 1 = .ok (.iload_n 1, 1) := by decide +kernel
theorem d_P_divide_2 : decode b_P_divide 2 = .ok (.iload_n 2, 1) := by decide +kernel
theorem d_P_divide_3 : decode b_P_divide 3 = .ok (.invokevirtual 65, 3) := by decide +kernel
theorem d_P_divide_6 : decode b_P_divide 6 = .ok (.aload_n 0, 1) := by decide +kernel
theorem d_P_divide_7 : decode b_P_divide 7 = .ok (.iload_n 3, 1) := by decide +kernel
theorem d_P_divide_8 : decode b_P_divide 8 = .ok (.iload 4, 2) := by decide +kernel
theorem d_P_divide_10 : decode b_P_divide 10 = .ok (.invokevirtual 65, 3) := by decide +kernel
theorem d_P_divide_13 : decode b_P_divide 13 = .ok (.iload_n 1, 1) := by decide +kernel
theorem d_P_divide_14 : decode b_P_divide 14 = .ok (.iload_n 2, 1) := by decide +kernel
theorem d_P_divide_15 : decode b_P_divide 15 = .ok (.if_icmp .ne 13, 3) := by decide +kernel
theorem d_P_divide_18 : decode b_P_divide 18 = .ok (.new 101, 3) := by decide +kernel
theorem d_P_divide_21 : decode b_P_divide 21 = .ok (.dup, 1) := by decide +kernel
theorem d_P_divide_22 : decode b_P_divide 22 = .ok (.ldc 103, 2) := by decide +kernel
theorem d_P_divide_24 : decode b_P_divide 24 = .ok (.invokespecial 105, 3) := by decide +kernel
theorem d_P_divide_27 : decode b_P_divide 27 = .ok (.athrow, 1) := by decide +kernel
theorem d_P_divide_28 : decode b_P_divide 28 = .ok (.aload_n 0, 1) := by decide +kernel
theorem d_P_divide_29 : decode b_P_divide 29 = .ok (.iload_n 3, 1) := by decide +kernel
theorem d_P_divide_30 : decode b_P_divide 30 = .ok (.iload 4, 2) := by decide +kernel
theorem d_P_divide_32 : decode b_P_divide 32 = .ok (.invokevirtual 83, 3) := by decide +kernel
theorem d_P_divide_35 : decode b_P_divide 35 = .ok (.aload_n 0, 1) := by decide +kernel
theorem d_P_divide_36 : decode b_P_divide 36 = .ok (.invokevirtual 108, 3) := by decide +kernel
theorem d_P_divide_39 : decode b_P_divide 39 = .ok (.aload_n 0, 1) := by decide +kernel
theorem d_P_divide_40 : decode b_P_divide 40 = .ok (.getfield 33, 3) := by decide +kernel
theorem d_P_divide_43 : decode b_P_divide 43 = .ok (.getfield 111, 3) := by decide +kernel
theorem d_P_divide_46 : decode b_P_divide 46 = .ok (.istore 5, 2) := by decide +kernel
theorem d_P_divide_48 : decode b_P_divide 48 = .ok (.aload_n 0, 1) := by decide +kernel
theorem d_P_divide_49 : decode b_P_divide 49 = .ok (.getfield 33, 3) := by decide +kernel
theorem d_P_divide_52 : decode b_P_divide 52 = .ok (.aload_n 0, 1) := by decide +kernel
theorem d_P_divide_53 : decode b_P_divide 53 = .ok (.getfield 37, 3) := by decide +kernel
theorem d_P_divide_56 : decode b_P_divide 56 = .ok (.aload_n 0, 1) := by decide +kernel
theorem d_P_divide_57 : decode b_P_divide 57 = .ok (.getfield 40, 3) := by decide +kernel
theorem d_P_divide_60 : decode b_P_divide 60 = .ok (.invokestatic 115, 3) := by decide +kernel
theorem d_P_divide_63 : decode b_P_divide 63 = .ok (.iload 5, 2) := by decide +kernel
theorem d_P_divide_65 : decode b_P_divide 65 = .ok (.ifCond .eq 38, 3) := by decide +kernel
theorem d_P_divide_68 : decode b_P_divide 68 = .ok (.aload_n 0, 1) := by decide +kernel
theorem d_P_divide_69 : decode b_P_divide 69 = .ok (.getfield 33, 3) := by decide +kernel
theorem d_P_divide_72 : decode b_P_divide 72 = .ok (.getfield 121, 3) := by decide +kernel
theorem d_P_divide_75 : decode b_P_divide 75 = .ok (.ifCond .le 28, 3) := by decide +kernel
theorem d_P_divide_78 : decode b_P_divide 78 = .ok (.aload_n 0, 1) := by decide +kernel
theorem d_P_divide_79 : decode b_P_divide 79 = .ok (.getfield 40, 3) := by decide +kernel
theorem d_P_divide_82 : decode b_P_divide 82 = .ok (.invokevirtual 125, 3) := by decide +kernel
theorem d_P_divide_85 : decode b_P_divide 85 = .ok (.aload_n 0, 1) := by decide +kernel
theorem d_P_divide_86 : decode b_P_divide 86 = .ok (.getfield 43, 3) := by decide +kernel
theorem d_P_divide_89 : decode b_P_divide 89 = .ok (.aload_n 0, 1) := by decide +kernel
theorem d_P_divide_90 : decode b_P_divide 90 = .ok (.getfield 37, 3) := by decide +kernel
theorem d_P_divide_93 : decode b_P_divide 93 = .ok (.aload_n 0, 1) := by decide +kernel
theorem d_P_divide_94 : decode b_P_divide 94 = .ok (.getfield 33, 3) := by decide +kernel
theorem d_P_divide_97 : decode b_P_divide 97 = .ok (.invokevirtual 128, 3) := by decide +kernel
theorem d_P_divide_100 : decode b_P_divide 100 = .ok (.goto 14, 3) := by decide +kernel
theorem d_P_divide_103 : decode b_P_divide 103 = .ok (.aload_n 0, 1) := by decide +kernel
theorem d_P_divide_104 : decode b_P_divide 104 = .ok (.getfield 43, 3) := by decide +kernel
theorem d_P_divide_107 : decode b_P_divide 107 = .ok (.aload_n 0, 1) := by decide +kernel
theorem d_P_divide_108 : decode b_P_divide 108 = .ok (.getfield 33, 3) := by decide +kernel
theorem d_P_divide_111 : decode b_P_divide 111 = .ok (.invokevirtual 131, 3) := by decide +kernel
theorem d_P_divide_114 : decode b_P_divide 114 = .ok (.aload_n 0, 1) := by decide +kernel
theorem d_P_divide_115 : decode b_P_divide 115 = .ok (.getfield 40, 3) := by decide +kernel
theorem d_P_divide_118 : decode b_P_divide 118 = .ok (.iload 5, 2) := by decide +kernel
theorem d_P_divide_120 : decode b_P_divide 120 = .ok (.invokevirtual 135, 3) := by decide +kernel
theorem d_P_divide_123 : decode b_P_divide 123 = .ok (.aload_n 0, 1) := by decide +kernel
theorem d_P_divide_124 : decode b_P_divide 124 = .ok (.iload_n 2, 1) := by decide +kernel
theorem d_P_divide_125 : decode b_P_divide 125 = .ok (.aload_n 0, 1) := by decide +kernel
theorem d_P_divide_126 : decode b_P_divide 126 = .ok (.getfield 43, 3) := by decide +kernel
theorem d_P_divide_129 : decode b_P_divide 129 = .ok (.invokevirtual 54, 3) := by decide +kernel
theorem d_P_divide_132 : decode b_P_divide 132 = .ok (.pop, 1) := by decide +kernel
theorem d_P_divide_133 : decode b_P_divide 133 = .ok (.aload_n 0, 1) := by decide +kernel
theorem d_P_divide_134 : decode b_P_divide 134 = .ok (.iload_n 1, 1) := by decide +kernel
theorem d_P_divide_135 : decode b_P_divide 135 = .ok (.aload_n 0, 1) := by decide +kernel
theorem d_P_divide_136 : decode b_P_divide 136 = .ok (.getfield 40, 3) := by decide +kernel
theorem d_P_divide_139 : decode b_P_divide 139 = .ok (.invokevirtual 54, 3) := by decide +kernel
theorem d_P_divide_142 : decode b_P_divide 142 = .ok (.ireturn, 1) := by decide +kernel
theorem d_P_exact_0 : decode b_P_exact 0 = .ok (.aload_n 0, 1) := by decide +kernel
theorem d_P_exact_1 : decode b_P_exact 1 = .ok (.iload_n 1, 1) := by decide +kernel
theorem d_P_exact_2 : decode b_P_exact 2 = .ok (.invokevirtual 46, 3) := by decide +kernel
theorem d_P_exact_5 : decode b_P_exact 5 = .ok (.aload_n 0, 1) := by decide +kernel
theorem d_P_exact_6 : decode b_P_exact 6 = .ok (.iload_n 2, 1) := by decide +kernel
theorem d_P_exact_7 : decode b_P_exact 7 = .ok (.iload_n 3, 1) := by decide +kernel
theorem d_P_exact_8 : decode b_P_exact 8 = .ok (.invokevirtual 65, 3) := by decide +kernel
theorem d_P_exact_11 : decode b_P_exact 11 = .ok (.aload_n 0, 1) := by decide +kernel
theorem d_P_exact_12 : decode b_P_exact 12 = .ok (.iload_n 2, 1) := by decide +kernel
theorem d_P_exact_13 : decode b_P_exact 13 = .ok (.iload_n 3, 1) := by decide +kernel
theorem d_P_exact_14 : decode b_P_exact 14 = .ok (.invokevirtual 83, 3) := by decide +kernel
theorem d_P_exact_17 : decode b_P_exact 17 = .ok (.aload_n 0, 1) := by decide +kernel
theorem d_P_exact_18 : decode b_P_exact 18 = .ok (.getfield 37, 3) := by decide +kernel
theorem d_P_exact_21 : decode b_P_exact 21 = .ok (.getfield 121, 3) := by decide +kernel
theorem d_P_exact_24 : decode b_P_exact 24 = .ok (.ifCond .ne 13, 3) := by decide +kernel
theorem d_P_exact_27 : decode b_P_exact 27 = .ok (.new 139, 3) := by decide +kernel
theorem d_P_exact_30 : decode b_P_exact 30 = .ok (.dup, 1) := by decide +kernel
theorem d_P_exact_31 : decode b_P_exact 31 = .ok (.ldc 141, 2) := by decide +kernel
theorem d_P_exact_33 : decode b_P_exact 33 = .ok (.invokespecial 143, 3) := by decide +kernel
theorem d_P_exact_36 : decode b_P_exact 36 = .ok (.athrow, 1) := by decide +kernel
theorem d_P_exact_37 : decode b_P_exact 37 = .ok (.aload_n 0, 1) := by decide +kernel
theorem d_P_exact_38 : decode b_P_exact 38 = .ok (.getfield 33, 3) := by decide +kernel
theorem d_P_exact_41 : decode b_P_exact 41 = .ok (.getfield 111, 3) := by decide +kernel
theorem d_P_exact_44 : decode b_P_exact 44 = .ok (.aload_n 0, 1) := by decide +kernel
theorem d_P_exact_45 : decode b_P_exact 45 = .ok (.getfield 37, 3) := by decide +kernel
theorem d_P_exact_48 : decode b_P_exact 48 = .ok (.getfield 111, 3) := by decide +kernel
theorem d_P_exact_51 : decode b_P_exact 51 = .ok (.if_icmp .eq 7, 3) := by decide +kernel
theorem d_P_exact_54 : decode b_P_exact 54 = .ok (.iconst 1, 1) := by decide +kernel
theorem d_P_exact_55 : decode b_P_exact 55 = .ok (.goto 4, 3) := by decide +kernel
theorem d_P_exact_58 : decode b_P_exact 58 = .ok (.iconst 0, 1) := by decide +kernel
theorem d_P_exact_59 : decode b_P_exact 59 = .ok (.istore 4, 2) := by decide +kernel
theorem d_P_exact_61 : decode b_P_exact 61 = .ok (.aload_n 0, 1) := by decide +kernel
theorem d_P_exact_62 : decode b_P_exact 62 = .ok (.getfield 33, 3) := by decide +kernel
theorem d_P_exact_65 : decode b_P_exact 65 = .ok (.aload_n 0, 1) := by decide +kernel
theorem d_P_exact_66 : decode b_P_exact 66 = .ok (.getfield 37, 3) := by decide +kernel
theorem d_P_exact_69 : decode b_P_exact 69 = .ok (.aload_n 0, 1) := by decide +kernel
theorem d_P_exact_70 : decode b_P_exact 70 = .ok (.getfield 40, 3) := by decide +kernel
theorem d_P_exact_73 : decode b_P_exact 73 = .ok (.invokestatic 115, 3) := by decide +kernel
theorem d_P_exact_76 : decode b_P_exact 76 = .ok (.aload_n 0, 1) := by decide +kernel
theorem d_P_exact_77 : decode b_P_exact 77 = .ok (.getfield 33, 3) := by decide +kernel
theorem d_P_exact_80 : decode b_P_exact 80 = .ok (.getfield 121, 3) := by decide +kernel
theorem d_P_exact_83 : decode b_P_exact 83 = .ok (.ifCond .le 13, 3) := by decide +kernel
theorem d_P_exact_86 : decode b_P_exact 86 = .ok (.new 139, 3) := by decide +kernel
theorem d_P_exact_89 : decode b_P_exact 89 = .ok (.dup, 1) := by decide +kernel
theorem d_P_exact_90 : decode b_P_exact 90 = .ok (.ldc 144, 2) := by decide +kernel
theorem d_P_exact_92 : decode b_P_exact 92 = .ok (.invokespecial 143, 3) := by decide +kernel
theorem d_P_exact_95 : decode b_P_exact 95 = .ok (.athrow, 1) := by decide +kernel
theorem d_P_exact_96 : decode b_P_exact 96 = .ok (.aload_n 0, 1) := by decide +kernel
theorem d_P_exact_97 : decode b_P_exact 97 = .ok (.getfield 40, 3) := by decide +kernel
theorem d_P_exact_100 : decode b_P_exact 100 = .ok (.iload 4, 2) := by decide +kernel
theorem d_P_exact_102 : decode b_P_exact 102 = .ok (.invokevirtual 135, 3) := by decide +kernel
theorem d_P_exact_105 : decode b_P_exact 105 = .ok (.aload_n 0, 1) := by decide +kernel
theorem d_P_exact_106 : decode b_P_exact 106 = .ok (.iload_n 1, 1) := by decide +kernel
theorem d_P_exact_107 : decode b_P_exact 107 = .ok (.aload_n 0, 1) := by decide +kernel
theorem d_P_exact_108 : decode b_P_exact 108 = .ok (.getfield 40, 3) := by decide +kernel
theorem d_P_exact_111 : decode b_P_exact 111 = .ok (.invokevirtual 54, 3) := by decide +kernel
theorem d_P_exact_114 : decode b_P_exact 114 = .ok (.ireturn, 1) := by decide +kernel
theorem d_P_nearest_0 : decode b_P_nearest 0 = .ok (.aload_n 0, 1) := by decide +kernel
theorem d_P_nearest_1 : decode b_P_nearest 1 = .ok (.iload_n 1, 1) := by decide +kernel
theorem d_P_nearest_2 : decode b_P_nearest 2 = .ok (.invokevirtual 46, 3) := by decide +kernel
theorem d_P_nearest_5 : decode b_P_nearest 5 = .ok (.aload_n 0, 1) := by decide +kernel
theorem d_P_nearest_6 : decode b_P_nearest 6 = .ok (.iload_n 2, 1) := by decide +kernel
theorem d_P_nearest_7 : decode b_P_nearest 7 = .ok (.iload_n 3, 1) := by decide +kernel
theorem d_P_nearest_8 : decode b_P_nearest 8 = .ok (.invokevirtual 65, 3) := by decide +kernel
theorem d_P_nearest_11 : decode b_P_nearest 11 = .ok (.aload_n 0, 1) := by decide +kernel
theorem d_P_nearest_12 : decode b_P_nearest 12 = .ok (.iload_n 2, 1) := by decide +kernel
theorem d_P_nearest_13 : decode b_P_nearest 13 = .ok (.iload_n 3, 1) := by decide +kernel
theorem d_P_nearest_14 : decode b_P_nearest 14 = .ok (.invokevirtual 83, 3) := by decide +kernel
theorem d_P_nearest_17 : decode b_P_nearest 17 = .ok (.aload_n 0, 1) := by decide +kernel
theorem d_P_nearest_18 : decode b_P_nearest 18 = .ok (.invokevirtual 108, 3) := by decide +kernel
theorem d_P_nearest_21 : decode b_P_nearest 21 = .ok (.aload_n 0, 1) := by decide +kernel
theorem d_P_nearest_22 : decode b_P_nearest 22 = .ok (.getfield 33, 3) := by decide +kernel
theorem d_P_nearest_25 : decode b_P_nearest 25 = .ok (.getfield 111, 3) := by decide +kernel
theorem d_P_nearest_28 : decode b_P_nearest 28 = .ok (.istore 4, 2) := by decide +kernel
theorem d_P_nearest_30 : decode b_P_nearest 30 = .ok (.aload_n 0, 1) := by decide +kernel
theorem d_P_nearest_31 : decode b_P_nearest 31 = .ok (.getfield 33, 3) := by decide +kernel
theorem d_P_nearest_34 : decode b_P_nearest 34 = .ok (.aload_n 0, 1) := by decide +kernel
theorem d_P_nearest_35 : decode b_P_nearest 35 = .ok (.getfield 37, 3) := by decide +kernel
theorem d_P_nearest_38 : decode b_P_nearest 38 = .ok (.aload_n 0, 1) := by decide +kernel
theorem d_P_nearest_39 : decode b_P_nearest 39 = .ok (.getfield 40, 3) := by decide +kernel
theorem d_P_nearest_42 : decode b_P_nearest 42 = .ok (.invokestatic 115, 3) := by decide +kernel
theorem d_P_nearest_45 : decode b_P_nearest 45 = .ok (.aload_n 0, 1) := by decide +kernel
theorem d_P_nearest_46 : decode b_P_nearest 46 = .ok (.getfield 43, 3) := by decide +kernel
theorem d_P_nearest_49 : decode b_P_nearest 49 = .ok (.aload_n 0, 1) := by decide +kernel
theorem d_P_nearest_50 : decode b_P_nearest 50 = .ok (.getfield 33, 3) := by decide +kernel
theorem d_P_nearest_53 : decode b_P_nearest 53 = .ok (.aload_n 0, 1) := by decide +kernel
theorem d_P_nearest_54 : decode b_P_nearest 54 = .ok (.getfield 33, 3) := by decide +kernel
theorem d_P_nearest_57 : decode b_P_nearest 57 = .ok (.invokevirtual 146, 3) := by decide +kernel
theorem d_P_nearest_60 : decode b_P_nearest 60 = .ok (.aload_n 0, 1) := by decide +kernel
theorem d_P_nearest_61 : decode b_P_nearest 61 = .ok (.getfield 43, 3) := by decide +kernel
theorem d_P_nearest_64 : decode b_P_nearest 64 = .ok (.aload_n 0, 1) := by decide +kernel
theorem d_P_nearest_65 : decode b_P_nearest 65 = .ok (.getfield 37, 3) := by decide +kernel
theorem d_P_nearest_68 : decode b_P_nearest 68 = .ok (.invokevirtual 149, 3) := by decide +kernel
theorem d_P_nearest_71 : decode b_P_nearest 71 = .ok (.istore 5, 2) := by decide +kernel
theorem d_P_nearest_73 : decode b_P_nearest 73 = .ok (.iload 5, 2) := by decide +kernel
theorem d_P_nearest_75 : decode b_P_nearest 75 = .ok (.ifCond .gt 18, 3) := by decide +kernel
theorem d_P_nearest_78 : decode b_P_nearest 78 = .ok (.iload 5, 2) := by decide +kernel
theorem d_P_nearest_80 : decode b_P_nearest 80 = .ok (.ifCond .ne 20, 3) := by decide +kernel
theorem d_P_nearest_83 : decode b_P_nearest 83 = .ok (.aload_n 0, 1) := by decide +kernel
theorem d_P_nearest_84 : decode b_P_nearest 84 = .ok (.getfield 40, 3) := by decide +kernel
theorem d_P_nearest_87 : decode b_P_nearest 87 = .ok (.invokevirtual 153, 3) := by decide +kernel
theorem d_P_nearest_90 : decode b_P_nearest 90 = .ok (.ifCond .eq 10, 3) := by decide +kernel
theorem d_P_nearest_93 : decode b_P_nearest 93 = .ok (.aload_n 0, 1) := by decide +kernel
theorem d_P_nearest_94 : decode b_P_nearest 94 = .ok (.getfield 40, 3) := by decide +kernel
theorem d_P_nearest_97 : decode b_P_nearest 97 = .ok (.invokevirtual 125, 3) := by decide +kernel
theorem d_P_nearest_100 : decode b_P_nearest 100 = .ok (.aload_n 0, 1) := by decide +kernel
theorem d_P_nearest_101 : decode b_P_nearest 101 = .ok (.getfield 40, 3) := by decide +kernel
theorem d_P_nearest_104 : decode b_P_nearest 104 = .ok (.iload 4, 2) := by decide +kernel
theorem d_P_nearest_106 : decode b_P_nearest 106 = .ok (.invokevirtual 135, 3) := by decide +kernel
theorem d_P_nearest_109 : decode b_P_nearest 109 = .ok (.aload_n 0, 1) := by decide +kernel
theorem d_P_nearest_110 : decode b_P_nearest 110 = .ok (.iload_n 1, 1) := by decide +kernel
theorem d_P_nearest_111 : decode b_P_nearest 111 = .ok (.aload_n 0, 1) := by decide +kernel
theorem d_P_nearest_112 : decode b_P_nearest 112 = .ok (.getfield 40, 3) := by decide +kernel
theorem d_P_nearest_115 : decode b_P_nearest 115 = .ok (.invokevirtual 54, 3) := by decide +kernel
theorem d_P_nearest_118 : decode b_P_nearest 118 = .ok (.ireturn, 1) := by decide +kernel
theorem d_P_gcd_0 : decode b_P_gcd 0 = .ok (.aload_n 0, 1) := by decide +kernel
theorem d_P_gcd_1 : decode b_P_gcd 1 = .ok (.iload_n 1, 1) := by decide +kernel
theorem d_P_gcd_2 : decode b_P_gcd 2 = .ok (.invokevirtual 46, 3) := by decide +kernel
theorem d_P_gcd_5 : decode b_P_gcd 5 = .ok (.aload_n 0, 1) := by decide +kernel
theorem d_P_gcd_6 : decode b_P_gcd 6 = .ok (.iload_n 2, 1) := by decide +kernel
theorem d_P_gcd_7 : decode b_P_gcd 7 = .ok (.iload_n 3, 1) := by decide +kernel
theorem d_P_gcd_8 : decode b_P_gcd 8 = .ok (.invokevirtual 65, 3) := by decide +kernel
theorem d_P_gcd_11 : decode b_P_gcd 11 = .ok (.aload_n 0, 1) := by decide +kernel
theorem d_P_gcd_12 : decode b_P_gcd 12 = .ok (.iload_n 2, 1) := by decide +kernel
theorem d_P_gcd_13 : decode b_P_gcd 13 = .ok (.iload_n 3, 1) := by decide +kernel
theorem d_P_gcd_14 : decode b_P_gcd 14 = .ok (.invokevirtual 83, 3) := by decide +kernel
theorem d_P_gcd_17 : decode b_P_gcd 17 = .ok (.aload_n 0, 1) := by decide +kernel
theorem d_P_gcd_18 : decode b_P_gcd 18 = .ok (.iload_n 1, 1) := by decide +kernel
theorem d_P_gcd_19 : decode b_P_gcd 19 = .ok (.aload_n 0, 1) := by decide +kernel
theorem d_P_gcd_20 : decode b_P_gcd 20 = .ok (.getfield 19, 3) := by decide +kernel
theorem d_P_gcd_23 : decode b_P_gcd 23 = .ok (.aload_n 0, 1) := by decide +kernel
theorem d_P_gcd_24 : decode b_P_gcd 24 = .ok (.getfield 33, 3) := by decide +kernel
theorem d_P_gcd_27 : decode b_P_gcd 27 = .ok (.aload_n 0, 1) := by decide +kernel
theorem d_P_gcd_28 : decode b_P_gcd 28 = .ok (.getfield 37, 3) := by decide +kernel
theorem d_P_gcd_31 : decode b_P_gcd 31 = .ok (.aload_n 0, 1) := by decide +kernel
theorem d_P_gcd_32 : decode b_P_gcd 32 = .ok (.getfield 40, 3) := by decide +kernel
theorem d_P_gcd_35 : decode b_P_gcd 35 = .ok (.invokevirtual 157, 3) := by decide +kernel
theorem d_P_gcd_38 : decode b_P_gcd 38 = .ok (.invokevirtual 54, 3) := by decide +kernel
theorem d_P_gcd_41 : decode b_P_gcd 41 = .ok (.ireturn, 1) := by decide +kernel
theorem d_P_compare_0 : decode b_P_compare 0 = .ok (.aload_n 0, 1) := by decide +kernel
theorem d_P_compare_1 : decode b_P_compare 1 = .ok (.iload_n 1, 1) := by decide +kernel
theorem d_P_compare_2 : decode b_P_compare 2 = .ok (.iload_n 2, 1) := by decide +kernel
theorem d_P_compare_3 : decode b_P_compare 3 = .ok (.invokevirtual 65, 3) := by decide +kernel
theorem d_P_compare_6 : decode b_P_compare 6 = .ok (.aload_n 0, 1) := by decide +kernel
theorem d_P_compare_7 : decode b_P_compare 7 = .ok (.iload_n 1, 1) := by decide +kernel
theorem d_P_compare_8 : decode b_P_compare 8 = .ok (.iload_n 2, 1) := by decide +kernel
theorem d_P_compare_9 : decode b_P_compare 9 = .ok (.invokevirtual 83, 3) := by decide +kernel
theorem d_P_compare_12 : decode b_P_compare 12 = .ok (.aload_n 0, 1) := by decide +kernel
theorem d_P_compare_13 : decode b_P_compare 13 = .ok (.getfield 33, 3) := by decide +kernel
theorem d_P_compare_16 : decode b_P_compare 16 = .ok (.getfield 111, 3) := by decide +kernel
theorem d_P_compare_19 : decode b_P_compare 19 = .ok (.aload_n 0, 1) := by decide +kernel
theorem d_P_compare_20 : decode b_P_compare 20 = .ok (.getfield 37, 3) := by decide +kernel
theorem d_P_compare_23 : decode b_P_compare 23 = .ok (.getfield 111, 3) := by decide +kernel
theorem d_P_compare_26 : decode b_P_compare 26 = .ok (.if_icmp .eq 19, 3) := by decide +kernel
theorem d_P_compare_29 : decode b_P_compare 29 = .ok (.aload_n 0, 1) := by decide +kernel
theorem d_P_compare_30 : decode b_P_compare 30 = .ok (.getfield 33, 3) := by decide +kernel
theorem d_P_compare_33 : decode b_P_compare 33 = .ok (.getfield 111, 3) := by decide +kernel
theorem d_P_compare_36 : decode b_P_compare 36 = .ok (.ifCond .eq 7, 3) := by decide +kernel
theorem d_P_compare_39 : decode b_P_compare 39 = .ok (.iconst (-1), 1) := by decide +kernel
theorem d_P_compare_40 : decode b_P_compare 40 = .ok (.goto 4, 3) := by decide +kernel
theorem d_P_compare_43 : decode b_P_compare 43 = .ok (.iconst 1, 1) := by decide +kernel
theorem d_P_compare_44 : decode b_P_compare 44 = .ok (.ireturn, 1) := by decide +kernel
theorem d_P_compare_45 : decode b_P_compare 45 = .ok (.aload_n 0, 1) := by decide +kernel
theorem d_P_compare_46 : decode b_P_compare 46 = .ok (.getfield 33, 3) := by decide +kernel
theorem d_P_compare_49 : decode b_P_compare 49 = .ok (.aload_n 0, 1) := by decide +kernel
theorem d_P_compare_50 : decode b_P_compare 50 = .ok (.getfield 37, 3) := by decide +kernel
theorem d_P_compare_53 : decode b_P_compare 53 = .ok (.invokevirtual 149, 3) := by decide +kernel
theorem d_P_compare_56 : decode b_P_compare 56 = .ok (.istore_n 3, 1) := by decide +kernel
theorem d_P_compare_57 : decode b_P_compare 57 = .ok (.aload_n 0, 1) := by decide +kernel
theorem d_P_compare_58 : decode b_P_compare 58 = .ok (.getfield 33, 3) := by decide +kernel
theorem d_P_compare_61 : decode b_P_compare 61 = .ok (.getfield 111, 3) := by decide +kernel
theorem d_P_compare_64 : decode b_P_compare 64 = .ok (.ifCond .eq 8, 3) := by decide +kernel
theorem d_P_compare_67 : decode b_P_compare 67 = .ok (.iload_n 3, 1) := by decide +kernel
theorem d_P_compare_68 : decode b_P_compare 68 = .ok (.ineg, 1) := by decide +kernel
theorem d_P_compare_69 : decode b_P_compare 69 = .ok (.goto 4, 3) := by decide +kernel
theorem d_P_compare_72 : decode b_P_compare 72 = .ok (.iload_n 3, 1) := by decide +kernel
theorem d_P_compare_73 : decode b_P_compare 73 = .ok (.ireturn, 1) := by decide +kernel
theorem d_P_sign_0 : decode b_P_sign 0 = .ok (.aload_n 0, 1) := by decide +kernel
theorem d_P_sign_1 : decode b_P_sign 1 = .ok (.iload_n 1, 1) := by decide +kernel
theorem d_P_sign_2 : decode b_P_sign 2 = .ok (.invokevirtual 46, 3) := by decide +kernel
theorem d_P_sign_5 : decode b_P_sign 5 = .ok (.aload_n 0, 1) := by decide +kernel
theorem d_P_sign_6 : decode b_P_sign 6 = .ok (.getfield 12, 3) := by decide +kernel
theorem d_P_sign_9 : decode b_P_sign 9 = .ok (.iload_n 1, 1) := by decide +kernel
theorem d_P_sign_10 : decode b_P_sign 10 = .ok (.aload_n 0, 1) := by decide +kernel
theorem d_P_sign_11 : decode b_P_sign 11 = .ok (.getfield 33, 3) := by decide +kernel
theorem d_P_sign_14 : decode b_P_sign 14 = .ok (.invokevirtual 58, 3) := by decide +kernel
theorem d_P_sign_17 : decode b_P_sign 17 = .ok (.aload_n 0, 1) := by decide +kernel
theorem d_P_sign_18 : decode b_P_sign 18 = .ok (.getfield 33, 3) := by decide +kernel
theorem d_P_sign_21 : decode b_P_sign 21 = .ok (.invokevirtual 161, 3) := by decide +kernel
theorem d_P_sign_24 : decode b_P_sign 24 = .ok (.ireturn, 1) := by decide +kernel
theorem d_P_length_0 : decode b_P_length 0 = .ok (.aload_n 0, 1) := by decide +kernel
theorem d_P_length_1 : decode b_P_length 1 = .ok (.iload_n 1, 1) := by decide +kernel
theorem d_P_length_2 : decode b_P_length 2 = .ok (.invokevirtual 46, 3) := by decide +kernel
theorem d_P_length_5 : decode b_P_length 5 = .ok (.aload_n 0, 1) := by decide +kernel
theorem d_P_length_6 : decode b_P_length 6 = .ok (.getfield 12, 3) := by decide +kernel
theorem d_P_length_9 : decode b_P_length 9 = .ok (.iload_n 1, 1) := by decide +kernel
theorem d_P_length_10 : decode b_P_length 10 = .ok (.aload_n 0, 1) := by decide +kernel
theorem d_P_length_11 : decode b_P_length 11 = .ok (.getfield 33, 3) := by decide +kernel
theorem d_P_length_14 : decode b_P_length 14 = .ok (.invokevirtual 58, 3) := by decide +kernel
theorem d_P_length_17 : decode b_P_length 17 = .ok (.aload_n 0, 1) := by decide +kernel
theorem d_P_length_18 : decode b_P_length 18 = .ok (.getfield 33, 3) := by decide +kernel
theorem d_P_length_21 : decode b_P_length 21 = .ok (.invokevirtual 164, 3) := by decide +kernel
theorem d_P_length_24 : decode b_P_length 24 = .ok (.ireturn, 1) := by decide +kernel
theorem d_P_limb_0 : decode b_P_limb 0 = .ok (.aload_n 0, 1) := by decide +kernel
theorem d_P_limb_1 : decode b_P_limb 1 = .ok (.iload_n 1, 1) := by decide +kernel
theorem d_P_limb_2 : decode b_P_limb 2 = .ok (.invokevirtual 46, 3) := by decide +kernel
theorem d_P_limb_5 : decode b_P_limb 5 = .ok (.iload_n 2, 1) := by decide +kernel
theorem d_P_limb_6 : decode b_P_limb 6 = .ok (.ifCond .ge 13, 3) := by decide +kernel
theorem d_P_limb_9 : decode b_P_limb 9 = .ok (.new 167, 3) := by decide +kernel
theorem d_P_limb_12 : decode b_P_limb 12 = .ok (.dup, 1) := by decide +kernel
theorem d_P_limb_13 : decode b_P_limb 13 = .ok (.ldc 169, 2) := by decide +kernel
theorem d_P_limb_15 : decode b_P_limb 15 = .ok (.invokespecial 171, 3) := by decide +kernel
theorem d_P_limb_18 : decode b_P_limb 18 = .ok (.athrow, 1) := by decide +kernel
theorem d_P_limb_19 : decode b_P_limb 19 = .ok (.aload_n 0, 1) := by decide +kernel
theorem d_P_limb_20 : decode b_P_limb 20 = .ok (.getfield 12, 3) := by decide +kernel
theorem d_P_limb_23 : decode b_P_limb 23 = .ok (.iload_n 1, 1) := by decide +kernel
theorem d_P_limb_24 : decode b_P_limb 24 = .ok (.aload_n 0, 1) := by decide +kernel
theorem d_P_limb_25 : decode b_P_limb 25 = .ok (.getfield 33, 3) := by decide +kernel
theorem d_P_limb_28 : decode b_P_limb 28 = .ok (.invokevirtual 58, 3) := by decide +kernel
theorem d_P_limb_31 : decode b_P_limb 31 = .ok (.aload_n 0, 1) := by decide +kernel
theorem d_P_limb_32 : decode b_P_limb 32 = .ok (.getfield 33, 3) := by decide +kernel
theorem d_P_limb_35 : decode b_P_limb 35 = .ok (.iload_n 2, 1) := by decide +kernel
theorem d_P_limb_36 : decode b_P_limb 36 = .ok (.invokevirtual 172, 3) := by decide +kernel
theorem d_P_limb_39 : decode b_P_limb 39 = .ok (.l2i, 1) := by decide +kernel
theorem d_P_limb_40 : decode b_P_limb 40 = .ok (.ireturn, 1) := by decide +kernel
theorem d_P_rest_0 : decode b_P_rest 0 = .ok (.aload_n 0, 1) := by decide +kernel
theorem d_P_rest_1 : decode b_P_rest 1 = .ok (.iload_n 1, 1) := by decide +kernel
theorem d_P_rest_2 : decode b_P_rest 2 = .ok (.invokevirtual 46, 3) := by decide +kernel
theorem d_P_rest_5 : decode b_P_rest 5 = .ok (.iload_n 2, 1) := by decide +kernel
theorem d_P_rest_6 : decode b_P_rest 6 = .ok (.iconst 1, 1) := by decide +kernel
theorem d_P_rest_7 : decode b_P_rest 7 = .ok (.if_icmp .ge 13, 3) := by decide +kernel
theorem d_P_rest_10 : decode b_P_rest 10 = .ok (.new 101, 3) := by decide +kernel
theorem d_P_rest_13 : decode b_P_rest 13 = .ok (.dup, 1) := by decide +kernel
theorem d_P_rest_14 : decode b_P_rest 14 = .ok (.ldc 176, 2) := by decide +kernel
theorem d_P_rest_16 : decode b_P_rest 16 = .ok (.invokespecial 105, 3) := by decide +kernel
theorem d_P_rest_19 : decode b_P_rest 19 = .ok (.athrow, 1) := by decide +kernel
theorem d_P_rest_20 : decode b_P_rest 20 = .ok (.aload_n 0, 1) := by decide +kernel
theorem d_P_rest_21 : decode b_P_rest 21 = .ok (.getfield 12, 3) := by decide +kernel
theorem d_P_rest_24 : decode b_P_rest 24 = .ok (.iload_n 1, 1) := by decide +kernel
theorem d_P_rest_25 : decode b_P_rest 25 = .ok (.aload_n 0, 1) := by decide +kernel
theorem d_P_rest_26 : decode b_P_rest 26 = .ok (.getfield 33, 3) := by decide +kernel
theorem d_P_rest_29 : decode b_P_rest 29 = .ok (.invokevirtual 58, 3) := by decide +kernel
theorem d_P_rest_32 : decode b_P_rest 32 = .ok (.aload_n 0, 1) := by decide +kernel
theorem d_P_rest_33 : decode b_P_rest 33 = .ok (.getfield 33, 3) := by decide +kernel
theorem d_P_rest_36 : decode b_P_rest 36 = .ok (.getfield 111, 3) := by decide +kernel
theorem d_P_rest_39 : decode b_P_rest 39 = .ok (.istore_n 3, 1) := by decide +kernel
theorem d_P_rest_40 : decode b_P_rest 40 = .ok (.aload_n 0, 1) := by decide +kernel
theorem d_P_rest_41 : decode b_P_rest 41 = .ok (.getfield 33, 3) := by decide +kernel
theorem d_P_rest_44 : decode b_P_rest 44 = .ok (.iload_n 2, 1) := by decide +kernel
theorem d_P_rest_45 : decode b_P_rest 45 = .ok (.i2l, 1) := by decide +kernel
theorem d_P_rest_46 : decode b_P_rest 46 = .ok (.invokevirtual 178, 3) := by decide +kernel
theorem d_P_rest_49 : decode b_P_rest 49 = .ok (.l2i, 1) := by decide +kernel
theorem d_P_rest_50 : decode b_P_rest 50 = .ok (.istore 4, 2) := by decide +kernel
theorem d_P_rest_52 : decode b_P_rest 52 = .ok (.iload_n 3, 1) := by decide +kernel
theorem d_P_rest_53 : decode b_P_rest 53 = .ok (.ifCond .eq 15, 3) := by decide +kernel
theorem d_P_rest_56 : decode b_P_rest 56 = .ok (.iload 4, 2) := by decide +kernel
theorem d_P_rest_58 : decode b_P_rest 58 = .ok (.ifCond .le 10, 3) := by decide +kernel
theorem d_P_rest_61 : decode b_P_rest 61 = .ok (.iload_n 2, 1) := by decide +kernel
theorem d_P_rest_62 : decode b_P_rest 62 = .ok (.iload 4, 2) := by decide +kernel
theorem d_P_rest_64 : decode b_P_rest 64 = .ok (.isub, 1) := by decide +kernel
theorem d_P_rest_65 : decode b_P_rest 65 = .ok (.goto 5, 3) := by decide +kernel
theorem d_P_rest_68 : decode b_P_rest 68 = .ok (.iload 4, 2) := by decide +kernel
theorem d_P_rest_70 : decode b_P_rest 70 = .ok (.ireturn, 1) := by decide +kernel
theorem d_P_print_0 : decode b_P_print 0 = .ok (.aload_n 0, 1) := by decide +kernel
theorem d_P_print_1 : decode b_P_print 1 = .ok (.iload_n 1, 1) := by decide +kernel
theorem d_P_print_2 : decode b_P_print 2 = .ok (.invokevirtual 46, 3) := by decide +kernel
theorem d_P_print_5 : decode b_P_print 5 = .ok (.aload_n 0, 1) := by decide +kernel
theorem d_P_print_6 : decode b_P_print 6 = .ok (.getfield 12, 3) := by decide +kernel
theorem d_P_print_9 : decode b_P_print 9 = .ok (.iload_n 1, 1) := by decide +kernel
theorem d_P_print_10 : decode b_P_print 10 = .ok (.aload_n 0, 1) := by decide +kernel
theorem d_P_print_11 : decode b_P_print 11 = .ok (.getfield 33, 3) := by decide +kernel
theorem d_P_print_14 : decode b_P_print 14 = .ok (.invokevirtual 58, 3) := by decide +kernel
theorem d_P_print_17 : decode b_P_print 17 = .ok (.aload_n 0, 1) := by decide +kernel
theorem d_P_print_18 : decode b_P_print 18 = .ok (.getfield 26, 3) := by decide +kernel
theorem d_P_print_21 : decode b_P_print 21 = .ok (.aload_n 0, 1) := by decide +kernel
theorem d_P_print_22 : decode b_P_print 22 = .ok (.getfield 33, 3) := by decide +kernel
theorem d_P_print_25 : decode b_P_print 25 = .ok (.invokevirtual 182, 3) := by decide +kernel
theorem d_P_print_28 : decode b_P_print 28 = .ok (.ireturn, 1) := by decide +kernel
theorem d_P_character_0 : decode b_P_character 0 = .ok (.aload_n 0, 1) := by decide +kernel
theorem d_P_character_1 : decode b_P_character 1 = .ok (.getfield 26, 3) := by decide +kernel
theorem d_P_character_4 : decode b_P_character 4 = .ok (.iload_n 1, 1) := by decide +kernel
theorem d_P_character_5 : decode b_P_character 5 = .ok (.invokevirtual 185, 3) := by decide +kernel
theorem d_P_character_8 : decode b_P_character 8 = .ok (.ireturn, 1) := by decide +kernel
theorem d_P_needRegister_0 : decode b_P_needRegister 0 = .ok (.iload_n 1, 1) := by decide +kernel
theorem d_P_needRegister_1 : decode b_P_needRegister 1 = .ok (.ifCond .lt 9, 3) := by decide +kernel
theorem d_P_needRegister_4 : decode b_P_needRegister 4 = .ok (.iload_n 1, 1) := by decide +kernel
theorem d_P_needRegister_5 : decode b_P_needRegister 5 = .ok (.bipush 24, 2) := by decide +kernel
theorem d_P_needRegister_7 : decode b_P_needRegister 7 = .ok (.if_icmp .lt 13, 3) := by decide +kernel
theorem d_P_needRegister_10 : decode b_P_needRegister 10 = .ok (.new 167, 3) := by decide +kernel
theorem d_P_needRegister_13 : decode b_P_needRegister 13 = .ok (.dup, 1) := by decide +kernel
theorem d_P_needRegister_14 : decode b_P_needRegister 14 = .ok (.ldc 188, 2) := by decide +kernel
theorem d_P_needRegister_16 : decode b_P_needRegister 16 = .ok (.invokespecial 171, 3) := by decide +kernel
theorem d_P_needRegister_19 : decode b_P_needRegister 19 = .ok (.athrow, 1) := by decide +kernel
theorem d_P_needRegister_20 : decode b_P_needRegister 20 = .ok (.return_, 1) := by decide +kernel
theorem d_P_needRegisters_0 : decode b_P_needRegisters 0 = .ok (.aload_n 0, 1) := by decide +kernel
theorem d_P_needRegisters_1 : decode b_P_needRegisters 1 = .ok (.iload_n 1, 1) := by decide +kernel
theorem d_P_needRegisters_2 : decode b_P_needRegisters 2 = .ok (.invokevirtual 46, 3) := by decide +kernel
theorem d_P_needRegisters_5 : decode b_P_needRegisters 5 = .ok (.aload_n 0, 1) := by decide +kernel
theorem d_P_needRegisters_6 : decode b_P_needRegisters 6 = .ok (.iload_n 2, 1) := by decide +kernel
theorem d_P_needRegisters_7 : decode b_P_needRegisters 7 = .ok (.invokevirtual 46, 3) := by decide +kernel
theorem d_P_needRegisters_10 : decode b_P_needRegisters 10 = .ok (.return_, 1) := by decide +kernel
theorem d_P_needLength_0 : decode b_P_needLength 0 = .ok (.iload_n 1, 1) := by decide +kernel
theorem d_P_needLength_1 : decode b_P_needLength 1 = .ok (.sipush 20000, 3) := by decide +kernel
theorem d_P_needLength_4 : decode b_P_needLength 4 = .ok (.if_icmp .le 13, 3) := by decide +kernel
theorem d_P_needLength_7 : decode b_P_needLength 7 = .ok (.new 190, 3) := by decide +kernel
theorem d_P_needLength_10 : decode b_P_needLength 10 = .ok (.dup, 1) := by decide +kernel
theorem d_P_needLength_11 : decode b_P_needLength 11 = .ok (.ldc 192, 2) := by decide +kernel
theorem d_P_needLength_13 : decode b_P_needLength 13 = .ok (.invokespecial 194, 3) := by decide +kernel
theorem d_P_needLength_16 : decode b_P_needLength 16 = .ok (.athrow, 1) := by decide +kernel
theorem d_P_needLength_17 : decode b_P_needLength 17 = .ok (.return_, 1) := by decide +kernel
theorem d_P_needDivisorAboveZero_0 : decode b_P_needDivisorAboveZero 0 = .ok (.aload_n 0, 1) := by decide +kernel
theorem d_P_needDivisorAboveZero_1 : decode b_P_needDivisorAboveZero 1 = .ok (.getfield 37, 3) := by decide +kernel
theorem d_P_needDivisorAboveZero_4 : decode b_P_needDivisorAboveZero 4 = .ok (.invokevirtual 161, 3) := by decide +kernel
theorem d_P_needDivisorAboveZero_7 : decode b_P_needDivisorAboveZero 7 = .ok (.ifCond .gt 13, 3) := by decide +kernel
theorem d_P_needDivisorAboveZero_10 : decode b_P_needDivisorAboveZero 10 = .ok (.new 139, 3) := by decide +kernel
theorem d_P_needDivisorAboveZero_13 : decode b_P_needDivisorAboveZero 13 = .ok (.dup, 1) := by decide +kernel
theorem d_P_needDivisorAboveZero_14 : decode b_P_needDivisorAboveZero 14 = .ok (.ldc 195, 2) := by decide +kernel
theorem d_P_needDivisorAboveZero_16 : decode b_P_needDivisorAboveZero 16 = .ok (.invokespecial 143, 3) := by decide +kernel
theorem d_P_needDivisorAboveZero_19 : decode b_P_needDivisorAboveZero 19 = .ok (.athrow, 1) := by decide +kernel
theorem d_P_needDivisorAboveZero_20 : decode b_P_needDivisorAboveZero 20 = .ok (.return_, 1) := by decide +kernel
theorem d_P_readBoth_0 : decode b_P_readBoth 0 = .ok (.aload_n 0, 1) := by decide +kernel
theorem d_P_readBoth_1 : decode b_P_readBoth 1 = .ok (.getfield 12, 3) := by decide +kernel
theorem d_P_readBoth_4 : decode b_P_readBoth 4 = .ok (.iload_n 1, 1) := by decide +kernel
theorem d_P_readBoth_5 : decode b_P_readBoth 5 = .ok (.aload_n 0, 1) := by decide +kernel
theorem d_P_readBoth_6 : decode b_P_readBoth 6 = .ok (.getfield 33, 3) := by decide +kernel
theorem d_P_readBoth_9 : decode b_P_readBoth 9 = .ok (.invokevirtual 58, 3) := by decide +kernel
theorem d_P_readBoth_12 : decode b_P_readBoth 12 = .ok (.aload_n 0, 1) := by decide +kernel
theorem d_P_readBoth_13 : decode b_P_readBoth 13 = .ok (.getfield 12, 3) := by decide +kernel
theorem d_P_readBoth_16 : decode b_P_readBoth 16 = .ok (.iload_n 2, 1) := by decide +kernel
theorem d_P_readBoth_17 : decode b_P_readBoth 17 = .ok (.aload_n 0, 1) := by decide +kernel
theorem d_P_readBoth_18 : decode b_P_readBoth 18 = .ok (.getfield 37, 3) := by decide +kernel
theorem d_P_readBoth_21 : decode b_P_readBoth 21 = .ok (.invokevirtual 58, 3) := by decide +kernel
theorem d_P_readBoth_24 : decode b_P_readBoth 24 = .ok (.return_, 1) := by decide +kernel
theorem d_P_leastProductBits_0 : decode b_P_leastProductBits 0 = .ok (.aload_n 0, 1) := by decide +kernel
theorem d_P_leastProductBits_1 : decode b_P_leastProductBits 1 = .ok (.getfield 33, 3) := by decide +kernel
theorem d_P_leastProductBits_4 : decode b_P_leastProductBits 4 = .ok (.invokevirtual 164, 3) := by decide +kernel
theorem d_P_leastProductBits_7 : decode b_P_leastProductBits 7 = .ok (.aload_n 0, 1) := by decide +kernel
theorem d_P_leastProductBits_8 : decode b_P_leastProductBits 8 = .ok (.getfield 37, 3) := by decide +kernel
theorem d_P_leastProductBits_11 : decode b_P_leastProductBits 11 = .ok (.invokevirtual 164, 3) := by decide +kernel
theorem d_P_leastProductBits_14 : decode b_P_leastProductBits 14 = .ok (.iadd, 1) := by decide +kernel
theorem d_P_leastProductBits_15 : decode b_P_leastProductBits 15 = .ok (.iconst 1, 1) := by decide +kernel
theorem d_P_leastProductBits_16 : decode b_P_leastProductBits 16 = .ok (.isub, 1) := by decide +kernel
theorem d_P_leastProductBits_17 : decode b_P_leastProductBits 17 = .ok (.ireturn, 1) := by decide +kernel
theorem d_P_keepSum_0 : decode b_P_keepSum 0 = .ok (.aload_n 0, 1) := by decide +kernel
theorem d_P_keepSum_1 : decode b_P_keepSum 1 = .ok (.iload_n 1, 1) := by decide +kernel
theorem d_P_keepSum_2 : decode b_P_keepSum 2 = .ok (.invokevirtual 46, 3) := by decide +kernel
theorem d_P_keepSum_5 : decode b_P_keepSum 5 = .ok (.aload_n 0, 1) := by decide +kernel
theorem d_P_keepSum_6 : decode b_P_keepSum 6 = .ok (.iload_n 2, 1) := by decide +kernel
theorem d_P_keepSum_7 : decode b_P_keepSum 7 = .ok (.iload_n 3, 1) := by decide +kernel
theorem d_P_keepSum_8 : decode b_P_keepSum 8 = .ok (.invokevirtual 65, 3) := by decide +kernel
theorem d_P_keepSum_11 : decode b_P_keepSum 11 = .ok (.aload_n 0, 1) := by decide +kernel
theorem d_P_keepSum_12 : decode b_P_keepSum 12 = .ok (.iload_n 2, 1) := by decide +kernel
theorem d_P_keepSum_13 : decode b_P_keepSum 13 = .ok (.iload_n 3, 1) := by decide +kernel
theorem d_P_keepSum_14 : decode b_P_keepSum 14 = .ok (.invokevirtual 83, 3) := by decide +kernel
theorem d_P_keepSum_17 : decode b_P_keepSum 17 = .ok (.aload_n 0, 1) := by decide +kernel
theorem d_P_keepSum_18 : decode b_P_keepSum 18 = .ok (.getfield 40, 3) := by decide +kernel
theorem d_P_keepSum_21 : decode b_P_keepSum 21 = .ok (.aload_n 0, 1) := by decide +kernel
theorem d_P_keepSum_22 : decode b_P_keepSum 22 = .ok (.getfield 33, 3) := by decide +kernel
theorem d_P_keepSum_25 : decode b_P_keepSum 25 = .ok (.aload_n 0, 1) := by decide +kernel
theorem d_P_keepSum_26 : decode b_P_keepSum 26 = .ok (.getfield 37, 3) := by decide +kernel
theorem d_P_keepSum_29 : decode b_P_keepSum 29 = .ok (.iload 4, 2) := by decide +kernel
theorem d_P_keepSum_31 : decode b_P_keepSum 31 = .ok (.invokevirtual 97, 3) := by decide +kernel
theorem d_P_keepSum_34 : decode b_P_keepSum 34 = .ok (.aload_n 0, 1) := by decide +kernel
theorem d_P_keepSum_35 : decode b_P_keepSum 35 = .ok (.iload_n 1, 1) := by decide +kernel
theorem d_P_keepSum_36 : decode b_P_keepSum 36 = .ok (.aload_n 0, 1) := by decide +kernel
theorem d_P_keepSum_37 : decode b_P_keepSum 37 = .ok (.getfield 40, 3) := by decide +kernel
theorem d_P_keepSum_40 : decode b_P_keepSum 40 = .ok (.invokevirtual 54, 3) := by decide +kernel
theorem d_P_keepSum_43 : decode b_P_keepSum 43 = .ok (.ireturn, 1) := by decide +kernel
theorem d_P_keep_0 : decode b_P_keep 0 = .ok (.aload_n 2, 1) := by decide +kernel
theorem d_P_keep_1 : decode b_P_keep 1 = .ok (.invokevirtual 164, 3) := by decide +kernel
theorem d_P_keep_4 : decode b_P_keep 4 = .ok (.istore_n 3, 1) := by decide +kernel
theorem d_P_keep_5 : decode b_P_keep 5 = .ok (.aload_n 0, 1) := by decide +kernel
theorem d_P_keep_6 : decode b_P_keep 6 = .ok (.iload_n 3, 1) := by decide +kernel
theorem d_P_keep_7 : decode b_P_keep 7 = .ok (.invokevirtual 90, 3) := by decide +kernel
theorem d_P_keep_10 : decode b_P_keep 10 = .ok (.aload_n 0, 1) := by decide +kernel
theorem d_P_keep_11 : decode b_P_keep 11 = .ok (.getfield 12, 3) := by decide +kernel
theorem d_P_keep_14 : decode b_P_keep 14 = .ok (.iload_n 1, 1) := by decide +kernel
theorem d_P_keep_15 : decode b_P_keep 15 = .ok (.aload_n 2, 1) := by decide +kernel
theorem d_P_keep_16 : decode b_P_keep 16 = .ok (.invokevirtual 197, 3) := by decide +kernel
theorem d_P_keep_19 : decode b_P_keep 19 = .ok (.iload_n 3, 1) := by decide +kernel
theorem d_P_keep_20 : decode b_P_keep 20 = .ok (.ireturn, 1) := by decide +kernel
end
section
theorem d_M_init_0 : decode b_M_init 0 = .ok (.aload_n 0, 1) := by decide +kernel
theorem d_M_init_1 : decode b_M_init 1 = .ok (.invokespecial 1, 3) := by decide +kernel
theorem d_M_init_4 : decode b_M_init 4 = .ok (.aload_n 0, 1) := by decide +kernel
theorem d_M_init_5 : decode b_M_init 5 = .ok (.sipush 22400, 3) := by decide +kernel
theorem d_M_init_8 : decode b_M_init 8 = .ok (.newarray .int, 2) := by decide +kernel
theorem d_M_init_10 : decode b_M_init 10 = .ok (.putfield 7, 3) := by decide +kernel
theorem d_M_init_13 : decode b_M_init 13 = .ok (.aload_n 0, 1) := by decide +kernel
theorem d_M_init_14 : decode b_M_init 14 = .ok (.bipush 7, 2) := by decide +kernel
theorem d_M_init_16 : decode b_M_init 16 = .ok (.newarray .int, 2) := by decide +kernel
theorem d_M_init_18 : decode b_M_init 18 = .ok (.putfield 13, 3) := by decide +kernel
theorem d_M_init_21 : decode b_M_init 21 = .ok (.aload_n 0, 1) := by decide +kernel
theorem d_M_init_22 : decode b_M_init 22 = .ok (.ldc 16, 2) := by decide +kernel
theorem d_M_init_24 : decode b_M_init 24 = .ok (.newarray .int, 2) := by decide +kernel
theorem d_M_init_26 : decode b_M_init 26 = .ok (.putfield 17, 3) := by decide +kernel
theorem d_M_init_29 : decode b_M_init 29 = .ok (.aload_n 0, 1) := by decide +kernel
theorem d_M_init_30 : decode b_M_init 30 = .ok (.bipush 24, 2) := by decide +kernel
theorem d_M_init_32 : decode b_M_init 32 = .ok (.newarray .int, 2) := by decide +kernel
theorem d_M_init_34 : decode b_M_init 34 = .ok (.putfield 20, 3) := by decide +kernel
theorem d_M_init_37 : decode b_M_init 37 = .ok (.aload_n 0, 1) := by decide +kernel
theorem d_M_init_38 : decode b_M_init 38 = .ok (.bipush 24, 2) := by decide +kernel
theorem d_M_init_40 : decode b_M_init 40 = .ok (.newarray .int, 2) := by decide +kernel
theorem d_M_init_42 : decode b_M_init 42 = .ok (.putfield 23, 3) := by decide +kernel
theorem d_M_init_45 : decode b_M_init 45 = .ok (.aload_n 0, 1) := by decide +kernel
theorem d_M_init_46 : decode b_M_init 46 = .ok (.sipush 2700, 3) := by decide +kernel
theorem d_M_init_49 : decode b_M_init 49 = .ok (.newarray .int, 2) := by decide +kernel
theorem d_M_init_51 : decode b_M_init 51 = .ok (.putfield 26, 3) := by decide +kernel
theorem d_M_init_54 : decode b_M_init 54 = .ok (.aload_n 0, 1) := by decide +kernel
theorem d_M_init_55 : decode b_M_init 55 = .ok (.sipush 6100, 3) := by decide +kernel
theorem d_M_init_58 : decode b_M_init 58 = .ok (.newarray .int, 2) := by decide +kernel
theorem d_M_init_60 : decode b_M_init 60 = .ok (.putfield 29, 3) := by decide +kernel
theorem d_M_init_63 : decode b_M_init 63 = .ok (.return_, 1) := by decide +kernel
theorem d_M_thrown_0 : decode b_M_thrown 0 = .ok (.aload_n 0, 1) := by decide +kernel
theorem d_M_thrown_1 : decode b_M_thrown 1 = .ok (.getfield 32, 3) := by decide +kernel
theorem d_M_thrown_4 : decode b_M_thrown 4 = .ok (.ireturn, 1) := by decide +kernel
theorem d_M_refuses_0 : decode b_M_refuses 0 = .ok (.aload_n 0, 1) := by decide +kernel
theorem d_M_refuses_1 : decode b_M_refuses 1 = .ok (.iload_n 1, 1) := by decide +kernel
theorem d_M_refuses_2 : decode b_M_refuses 2 = .ok (.putfield 32, 3) := by decide +kernel
theorem d_M_refuses_5 : decode b_M_refuses 5 = .ok (.iload_n 1, 1) := by decide +kernel
theorem d_M_refuses_6 : decode b_M_refuses 6 = .ok (.ifCond .le 7, 3) := by decide +kernel
theorem d_M_refuses_9 : decode b_M_refuses 9 = .ok (.iconst 1, 1) := by decide +kernel
theorem d_M_refuses_10 : decode b_M_refuses 10 = .ok (.goto 4, 3) := by decide +kernel
theorem d_M_refuses_13 : decode b_M_refuses 13 = .ok (.iconst 0, 1) := by decide +kernel
theorem d_M_refuses_14 : decode b_M_refuses 14 = .ok (.ireturn, 1) := by decide +kernel
theorem d_M_isRegister_0 : decode b_M_isRegister 0 = .ok (.iload_n 0, 1) := by decide +kernel
theorem d_M_isRegister_1 : decode b_M_isRegister 1 = .ok (.ifCond .lt 13, 3) := by decide +kernel
theorem d_M_isRegister_4 : decode b_M_isRegister 4 = .ok (.iload_n 0, 1) := by decide +kernel
theorem d_M_isRegister_5 : decode b_M_isRegister 5 = .ok (.bipush 24, 2) := by decide +kernel
theorem d_M_isRegister_7 : decode b_M_isRegister 7 = .ok (.if_icmp .ge 7, 3) := by decide +kernel
theorem d_M_isRegister_10 : decode b_M_isRegister 10 = .ok (.iconst 1, 1) := by decide +kernel
theorem d_M_isRegister_11 : decode b_M_isRegister 11 = .ok (.goto 4, 3) := by decide +kernel
theorem d_M_isRegister_14 : decode b_M_isRegister 14 = .ok (.iconst 0, 1) := by decide +kernel
theorem d_M_isRegister_15 : decode b_M_isRegister 15 = .ok (.ireturn, 1) := by decide +kernel
theorem d_M_are_0 : decode b_M_are 0 = .ok (.iload_n 0, 1) := by decide +kernel
theorem d_M_are_1 : decode b_M_are 1 = .ok (.invokestatic 36, 3) := by decide +kernel
theorem d_M_are_4 : decode b_M_are 4 = .ok (.ifCond .eq 21, 3) := by decide +kernel
theorem d_M_are_7 : decode b_M_are 7 = .ok (.iload_n 1, 1) := by decide +kernel
theorem d_M_are_8 : decode b_M_are 8 = .ok (.invokestatic 36, 3) := by decide +kernel
theorem d_M_are_11 : decode b_M_are 11 = .ok (.ifCond .eq 14, 3) := by decide +kernel
theorem d_M_are_14 : decode b_M_are 14 = .ok (.iload_n 2, 1) := by decide +kernel
theorem d_M_are_15 : decode b_M_are 15 = .ok (.invokestatic 36, 3) := by decide +kernel
theorem d_M_are_18 : decode b_M_are 18 = .ok (.ifCond .eq 7, 3) := by decide +kernel
theorem d_M_are_21 : decode b_M_are 21 = .ok (.iconst 1, 1) := by decide +kernel
theorem d_M_are_22 : decode b_M_are 22 = .ok (.goto 4, 3) := by decide +kernel
theorem d_M_are_25 : decode b_M_are 25 = .ok (.iconst 0, 1) := by decide +kernel
theorem d_M_are_26 : decode b_M_are 26 = .ok (.ireturn, 1) := by decide +kernel
theorem d_M_trim_0 : decode b_M_trim 0 = .ok (.iload_n 2, 1) := by decide +kernel
theorem d_M_trim_1 : decode b_M_trim 1 = .ok (.istore_n 3, 1) := by decide +kernel
theorem d_M_trim_2 : decode b_M_trim 2 = .ok (.iload_n 3, 1) := by decide +kernel
theorem d_M_trim_3 : decode b_M_trim 3 = .ok (.ifCond .le 26, 3) := by decide +kernel
theorem d_M_trim_6 : decode b_M_trim 6 = .ok (.aload_n 0, 1) := by decide +kernel
theorem d_M_trim_7 : decode b_M_trim 7 = .ok (.getfield 7, 3) := by decide +kernel
theorem d_M_trim_10 : decode b_M_trim 10 = .ok (.sipush 3200, 3) := by decide +kernel
theorem d_M_trim_13 : decode b_M_trim 13 = .ok (.iload_n 1, 1) := by decide +kernel
theorem d_M_trim_14 : decode b_M_trim 14 = .ok (.imul, 1) := by decide +kernel
theorem d_M_trim_15 : decode b_M_trim 15 = .ok (.iload_n 3, 1) := by decide +kernel
theorem d_M_trim_16 : decode b_M_trim 16 = .ok (.iadd, 1) := by decide +kernel
theorem d_M_trim_17 : decode b_M_trim 17 = .ok (.iconst 1, 1) := by decide +kernel
theorem d_M_trim_18 : decode b_M_trim 18 = .ok (.isub, 1) := by decide +kernel
theorem d_M_trim_19 : decode b_M_trim 19 = .ok (.iaload, 1) := by decide +kernel
theorem d_M_trim_20 : decode b_M_trim 20 = .ok (.ifCond .ne 9, 3) := by decide +kernel
theorem d_M_trim_23 : decode b_M_trim 23 = .ok (.iinc 3 (-1), 3) := by decide +kernel
theorem d_M_trim_26 : decode b_M_trim 26 = .ok (.goto (-24), 3) := by decide +kernel
theorem d_M_trim_29 : decode b_M_trim 29 = .ok (.aload_n 0, 1) := by decide +kernel
theorem d_M_trim_30 : decode b_M_trim 30 = .ok (.getfield 13, 3) := by decide +kernel
theorem d_M_trim_33 : decode b_M_trim 33 = .ok (.iload_n 1, 1) := by decide +kernel
theorem d_M_trim_34 : decode b_M_trim 34 = .ok (.iload_n 3, 1) := by decide +kernel
theorem d_M_trim_35 : decode b_M_trim 35 = .ok (.iastore, 1) := by decide +kernel
theorem d_M_trim_36 : decode b_M_trim 36 = .ok (.return_, 1) := by decide +kernel
theorem d_M_setLong_0 : decode b_M_setLong 0 = .ok (.lload_n 2, 1) := by decide +kernel
theorem d_M_setLong_1 : decode b_M_setLong 1 = .ok (.lstore 4, 2) := by decide +kernel
theorem d_M_setLong_3 : decode b_M_setLong 3 = .ok (.iconst 0, 1) := by decide +kernel
theorem d_M_setLong_4 : decode b_M_setLong 4 = .ok (.istore 6, 2) := by decide +kernel
theorem d_M_setLong_6 : decode b_M_setLong 6 = .ok (.lload 4, 2) := by decide +kernel
theorem d_M_setLong_8 : decode b_M_setLong 8 = .ok (.lconst 0, 1) := by decide +kernel
theorem d_M_setLong_9 : decode b_M_setLong 9 = .ok (.lcmp, 1) := by decide +kernel
theorem d_M_setLong_10 : decode b_M_setLong 10 = .ok (.ifCond .eq 52, 3) := by decide +kernel
theorem d_M_setLong_13 : decode b_M_setLong 13 = .ok (.lload 4, 2) := by decide +kernel
theorem d_M_setLong_15 : decode b_M_setLong 15 = .ok (.ldc2_w 40, 3) := by decide +kernel
theorem d_M_setLong_18 : decode b_M_setLong 18 = .ok (.lrem, 1) := by decide +kernel
theorem d_M_setLong_19 : decode b_M_setLong 19 = .ok (.l2i, 1) := by decide +kernel
theorem d_M_setLong_20 : decode b_M_setLong 20 = .ok (.istore 7, 2) := by decide +kernel
theorem d_M_setLong_22 : decode b_M_setLong 22 = .ok (.aload_n 0, 1) := by decide +kernel
theorem d_M_setLong_23 : decode b_M_setLong 23 = .ok (.getfield 7, 3) := by decide +kernel
theorem d_M_setLong_26 : decode b_M_setLong 26 = .ok (.sipush 3200, 3) := by decide +kernel
theorem d_M_setLong_29 : decode b_M_setLong 29 = .ok (.iload_n 1, 1) := by decide +kernel
theorem d_M_setLong_30 : decode b_M_setLong 30 = .ok (.imul, 1) := by decide +kernel
theorem d_M_setLong_31 : decode b_M_setLong 31 = .ok (.iload 6, 2) := by decide +kernel
theorem d_M_setLong_33 : decode b_M_setLong 33 = .ok (.iadd, 1) := by decide +kernel
theorem d_M_setLong_34 : decode b_M_setLong 34 = .ok (.iload 7, 2) := by decide +kernel
theorem d_M_setLong_36 : decode b_M_setLong 36 = .ok (.ifCond .ge 9, 3) := by decide +kernel
theorem d_M_setLong_39 : decode b_M_setLong 39 = .ok (.iload 7, 2) := by decide +kernel
theorem d_M_setLong_41 : decode b_M_setLong 41 = .ok (.ineg, 1) := by decide +kernel
theorem d_M_setLong_42 : decode b_M_setLong 42 = .ok (.goto 5, 3) := by decide +kernel
theorem d_M_setLong_45 : decode b_M_setLong 45 = .ok (.iload 7, 2) := by decide +kernel
theorem d_M_setLong_47 : decode b_M_setLong 47 = .ok (.iastore, 1) := by decide +kernel
theorem d_M_setLong_48 : decode b_M_setLong 48 = .ok (.lload 4, 2) := by decide +kernel
theorem d_M_setLong_50 : decode b_M_setLong 50 = .ok (.ldc2_w 40, 3) := by decide +kernel
theorem d_M_setLong_53 : decode b_M_setLong 53 = .ok (.ldiv, 1) := by decide +kernel
theorem d_M_setLong_54 : decode b_M_setLong 54 = .ok (.lstore 4, 2) := by decide +kernel
theorem d_M_setLong_56 : decode b_M_setLong 56 = .ok (.iinc 6 1, 3) := by decide +kernel
theorem d_M_setLong_59 : decode b_M_setLong 59 = .ok (.goto (-53), 3) := by decide +kernel
theorem d_M_setLong_62 : decode b_M_setLong 62 = .ok (.aload_n 0, 1) := by decide +kernel
theorem d_M_setLong_63 : decode b_M_setLong 63 = .ok (.getfield 13, 3) := by decide +kernel
theorem d_M_setLong_66 : decode b_M_setLong 66 = .ok (.iload_n 1, 1) := by decide +kernel
theorem d_M_setLong_67 : decode b_M_setLong 67 = .ok (.iload 6, 2) := by decide +kernel
theorem d_M_setLong_69 : decode b_M_setLong 69 = .ok (.iastore, 1) := by decide +kernel
theorem d_M_setLong_70 : decode b_M_setLong 70 = .ok (.return_, 1) := by decide +kernel
theorem d_M_copyTo_0 : decode b_M_copyTo 0 = .ok (.iconst 0, 1) := by decide +kernel
theorem d_M_copyTo_1 : decode b_M_copyTo 1 = .ok (.istore_n 3, 1) := by decide +kernel
theorem d_M_copyTo_2 : decode b_M_copyTo 2 = .ok (.iload_n 3, 1) := by decide +kernel
theorem d_M_copyTo_3 : decode b_M_copyTo 3 = .ok (.aload_n 0, 1) := by decide +kernel
theorem d_M_copyTo_4 : decode b_M_copyTo 4 = .ok (.getfield 13, 3) := by decide +kernel
theorem d_M_copyTo_7 : decode b_M_copyTo 7 = .ok (.iload_n 2, 1) := by decide +kernel
theorem d_M_copyTo_8 : decode b_M_copyTo 8 = .ok (.iaload, 1) := by decide +kernel
theorem d_M_copyTo_9 : decode b_M_copyTo 9 = .ok (.if_icmp .ge 33, 3) := by decide +kernel
theorem d_M_copyTo_12 : decode b_M_copyTo 12 = .ok (.aload_n 0, 1) := by decide +kernel
theorem d_M_copyTo_13 : decode b_M_copyTo 13 = .ok (.getfield 7, 3) := by decide +kernel
theorem d_M_copyTo_16 : decode b_M_copyTo 16 = .ok (.sipush 3200, 3) := by decide +kernel
theorem d_M_copyTo_19 : decode b_M_copyTo 19 = .ok (.iload_n 1, 1) := by decide +kernel
theorem d_M_copyTo_20 : decode b_M_copyTo 20 = .ok (.imul, 1) := by decide +kernel
theorem d_M_copyTo_21 : decode b_M_copyTo 21 = .ok (.iload_n 3, 1) := by decide +kernel
theorem d_M_copyTo_22 : decode b_M_copyTo 22 = .ok (.iadd, 1) := by decide +kernel
theorem d_M_copyTo_23 : decode b_M_copyTo 23 = .ok (.aload_n 0, 1) := by decide +kernel
theorem d_M_copyTo_24 : decode b_M_copyTo 24 = .ok (.getfield 7, 3) := by decide +kernel
theorem d_M_copyTo_27 : decode b_M_copyTo 27 = .ok (.sipush 3200, 3) := by decide +kernel
theorem d_M_copyTo_30 : decode b_M_copyTo 30 = .ok (.iload_n 2, 1) := by decide +kernel
theorem d_M_copyTo_31 : decode b_M_copyTo 31 = .ok (.imul, 1) := by decide +kernel
theorem d_M_copyTo_32 : decode b_M_copyTo 32 = .ok (.iload_n 3, 1) := by decide +kernel
theorem d_M_copyTo_33 : decode b_M_copyTo 33 = .ok (.iadd, 1) := by decide +kernel
theorem d_M_copyTo_34 : decode b_M_copyTo 34 = .ok (.iaload, 1) := by decide +kernel
theorem d_M_copyTo_35 : decode b_M_copyTo 35 = .ok (.iastore, 1) := by decide +kernel
theorem d_M_copyTo_36 : decode b_M_copyTo 36 = .ok (.iinc 3 1, 3) := by decide +kernel
theorem d_M_copyTo_39 : decode b_M_copyTo 39 = .ok (.goto (-37), 3) := by decide +kernel
theorem d_M_copyTo_42 : decode b_M_copyTo 42 = .ok (.aload_n 0, 1) := by decide +kernel
theorem d_M_copyTo_43 : decode b_M_copyTo 43 = .ok (.getfield 13, 3) := by decide +kernel
theorem d_M_copyTo_46 : decode b_M_copyTo 46 = .ok (.iload_n 1, 1) := by decide +kernel
theorem d_M_copyTo_47 : decode b_M_copyTo 47 = .ok (.aload_n 0, 1) := by decide +kernel
theorem d_M_copyTo_48 : decode b_M_copyTo 48 = .ok (.getfield 13, 3) := by decide +kernel
theorem d_M_copyTo_51 : decode b_M_copyTo 51 = .ok (.iload_n 2, 1) := by decide +kernel
theorem d_M_copyTo_52 : decode b_M_copyTo 52 = .ok (.iaload, 1) := by decide +kernel
theorem d_M_copyTo_53 : decode b_M_copyTo 53 = .ok (.iastore, 1) := by decide +kernel
theorem d_M_copyTo_54 : decode b_M_copyTo 54 = .ok (.return_, 1) := by decide +kernel
theorem d_M_order_0 : decode b_M_order 0 = .ok (.aload_n 0, 1) := by decide +kernel
theorem d_M_order_1 : decode b_M_order 1 = .ok (.getfield 13, 3) := by decide +kernel
theorem d_M_order_4 : decode b_M_order 4 = .ok (.iload_n 1, 1) := by decide +kernel
theorem d_M_order_5 : decode b_M_order 5 = .ok (.iaload, 1) := by decide +kernel
theorem d_M_order_6 : decode b_M_order 6 = .ok (.aload_n 0, 1) := by decide +kernel
theorem d_M_order_7 : decode b_M_order 7 = .ok (.getfield 13, 3) := by decide +kernel
theorem d_M_order_10 : decode b_M_order 10 = .ok (.iload_n 2, 1) := by decide +kernel
theorem d_M_order_11 : decode b_M_order 11 = .ok (.iaload, 1) := by decide +kernel
theorem d_M_order_12 : decode b_M_order 12 = .ok (.if_icmp .eq 24, 3) := by decide +kernel
theorem d_M_order_15 : decode b_M_order 15 = .ok (.aload_n 0, 1) := by decide +kernel
theorem d_M_order_16 : decode b_M_order 16 = .ok (.getfield 13, 3) := by decide +kernel
theorem d_M_order_19 : decode b_M_order 19 = .ok (.iload_n 1, 1) := by decide +kernel
theorem d_M_order_20 : decode b_M_order 20 = .ok (.iaload, 1) := by decide +kernel
theorem d_M_order_21 : decode b_M_order 21 = .ok (.aload_n 0, 1) := by decide +kernel
theorem d_M_order_22 : decode b_M_order 22 = .ok (.getfield 13, 3) := by decide +kernel
theorem d_M_order_25 : decode b_M_order 25 = .ok (.iload_n 2, 1) := by decide +kernel
theorem d_M_order_26 : decode b_M_order 26 = .ok (.iaload, 1) := by decide +kernel
theorem d_M_order_27 : decode b_M_order 27 = .ok (.if_icmp .ge 7, 3) := by decide +kernel
theorem d_M_order_30 : decode b_M_order 30 = .ok (.iconst (-1), 1) := by decide +kernel
theorem d_M_order_31 : decode b_M_order 31 = .ok (.goto 4, 3) := by decide +kernel
theorem d_M_order_34 : decode b_M_order 34 = .ok (.iconst 1, 1) := by decide +kernel
theorem d_M_order_35 : decode b_M_order 35 = .ok (.ireturn, 1) := by decide +kernel
theorem d_M_order_36 : decode b_M_order 36 = .ok (.aload_n 0, 1) := by decide +kernel
theorem d_M_order_37 : decode b_M_order 37 = .ok (.getfield 13, 3) := by decide +kernel
theorem d_M_order_40 : decode b_M_order 40 = .ok (.iload_n 1, 1) := by decide +kernel
theorem d_M_order_41 : decode b_M_order 41 = .ok (.iaload, 1) := by decide +kernel
theorem d_M_order_42 : decode b_M_order 42 = .ok (.iconst 1, 1) := by decide +kernel
theorem d_M_order_43 : decode b_M_order 43 = .ok (.isub, 1) := by decide +kernel
theorem d_M_order_44 : decode b_M_order 44 = .ok (.istore_n 3, 1) := by decide +kernel
theorem d_M_order_45 : decode b_M_order 45 = .ok (.iload_n 3, 1) := by decide +kernel
theorem d_M_order_46 : decode b_M_order 46 = .ok (.ifCond .lt 52, 3) := by decide +kernel
theorem d_M_order_49 : decode b_M_order 49 = .ok (.aload_n 0, 1) := by decide +kernel
theorem d_M_order_50 : decode b_M_order 50 = .ok (.getfield 7, 3) := by decide +kernel
theorem d_M_order_53 : decode b_M_order 53 = .ok (.sipush 3200, 3) := by decide +kernel
theorem d_M_order_56 : decode b_M_order 56 = .ok (.iload_n 1, 1) := by decide +kernel
theorem d_M_order_57 : decode b_M_order 57 = .ok (.imul, 1) := by decide +kernel
theorem d_M_order_58 : decode b_M_order 58 = .ok (.iload_n 3, 1) := by decide +kernel
theorem d_M_order_59 : decode b_M_order 59 = .ok (.iadd, 1) := by decide +kernel
theorem d_M_order_60 : decode b_M_order 60 = .ok (.iaload, 1) := by decide +kernel
theorem d_M_order_61 : decode b_M_order 61 = .ok (.aload_n 0, 1) := by decide +kernel
theorem d_M_order_62 : decode b_M_order 62 = .ok (.getfield 7, 3) := by decide +kernel
theorem d_M_order_65 : decode b_M_order 65 = .ok (.sipush 3200, 3) := by decide +kernel
theorem d_M_order_68 : decode b_M_order 68 = .ok (.iload_n 2, 1) := by decide +kernel
theorem d_M_order_69 : decode b_M_order 69 = .ok (.imul, 1) := by decide +kernel
theorem d_M_order_70 : decode b_M_order 70 = .ok (.iload_n 3, 1) := by decide +kernel
theorem d_M_order_71 : decode b_M_order 71 = .ok (.iadd, 1) := by decide +kernel
theorem d_M_order_72 : decode b_M_order 72 = .ok (.iaload, 1) := by decide +kernel
theorem d_M_order_73 : decode b_M_order 73 = .ok (.isub, 1) := by decide +kernel
theorem d_M_order_74 : decode b_M_order 74 = .ok (.istore 4, 2) := by decide +kernel
theorem d_M_order_76 : decode b_M_order 76 = .ok (.iload 4, 2) := by decide +kernel
theorem d_M_order_78 : decode b_M_order 78 = .ok (.ifCond .eq 14, 3) := by decide +kernel
theorem d_M_order_81 : decode b_M_order 81 = .ok (.iload 4, 2) := by decide +kernel
theorem d_M_order_83 : decode b_M_order 83 = .ok (.ifCond .ge 7, 3) := by decide +kernel
theorem d_M_order_86 : decode b_M_order 86 = .ok (.iconst (-1), 1) := by decide +kernel
theorem d_M_order_87 : decode b_M_order 87 = .ok (.goto 4, 3) := by decide +kernel
theorem d_M_order_90 : decode b_M_order 90 = .ok (.iconst 1, 1) := by decide +kernel
theorem d_M_order_91 : decode b_M_order 91 = .ok (.ireturn, 1) := by decide +kernel
theorem d_M_order_92 : decode b_M_order 92 = .ok (.iinc 3 (-1), 3) := by decide +kernel
theorem d_M_order_95 : decode b_M_order 95 = .ok (.goto (-50), 3) := by decide +kernel
theorem d_M_order_98 : decode b_M_order 98 = .ok (.iconst 0, 1) := by decide +kernel
theorem d_M_order_99 : decode b_M_order 99 = .ok (.ireturn, 1) := by decide +kernel
theorem d_M_figure_0 : decode b_M_figure 0 = .ok (.iload_n 2, 1) := by decide +kernel
theorem d_M_figure_1 : decode b_M_figure 1 = .ok (.aload_n 0, 1) := by decide +kernel
theorem d_M_figure_2 : decode b_M_figure 2 = .ok (.getfield 13, 3) := by decide +kernel
theorem d_M_figure_5 : decode b_M_figure 5 = .ok (.iload_n 1, 1) := by decide +kernel
theorem d_M_figure_6 : decode b_M_figure 6 = .ok (.iaload, 1) := by decide +kernel
theorem d_M_figure_7 : decode b_M_figure 7 = .ok (.if_icmp .ge 18, 3) := by decide +kernel
theorem d_M_figure_10 : decode b_M_figure 10 = .ok (.aload_n 0, 1) := by decide +kernel
theorem d_M_figure_11 : decode b_M_figure 11 = .ok (.getfield 7, 3) := by decide +kernel
theorem d_M_figure_14 : decode b_M_figure 14 = .ok (.sipush 3200, 3) := by decide +kernel
theorem d_M_figure_17 : decode b_M_figure 17 = .ok (.iload_n 1, 1) := by decide +kernel
theorem d_M_figure_18 : decode b_M_figure 18 = .ok (.imul, 1) := by decide +kernel
theorem d_M_figure_19 : decode b_M_figure 19 = .ok (.iload_n 2, 1) := by decide +kernel
theorem d_M_figure_20 : decode b_M_figure 20 = .ok (.iadd, 1) := by decide +kernel
theorem d_M_figure_21 : decode b_M_figure 21 = .ok (.iaload, 1) := by decide +kernel
theorem d_M_figure_22 : decode b_M_figure 22 = .ok (.goto 4, 3) := by decide +kernel
theorem d_M_figure_25 : decode b_M_figure 25 = .ok (.iconst 0, 1) := by decide +kernel
theorem d_M_figure_26 : decode b_M_figure 26 = .ok (.ireturn, 1) := by decide +kernel
theorem d_M_addTo_0 : decode b_M_addTo 0 = .ok (.aload_n 0, 1) := by decide +kernel
theorem d_M_addTo_1 : decode b_M_addTo 1 = .ok (.getfield 13, 3) := by decide +kernel
theorem d_M_addTo_4 : decode b_M_addTo 4 = .ok (.iload_n 1, 1) := by decide +kernel
theorem d_M_addTo_5 : decode b_M_addTo 5 = .ok (.iaload, 1) := by decide +kernel
theorem d_M_addTo_6 : decode b_M_addTo 6 = .ok (.aload_n 0, 1) := by decide +kernel
theorem d_M_addTo_7 : decode b_M_addTo 7 = .ok (.getfield 13, 3) := by decide +kernel
theorem d_M_addTo_10 : decode b_M_addTo 10 = .ok (.iload_n 2, 1) := by decide +kernel
theorem d_M_addTo_11 : decode b_M_addTo 11 = .ok (.iaload, 1) := by decide +kernel
theorem d_M_addTo_12 : decode b_M_addTo 12 = .ok (.if_icmp .le 12, 3) := by decide +kernel
theorem d_M_addTo_15 : decode b_M_addTo 15 = .ok (.aload_n 0, 1) := by decide +kernel
theorem d_M_addTo_16 : decode b_M_addTo 16 = .ok (.getfield 13, 3) := by decide +kernel
theorem d_M_addTo_19 : decode b_M_addTo 19 = .ok (.iload_n 1, 1) := by decide +kernel
theorem d_M_addTo_20 : decode b_M_addTo 20 = .ok (.iaload, 1) := by decide +kernel
theorem d_M_addTo_21 : decode b_M_addTo 21 = .ok (.goto 9, 3) := by decide +kernel
theorem d_M_addTo_24 : decode b_M_addTo 24 = .ok (.aload_n 0, 1) := by decide +kernel
theorem d_M_addTo_25 : decode b_M_addTo 25 = .ok (.getfield 13, 3) := by decide +kernel
theorem d_M_addTo_28 : decode b_M_addTo 28 = .ok (.iload_n 2, 1) := by decide +kernel
theorem d_M_addTo_29 : decode b_M_addTo 29 = .ok (.iaload, 1) := by decide +kernel
theorem d_M_addTo_30 : decode b_M_addTo 30 = .ok (.istore_n 3, 1) := by decide +kernel
theorem d_M_addTo_31 : decode b_M_addTo 31 = .ok (.iconst 0, 1) := by decide +kernel
theorem d_M_addTo_32 : decode b_M_addTo 32 = .ok (.istore 4, 2) := by decide +kernel
theorem d_M_addTo_34 : decode b_M_addTo 34 = .ok (.iconst 0, 1) := by decide +kernel
theorem d_M_addTo_35 : decode b_M_addTo 35 = .ok (.istore 5, 2) := by decide +kernel
theorem d_M_addTo_37 : decode b_M_addTo 37 = .ok (.iload 5, 2) := by decide +kernel
theorem d_M_addTo_39 : decode b_M_addTo 39 = .ok (.iload_n 3, 1) := by decide +kernel
theorem d_M_addTo_40 : decode b_M_addTo 40 = .ok (.if_icmp .ge 56, 3) := by decide +kernel
theorem d_M_addTo_43 : decode b_M_addTo 43 = .ok (.aload_n 0, 1) := by decide +kernel
theorem d_M_addTo_44 : decode b_M_addTo 44 = .ok (.iload_n 1, 1) := by decide +kernel
theorem d_M_addTo_45 : decode b_M_addTo 45 = .ok (.iload 5, 2) := by decide +kernel
theorem d_M_addTo_47 : decode b_M_addTo 47 = .ok (.invokevirtual 42, 3) := by decide +kernel
theorem d_M_addTo_50 : decode b_M_addTo 50 = .ok (.aload_n 0, 1) := by decide +kernel
theorem d_M_addTo_51 : decode b_M_addTo 51 = .ok (.iload_n 2, 1) := by decide +kernel
theorem d_M_addTo_52 : decode b_M_addTo 52 = .ok (.iload 5, 2) := by decide +kernel
theorem d_M_addTo_54 : decode b_M_addTo 54 = .ok (.invokevirtual 42, 3) := by decide +kernel
theorem d_M_addTo_57 : decode b_M_addTo 57 = .ok (.iadd, 1) := by decide +kernel
theorem d_M_addTo_58 : decode b_M_addTo 58 = .ok (.iload 4, 2) := by decide +kernel
theorem d_M_addTo_60 : decode b_M_addTo 60 = .ok (.iadd, 1) := by decide +kernel
theorem d_M_addTo_61 : decode b_M_addTo 61 = .ok (.istore 6, 2) := by decide +kernel
theorem d_M_addTo_63 : decode b_M_addTo 63 = .ok (.aload_n 0, 1) := by decide +kernel
theorem d_M_addTo_64 : decode b_M_addTo 64 = .ok (.getfield 7, 3) := by decide +kernel
theorem d_M_addTo_67 : decode b_M_addTo 67 = .ok (.sipush 3200, 3) := by decide +kernel
theorem d_M_addTo_70 : decode b_M_addTo 70 = .ok (.iload_n 1, 1) := by decide +kernel
theorem d_M_addTo_71 : decode b_M_addTo 71 = .ok (.imul, 1) := by decide +kernel
theorem d_M_addTo_72 : decode b_M_addTo 72 = .ok (.iload 5, 2) := by decide +kernel
theorem d_M_addTo_74 : decode b_M_addTo 74 = .ok (.iadd, 1) := by decide +kernel
theorem d_M_addTo_75 : decode b_M_addTo 75 = .ok (.iload 6, 2) := by decide +kernel
theorem d_M_addTo_77 : decode b_M_addTo 77 = .ok (.sipush 10000, 3) := by decide +kernel
theorem d_M_addTo_80 : decode b_M_addTo 80 = .ok (.irem, 1) := by decide +kernel
theorem d_M_addTo_81 : decode b_M_addTo 81 = .ok (.iastore, 1) := by decide +kernel
theorem d_M_addTo_82 : decode b_M_addTo 82 = .ok (.iload 6, 2) := by decide +kernel
theorem d_M_addTo_84 : decode b_M_addTo 84 = .ok (.sipush 10000, 3) := by decide +kernel
theorem d_M_addTo_87 : decode b_M_addTo 87 = .ok (.idiv, 1) := by decide +kernel
theorem d_M_addTo_88 : decode b_M_addTo 88 = .ok (.istore 4, 2) := by decide +kernel
theorem d_M_addTo_90 : decode b_M_addTo 90 = .ok (.iinc 5 1, 3) := by decide +kernel
theorem d_M_addTo_93 : decode b_M_addTo 93 = .ok (.goto (-56), 3) := by decide +kernel
theorem d_M_addTo_96 : decode b_M_addTo 96 = .ok (.aload_n 0, 1) := by decide +kernel
theorem d_M_addTo_97 : decode b_M_addTo 97 = .ok (.getfield 7, 3) := by decide +kernel
theorem d_M_addTo_100 : decode b_M_addTo 100 = .ok (.sipush 3200, 3) := by decide +kernel
theorem d_M_addTo_103 : decode b_M_addTo 103 = .ok (.iload_n 1, 1) := by decide +kernel
theorem d_M_addTo_104 : decode b_M_addTo 104 = .ok (.imul, 1) := by decide +kernel
theorem d_M_addTo_105 : decode b_M_addTo 105 = .ok (.iload_n 3, 1) := by decide +kernel
theorem d_M_addTo_106 : decode b_M_addTo 106 = .ok (.iadd, 1) := by decide +kernel
theorem d_M_addTo_107 : decode b_M_addTo 107 = .ok (.iload 4, 2) := by decide +kernel
theorem d_M_addTo_109 : decode b_M_addTo 109 = .ok (.iastore, 1) := by decide +kernel
theorem d_M_addTo_110 : decode b_M_addTo 110 = .ok (.aload_n 0, 1) := by decide +kernel
theorem d_M_addTo_111 : decode b_M_addTo 111 = .ok (.iload_n 1, 1) := by decide +kernel
theorem d_M_addTo_112 : decode b_M_addTo 112 = .ok (.iload_n 3, 1) := by decide +kernel
theorem d_M_addTo_113 : decode b_M_addTo 113 = .ok (.iconst 1, 1) := by decide +kernel
theorem d_M_addTo_114 : decode b_M_addTo 114 = .ok (.iadd, 1) := by decide +kernel
theorem d_M_addTo_115 : decode b_M_addTo 115 = .ok (.invokevirtual 46, 3) := by decide +kernel
theorem d_M_addTo_118 : decode b_M_addTo 118 = .ok (.return_, 1) := by decide +kernel
theorem d_M_takeFrom_0 : decode b_M_takeFrom 0 = .ok (.iconst 0, 1) := by decide +kernel
theorem d_M_takeFrom_1 : decode b_M_takeFrom 1 = .ok (.istore_n 3, 1) := by decide +kernel
theorem d_M_takeFrom_2 : decode b_M_takeFrom 2 = .ok (.iconst 0, 1) := by decide +kernel
theorem d_M_takeFrom_3 : decode b_M_takeFrom 3 = .ok (.istore 4, 2) := by decide +kernel
theorem d_M_takeFrom_5 : decode b_M_takeFrom 5 = .ok (.iload 4, 2) := by decide +kernel
theorem d_M_takeFrom_7 : decode b_M_takeFrom 7 = .ok (.aload_n 0, 1) := by decide +kernel
theorem d_M_takeFrom_8 : decode b_M_takeFrom 8 = .ok (.getfield 13, 3) := by decide +kernel
theorem d_M_takeFrom_11 : decode b_M_takeFrom 11 = .ok (.iload_n 1, 1) := by decide +kernel
theorem d_M_takeFrom_12 : decode b_M_takeFrom 12 = .ok (.iaload, 1) := by decide +kernel
theorem d_M_takeFrom_13 : decode b_M_takeFrom 13 = .ok (.if_icmp .ge 74, 3) := by decide +kernel
theorem d_M_takeFrom_16 : decode b_M_takeFrom 16 = .ok (.aload_n 0, 1) := by decide +kernel
theorem d_M_takeFrom_17 : decode b_M_takeFrom 17 = .ok (.getfield 7, 3) := by decide +kernel
theorem d_M_takeFrom_20 : decode b_M_takeFrom 20 = .ok (.sipush 3200, 3) := by decide +kernel
theorem d_M_takeFrom_23 : decode b_M_takeFrom 23 = .ok (.iload_n 1, 1) := by decide +kernel
theorem d_M_takeFrom_24 : decode b_M_takeFrom 24 = .ok (.imul, 1) := by decide +kernel
theorem d_M_takeFrom_25 : decode b_M_takeFrom 25 = .ok (.iload 4, 2) := by decide +kernel
theorem d_M_takeFrom_27 : decode b_M_takeFrom 27 = .ok (.iadd, 1) := by decide +kernel
theorem d_M_takeFrom_28 : decode b_M_takeFrom 28 = .ok (.iaload, 1) := by decide +kernel
theorem d_M_takeFrom_29 : decode b_M_takeFrom 29 = .ok (.aload_n 0, 1) := by decide +kernel
theorem d_M_takeFrom_30 : decode b_M_takeFrom 30 = .ok (.iload_n 2, 1) := by decide +kernel
theorem d_M_takeFrom_31 : decode b_M_takeFrom 31 = .ok (.iload 4, 2) := by decide +kernel
theorem d_M_takeFrom_33 : decode b_M_takeFrom 33 = .ok (.invokevirtual 42, 3) := by decide +kernel
theorem d_M_takeFrom_36 : decode b_M_takeFrom 36 = .ok (.isub, 1) := by decide +kernel
theorem d_M_takeFrom_37 : decode b_M_takeFrom 37 = .ok (.iload_n 3, 1) := by decide +kernel
theorem d_M_takeFrom_38 : decode b_M_takeFrom 38 = .ok (.isub, 1) := by decide +kernel
theorem d_M_takeFrom_39 : decode b_M_takeFrom 39 = .ok (.istore 5, 2) := by decide +kernel
theorem d_M_takeFrom_41 : decode b_M_takeFrom 41 = .ok (.iload 5, 2) := by decide +kernel
theorem d_M_takeFrom_43 : decode b_M_takeFrom 43 = .ok (.ifCond .ge 7, 3) := by decide +kernel
theorem d_M_takeFrom_46 : decode b_M_takeFrom 46 = .ok (.iconst 1, 1) := by decide +kernel
theorem d_M_takeFrom_47 : decode b_M_takeFrom 47 = .ok (.goto 4, 3) := by decide +kernel
theorem d_M_takeFrom_50 : decode b_M_takeFrom 50 = .ok (.iconst 0, 1) := by decide +kernel
theorem d_M_takeFrom_51 : decode b_M_takeFrom 51 = .ok (.istore_n 3, 1) := by decide +kernel
theorem d_M_takeFrom_52 : decode b_M_takeFrom 52 = .ok (.aload_n 0, 1) := by decide +kernel
theorem d_M_takeFrom_53 : decode b_M_takeFrom 53 = .ok (.getfield 7, 3) := by decide +kernel
theorem d_M_takeFrom_56 : decode b_M_takeFrom 56 = .ok (.sipush 3200, 3) := by decide +kernel
theorem d_M_takeFrom_59 : decode b_M_takeFrom 59 = .ok (.iload_n 1, 1) := by decide +kernel
theorem d_M_takeFrom_60 : decode b_M_takeFrom 60 = .ok (.imul, 1) := by decide +kernel
theorem d_M_takeFrom_61 : decode b_M_takeFrom 61 = .ok (.iload 4, 2) := by decide +kernel
theorem d_M_takeFrom_63 : decode b_M_takeFrom 63 = .ok (.iadd, 1) := by decide +kernel
theorem d_M_takeFrom_64 : decode b_M_takeFrom 64 = .ok (.iload 5, 2) := by decide +kernel
theorem d_M_takeFrom_66 : decode b_M_takeFrom 66 = .ok (.ifCond .ge 12, 3) := by decide +kernel
theorem d_M_takeFrom_69 : decode b_M_takeFrom 69 = .ok (.iload 5, 2) := by decide +kernel
theorem d_M_takeFrom_71 : decode b_M_takeFrom 71 = .ok (.sipush 10000, 3) := by decide +kernel
theorem d_M_takeFrom_74 : decode b_M_takeFrom 74 = .ok (.iadd, 1) := by decide +kernel
theorem d_M_takeFrom_75 : decode b_M_takeFrom 75 = .ok (.goto 5, 3) := by decide +kernel
theorem d_M_takeFrom_78 : decode b_M_takeFrom 78 = .ok (.iload 5, 2) := by decide +kernel
theorem d_M_takeFrom_80 : decode b_M_takeFrom 80 = .ok (.iastore, 1) := by decide +kernel
theorem d_M_takeFrom_81 : decode b_M_takeFrom 81 = .ok (.iinc 4 1, 3) := by decide +kernel
theorem d_M_takeFrom_84 : decode b_M_takeFrom 84 = .ok (.goto (-79), 3) := by decide +kernel
theorem d_M_takeFrom_87 : decode b_M_takeFrom 87 = .ok (.aload_n 0, 1) := by decide +kernel
theorem d_M_takeFrom_88 : decode b_M_takeFrom 88 = .ok (.iload_n 1, 1) := by decide +kernel
theorem d_M_takeFrom_89 : decode b_M_takeFrom 89 = .ok (.aload_n 0, 1) := by decide +kernel
theorem d_M_takeFrom_90 : decode b_M_takeFrom 90 = .ok (.getfield 13, 3) := by decide +kernel
theorem d_M_takeFrom_93 : decode b_M_takeFrom 93 = .ok (.iload_n 1, 1) := by decide +kernel
theorem d_M_takeFrom_94 : decode b_M_takeFrom 94 = .ok (.iaload, 1) := by decide +kernel
theorem d_M_takeFrom_95 : decode b_M_takeFrom 95 = .ok (.invokevirtual 46, 3) := by decide +kernel
theorem d_M_takeFrom_98 : decode b_M_takeFrom 98 = .ok (.return_, 1) := by decide +kernel
theorem d_M_small_0 : decode b_M_small 0 = .ok (.lconst 0, 1) := by decide +kernel
theorem d_M_small_1 : decode b_M_small 1 = .ok (.lstore_n 3, 1) := by decide +kernel
theorem d_M_small_2 : decode b_M_small 2 = .ok (.aload_n 0, 1) := by decide +kernel
theorem d_M_small_3 : decode b_M_small 3 = .ok (.getfield 13, 3) := by decide +kernel
theorem d_M_small_6 : decode b_M_small 6 = .ok (.iload_n 1, 1) := by decide +kernel
theorem d_M_small_7 : decode b_M_small 7 = .ok (.iaload, 1) := by decide +kernel
theorem d_M_small_8 : decode b_M_small 8 = .ok (.istore 5, 2) := by decide +kernel
theorem d_M_small_10 : decode b_M_small 10 = .ok (.iconst 0, 1) := by decide +kernel
theorem d_M_small_11 : decode b_M_small 11 = .ok (.istore 6, 2) := by decide +kernel
theorem d_M_small_13 : decode b_M_small 13 = .ok (.iload 6, 2) := by decide +kernel
theorem d_M_small_15 : decode b_M_small 15 = .ok (.iload 5, 2) := by decide +kernel
theorem d_M_small_17 : decode b_M_small 17 = .ok (.if_icmp .ge 54, 3) := by decide +kernel
theorem d_M_small_20 : decode b_M_small 20 = .ok (.lload_n 3, 1) := by decide +kernel
theorem d_M_small_21 : decode b_M_small 21 = .ok (.aload_n 0, 1) := by decide +kernel
theorem d_M_small_22 : decode b_M_small 22 = .ok (.getfield 7, 3) := by decide +kernel
theorem d_M_small_25 : decode b_M_small 25 = .ok (.sipush 3200, 3) := by decide +kernel
theorem d_M_small_28 : decode b_M_small 28 = .ok (.iload_n 1, 1) := by decide +kernel
theorem d_M_small_29 : decode b_M_small 29 = .ok (.imul, 1) := by decide +kernel
theorem d_M_small_30 : decode b_M_small 30 = .ok (.iload 6, 2) := by decide +kernel
theorem d_M_small_32 : decode b_M_small 32 = .ok (.iadd, 1) := by decide +kernel
theorem d_M_small_33 : decode b_M_small 33 = .ok (.iaload, 1) := by decide +kernel
theorem d_M_small_34 : decode b_M_small 34 = .ok (.i2l, 1) := by decide +kernel
theorem d_M_small_35 : decode b_M_small 35 = .ok (.iload_n 2, 1) := by decide +kernel
theorem d_M_small_36 : decode b_M_small 36 = .ok (.i2l, 1) := by decide +kernel
theorem d_M_small_37 : decode b_M_small 37 = .ok (.lmul, 1) := by decide +kernel
theorem d_M_small_38 : decode b_M_small 38 = .ok (.ladd, 1) := by decide +kernel
theorem d_M_small_39 : decode b_M_small 39 = .ok (.lstore_n 3, 1) := by decide +kernel
theorem d_M_small_40 : decode b_M_small 40 = .ok (.aload_n 0, 1) := by decide +kernel
theorem d_M_small_41 : decode b_M_small 41 = .ok (.getfield 7, 3) := by decide +kernel
theorem d_M_small_44 : decode b_M_small 44 = .ok (.sipush 3200, 3) := by decide +kernel
theorem d_M_small_47 : decode b_M_small 47 = .ok (.iload_n 1, 1) := by decide +kernel
theorem d_M_small_48 : decode b_M_small 48 = .ok (.imul, 1) := by decide +kernel
theorem d_M_small_49 : decode b_M_small 49 = .ok (.iload 6, 2) := by decide +kernel
theorem d_M_small_51 : decode b_M_small 51 = .ok (.iadd, 1) := by decide +kernel
theorem d_M_small_52 : decode b_M_small 52 = .ok (.lload_n 3, 1) := by decide +kernel
theorem d_M_small_53 : decode b_M_small 53 = .ok (.ldc2_w 40, 3) := by decide +kernel
theorem d_M_small_56 : decode b_M_small 56 = .ok (.lrem, 1) := by decide +kernel
theorem d_M_small_57 : decode b_M_small 57 = .ok (.l2i, 1) := by decide +kernel
theorem d_M_small_58 : decode b_M_small 58 = .ok (.iastore, 1) := by decide +kernel
theorem d_M_small_59 : decode b_M_small 59 = .ok (.lload_n 3, 1) := by decide +kernel
theorem d_M_small_60 : decode b_M_small 60 = .ok (.ldc2_w 40, 3) := by decide +kernel
theorem d_M_small_63 : decode b_M_small 63 = .ok (.ldiv, 1) := by decide +kernel
theorem d_M_small_64 : decode b_M_small 64 = .ok (.lstore_n 3, 1) := by decide +kernel
theorem d_M_small_65 : decode b_M_small 65 = .ok (.iinc 6 1, 3) := by decide +kernel
theorem d_M_small_68 : decode b_M_small 68 = .ok (.goto (-55), 3) := by decide +kernel
theorem d_M_small_71 : decode b_M_small 71 = .ok (.lload_n 3, 1) := by decide +kernel
theorem d_M_small_72 : decode b_M_small 72 = .ok (.lconst 0, 1) := by decide +kernel
theorem d_M_small_73 : decode b_M_small 73 = .ok (.lcmp, 1) := by decide +kernel
theorem d_M_small_74 : decode b_M_small 74 = .ok (.ifCond .le 34, 3) := by decide +kernel
theorem d_M_small_77 : decode b_M_small 77 = .ok (.aload_n 0, 1) := by decide +kernel
theorem d_M_small_78 : decode b_M_small 78 = .ok (.getfield 7, 3) := by decide +kernel
theorem d_M_small_81 : decode b_M_small 81 = .ok (.sipush 3200, 3) := by decide +kernel
theorem d_M_small_84 : decode b_M_small 84 = .ok (.iload_n 1, 1) := by decide +kernel
theorem d_M_small_85 : decode b_M_small 85 = .ok (.imul, 1) := by decide +kernel
theorem d_M_small_86 : decode b_M_small 86 = .ok (.iload 5, 2) := by decide +kernel
theorem d_M_small_88 : decode b_M_small 88 = .ok (.iadd, 1) := by decide +kernel
theorem d_M_small_89 : decode b_M_small 89 = .ok (.lload_n 3, 1) := by decide +kernel
theorem d_M_small_90 : decode b_M_small 90 = .ok (.ldc2_w 40, 3) := by decide +kernel
theorem d_M_small_93 : decode b_M_small 93 = .ok (.lrem, 1) := by decide +kernel
theorem d_M_small_94 : decode b_M_small 94 = .ok (.l2i, 1) := by decide +kernel
theorem d_M_small_95 : decode b_M_small 95 = .ok (.iastore, 1) := by decide +kernel
theorem d_M_small_96 : decode b_M_small 96 = .ok (.lload_n 3, 1) := by decide +kernel
theorem d_M_small_97 : decode b_M_small 97 = .ok (.ldc2_w 40, 3) := by decide +kernel
theorem d_M_small_100 : decode b_M_small 100 = .ok (.ldiv, 1) := by decide +kernel
theorem d_M_small_101 : decode b_M_small 101 = .ok (.lstore_n 3, 1) := by decide +kernel
theorem d_M_small_102 : decode b_M_small 102 = .ok (.iinc 5 1, 3) := by decide +kernel
theorem d_M_small_105 : decode b_M_small 105 = .ok (.goto (-34), 3) := by decide +kernel
theorem d_M_small_108 : decode b_M_small 108 = .ok (.aload_n 0, 1) := by decide +kernel
theorem d_M_small_109 : decode b_M_small 109 = .ok (.iload_n 1, 1) := by decide +kernel
theorem d_M_small_110 : decode b_M_small 110 = .ok (.iload 5, 2) := by decide +kernel
theorem d_M_small_112 : decode b_M_small 112 = .ok (.invokevirtual 46, 3) := by decide +kernel
theorem d_M_small_115 : decode b_M_small 115 = .ok (.return_, 1) := by decide +kernel
theorem d_M_product_0 : decode b_M_product 0 = .ok (.aload_n 0, 1) := by decide +kernel
theorem d_M_product_1 : decode b_M_product 1 = .ok (.getfield 13, 3) := by decide +kernel
theorem d_M_product_4 : decode b_M_product 4 = .ok (.iload_n 2, 1) := by decide +kernel
theorem d_M_product_5 : decode b_M_product 5 = .ok (.iaload, 1) := by decide +kernel
theorem d_M_product_6 : decode b_M_product 6 = .ok (.aload_n 0, 1) := by decide +kernel
theorem d_M_product_7 : decode b_M_product 7 = .ok (.getfield 13, 3) := by decide +kernel
theorem d_M_product_10 : decode b_M_product 10 = .ok (.iload_n 3, 1) := by decide +kernel
theorem d_M_product_11 : decode b_M_product 11 = .ok (.iaload, 1) := by decide +kernel
theorem d_M_product_12 : decode b_M_product 12 = .ok (.iadd, 1) := by decide +kernel
theorem d_M_product_13 : decode b_M_product 13 = .ok (.istore 4, 2) := by decide +kernel
theorem d_M_product_15 : decode b_M_product 15 = .ok (.iconst 0, 1) := by decide +kernel
theorem d_M_product_16 : decode b_M_product 16 = .ok (.istore 5, 2) := by decide +kernel
theorem d_M_product_18 : decode b_M_product 18 = .ok (.iload 5, 2) := by decide +kernel
theorem d_M_product_20 : decode b_M_product 20 = .ok (.iload 4, 2) := by decide +kernel
theorem d_M_product_22 : decode b_M_product 22 = .ok (.if_icmp .ge 23, 3) := by decide +kernel
theorem d_M_product_25 : decode b_M_product 25 = .ok (.aload_n 0, 1) := by decide +kernel
theorem d_M_product_26 : decode b_M_product 26 = .ok (.getfield 7, 3) := by decide +kernel
theorem d_M_product_29 : decode b_M_product 29 = .ok (.sipush 3200, 3) := by decide +kernel
theorem d_M_product_32 : decode b_M_product 32 = .ok (.iload_n 1, 1) := by decide +kernel
theorem d_M_product_33 : decode b_M_product 33 = .ok (.imul, 1) := by decide +kernel
theorem d_M_product_34 : decode b_M_product 34 = .ok (.iload 5, 2) := by decide +kernel
theorem d_M_product_36 : decode b_M_product 36 = .ok (.iadd, 1) := by decide +kernel
theorem d_M_product_37 : decode b_M_product 37 = .ok (.iconst 0, 1) := by decide +kernel
theorem d_M_product_38 : decode b_M_product 38 = .ok (.iastore, 1) := by decide +kernel
theorem d_M_product_39 : decode b_M_product 39 = .ok (.iinc 5 1, 3) := by decide +kernel
theorem d_M_product_42 : decode b_M_product 42 = .ok (.goto (-24), 3) := by decide +kernel
theorem d_M_product_45 : decode b_M_product 45 = .ok (.iconst 0, 1) := by decide +kernel
theorem d_M_product_46 : decode b_M_product 46 = .ok (.istore 5, 2) := by decide +kernel
theorem d_M_product_48 : decode b_M_product 48 = .ok (.iload 5, 2) := by decide +kernel
theorem d_M_product_50 : decode b_M_product 50 = .ok (.aload_n 0, 1) := by decide +kernel
theorem d_M_product_51 : decode b_M_product 51 = .ok (.getfield 13, 3) := by decide +kernel
theorem d_M_product_54 : decode b_M_product 54 = .ok (.iload_n 2, 1) := by decide +kernel
theorem d_M_product_55 : decode b_M_product 55 = .ok (.iaload, 1) := by decide +kernel
theorem d_M_product_56 : decode b_M_product 56 = .ok (.if_icmp .ge 182, 3) := by decide +kernel
theorem d_M_product_59 : decode b_M_product 59 = .ok (.aload_n 0, 1) := by decide +kernel
theorem d_M_product_60 : decode b_M_product 60 = .ok (.getfield 7, 3) := by decide +kernel
theorem d_M_product_63 : decode b_M_product 63 = .ok (.sipush 3200, 3) := by decide +kernel
theorem d_M_product_66 : decode b_M_product 66 = .ok (.iload_n 2, 1) := by decide +kernel
theorem d_M_product_67 : decode b_M_product 67 = .ok (.imul, 1) := by decide +kernel
theorem d_M_product_68 : decode b_M_product 68 = .ok (.iload 5, 2) := by decide +kernel
theorem d_M_product_70 : decode b_M_product 70 = .ok (.iadd, 1) := by decide +kernel
theorem d_M_product_71 : decode b_M_product 71 = .ok (.iaload, 1) := by decide +kernel
theorem d_M_product_72 : decode b_M_product 72 = .ok (.istore 6, 2) := by decide +kernel
theorem d_M_product_74 : decode b_M_product 74 = .ok (.iconst 0, 1) := by decide +kernel
theorem d_M_product_75 : decode b_M_product 75 = .ok (.istore 7, 2) := by decide +kernel
theorem d_M_product_77 : decode b_M_product 77 = .ok (.iconst 0, 1) := by decide +kernel
theorem d_M_product_78 : decode b_M_product 78 = .ok (.istore 8, 2) := by decide +kernel
theorem d_M_product_80 : decode b_M_product 80 = .ok (.iload 8, 2) := by decide +kernel
theorem d_M_product_82 : decode b_M_product 82 = .ok (.aload_n 0, 1) := by decide +kernel
theorem d_M_product_83 : decode b_M_product 83 = .ok (.getfield 13, 3) := by decide +kernel
theorem d_M_product_86 : decode b_M_product 86 = .ok (.iload_n 3, 1) := by decide +kernel
theorem d_M_product_87 : decode b_M_product 87 = .ok (.iaload, 1) := by decide +kernel
theorem d_M_product_88 : decode b_M_product 88 = .ok (.if_icmp .ge 77, 3) := by decide +kernel
theorem d_M_product_91 : decode b_M_product 91 = .ok (.aload_n 0, 1) := by decide +kernel
theorem d_M_product_92 : decode b_M_product 92 = .ok (.getfield 7, 3) := by decide +kernel
theorem d_M_product_95 : decode b_M_product 95 = .ok (.sipush 3200, 3) := by decide +kernel
theorem d_M_product_98 : decode b_M_product 98 = .ok (.iload_n 1, 1) := by decide +kernel
theorem d_M_product_99 : decode b_M_product 99 = .ok (.imul, 1) := by decide +kernel
theorem d_M_product_100 : decode b_M_product 100 = .ok (.iload 5, 2) := by decide +kernel
theorem d_M_product_102 : decode b_M_product 102 = .ok (.iadd, 1) := by decide +kernel
theorem d_M_product_103 : decode b_M_product 103 = .ok (.iload 8, 2) := by decide +kernel
theorem d_M_product_105 : decode b_M_product 105 = .ok (.iadd, 1) := by decide +kernel
theorem d_M_product_106 : decode b_M_product 106 = .ok (.iaload, 1) := by decide +kernel
theorem d_M_product_107 : decode b_M_product 107 = .ok (.iload 6, 2) := by decide +kernel
theorem d_M_product_109 : decode b_M_product 109 = .ok (.aload_n 0, 1) := by decide +kernel
theorem d_M_product_110 : decode b_M_product 110 = .ok (.getfield 7, 3) := by decide +kernel
theorem d_M_product_113 : decode b_M_product 113 = .ok (.sipush 3200, 3) := by decide +kernel
theorem d_M_product_116 : decode b_M_product 116 = .ok (.iload_n 3, 1) := by decide +kernel
theorem d_M_product_117 : decode b_M_product 117 = .ok (.imul, 1) := by decide +kernel
theorem d_M_product_118 : decode b_M_product 118 = .ok (.iload 8, 2) := by decide +kernel
theorem d_M_product_120 : decode b_M_product 120 = .ok (.iadd, 1) := by decide +kernel
theorem d_M_product_121 : decode b_M_product 121 = .ok (.iaload, 1) := by decide +kernel
theorem d_M_product_122 : decode b_M_product 122 = .ok (.imul, 1) := by decide +kernel
theorem d_M_product_123 : decode b_M_product 123 = .ok (.iadd, 1) := by decide +kernel
theorem d_M_product_124 : decode b_M_product 124 = .ok (.iload 7, 2) := by decide +kernel
theorem d_M_product_126 : decode b_M_product 126 = .ok (.iadd, 1) := by decide +kernel
theorem d_M_product_127 : decode b_M_product 127 = .ok (.istore 9, 2) := by decide +kernel
theorem d_M_product_129 : decode b_M_product 129 = .ok (.aload_n 0, 1) := by decide +kernel
theorem d_M_product_130 : decode b_M_product 130 = .ok (.getfield 7, 3) := by decide +kernel
theorem d_M_product_133 : decode b_M_product 133 = .ok (.sipush 3200, 3) := by decide +kernel
theorem d_M_product_136 : decode b_M_product 136 = .ok (.iload_n 1, 1) := by decide +kernel
theorem d_M_product_137 : decode b_M_product 137 = .ok (.imul, 1) := by decide +kernel
theorem d_M_product_138 : decode b_M_product 138 = .ok (.iload 5, 2) := by decide +kernel
theorem d_M_product_140 : decode b_M_product 140 = .ok (.iadd, 1) := by decide +kernel
theorem d_M_product_141 : decode b_M_product 141 = .ok (.iload 8, 2) := by decide +kernel
theorem d_M_product_143 : decode b_M_product 143 = .ok (.iadd, 1) := by decide +kernel
theorem d_M_product_144 : decode b_M_product 144 = .ok (.iload 9, 2) := by decide +kernel
theorem d_M_product_146 : decode b_M_product 146 = .ok (.sipush 10000, 3) := by decide +kernel
theorem d_M_product_149 : decode b_M_product 149 = .ok (.irem, 1) := by decide +kernel
theorem d_M_product_150 : decode b_M_product 150 = .ok (.iastore, 1) := by decide +kernel
theorem d_M_product_151 : decode b_M_product 151 = .ok (.iload 9, 2) := by decide +kernel
theorem d_M_product_153 : decode b_M_product 153 = .ok (.sipush 10000, 3) := by decide +kernel
theorem d_M_product_156 : decode b_M_product 156 = .ok (.idiv, 1) := by decide +kernel
theorem d_M_product_157 : decode b_M_product 157 = .ok (.istore 7, 2) := by decide +kernel
theorem d_M_product_159 : decode b_M_product 159 = .ok (.iinc 8 1, 3) := by decide +kernel
theorem d_M_product_162 : decode b_M_product 162 = .ok (.goto (-82), 3) := by decide +kernel
theorem d_M_product_165 : decode b_M_product 165 = .ok (.iload 5, 2) := by decide +kernel
theorem d_M_product_167 : decode b_M_product 167 = .ok (.aload_n 0, 1) := by decide +kernel
theorem d_M_product_168 : decode b_M_product 168 = .ok (.getfield 13, 3) := by decide +kernel
theorem d_M_product_171 : decode b_M_product 171 = .ok (.iload_n 3, 1) := by decide +kernel
theorem d_M_product_172 : decode b_M_product 172 = .ok (.iaload, 1) := by decide +kernel
theorem d_M_product_173 : decode b_M_product 173 = .ok (.iadd, 1) := by decide +kernel
theorem d_M_product_174 : decode b_M_product 174 = .ok (.istore 8, 2) := by decide +kernel
theorem d_M_product_176 : decode b_M_product 176 = .ok (.iload 7, 2) := by decide +kernel
theorem d_M_product_178 : decode b_M_product 178 = .ok (.ifCond .le 54, 3) := by decide +kernel
theorem d_M_product_181 : decode b_M_product 181 = .ok (.aload_n 0, 1) := by decide +kernel
theorem d_M_product_182 : decode b_M_product 182 = .ok (.getfield 7, 3) := by decide +kernel
theorem d_M_product_185 : decode b_M_product 185 = .ok (.sipush 3200, 3) := by decide +kernel
theorem d_M_product_188 : decode b_M_product 188 = .ok (.iload_n 1, 1) := by decide +kernel
theorem d_M_product_189 : decode b_M_product 189 = .ok (.imul, 1) := by decide +kernel
theorem d_M_product_190 : decode b_M_product 190 = .ok (.iload 8, 2) := by decide +kernel
theorem d_M_product_192 : decode b_M_product 192 = .ok (.iadd, 1) := by decide +kernel
theorem d_M_product_193 : decode b_M_product 193 = .ok (.iaload, 1) := by decide +kernel
theorem d_M_product_194 : decode b_M_product 194 = .ok (.iload 7, 2) := by decide +kernel
theorem d_M_product_196 : decode b_M_product 196 = .ok (.iadd, 1) := by decide +kernel
theorem d_M_product_197 : decode b_M_product 197 = .ok (.istore 9, 2) := by decide +kernel
theorem d_M_product_199 : decode b_M_product 199 = .ok (.aload_n 0, 1) := by decide +kernel
theorem d_M_product_200 : decode b_M_product 200 = .ok (.getfield 7, 3) := by decide +kernel
theorem d_M_product_203 : decode b_M_product 203 = .ok (.sipush 3200, 3) := by decide +kernel
theorem d_M_product_206 : decode b_M_product 206 = .ok (.iload_n 1, 1) := by decide +kernel
theorem d_M_product_207 : decode b_M_product 207 = .ok (.imul, 1) := by decide +kernel
theorem d_M_product_208 : decode b_M_product 208 = .ok (.iload 8, 2) := by decide +kernel
theorem d_M_product_210 : decode b_M_product 210 = .ok (.iadd, 1) := by decide +kernel
theorem d_M_product_211 : decode b_M_product 211 = .ok (.iload 9, 2) := by decide +kernel
theorem d_M_product_213 : decode b_M_product 213 = .ok (.sipush 10000, 3) := by decide +kernel
theorem d_M_product_216 : decode b_M_product 216 = .ok (.irem, 1) := by decide +kernel
theorem d_M_product_217 : decode b_M_product 217 = .ok (.iastore, 1) := by decide +kernel
theorem d_M_product_218 : decode b_M_product 218 = .ok (.iload 9, 2) := by decide +kernel
theorem d_M_product_220 : decode b_M_product 220 = .ok (.sipush 10000, 3) := by decide +kernel
theorem d_M_product_223 : decode b_M_product 223 = .ok (.idiv, 1) := by decide +kernel
theorem d_M_product_224 : decode b_M_product 224 = .ok (.istore 7, 2) := by decide +kernel
theorem d_M_product_226 : decode b_M_product 226 = .ok (.iinc 8 1, 3) := by decide +kernel
theorem d_M_product_229 : decode b_M_product 229 = .ok (.goto (-53), 3) := by decide +kernel
theorem d_M_product_232 : decode b_M_product 232 = .ok (.iinc 5 1, 3) := by decide +kernel
theorem d_M_product_235 : decode b_M_product 235 = .ok (.goto (-187), 3) := by decide +kernel
theorem d_M_product_238 : decode b_M_product 238 = .ok (.aload_n 0, 1) := by decide +kernel
theorem d_M_product_239 : decode b_M_product 239 = .ok (.iload_n 1, 1) := by decide +kernel
theorem d_M_product_240 : decode b_M_product 240 = .ok (.iload 4, 2) := by decide +kernel
theorem d_M_product_242 : decode b_M_product 242 = .ok (.invokevirtual 46, 3) := by decide +kernel
theorem d_M_product_245 : decode b_M_product 245 = .ok (.return_, 1) := by decide +kernel
theorem d_M_takes_0 : decode b_M_takes 0 = .ok (.iconst 0, 1) := by decide +kernel
theorem d_M_takes_1 : decode b_M_takes 1 = .ok (.istore 5, 2) := by decide +kernel
theorem d_M_takes_3 : decode b_M_takes 3 = .ok (.aload_n 0, 1) := by decide +kernel
theorem d_M_takes_4 : decode b_M_takes 4 = .ok (.getfield 13, 3) := by decide +kernel
theorem d_M_takes_7 : decode b_M_takes 7 = .ok (.iload_n 2, 1) := by decide +kernel
theorem d_M_takes_8 : decode b_M_takes 8 = .ok (.iaload, 1) := by decide +kernel
theorem d_M_takes_9 : decode b_M_takes 9 = .ok (.istore 6, 2) := by decide +kernel
theorem d_M_takes_11 : decode b_M_takes 11 = .ok (.iconst 0, 1) := by decide +kernel
theorem d_M_takes_12 : decode b_M_takes 12 = .ok (.istore 7, 2) := by decide +kernel
theorem d_M_takes_14 : decode b_M_takes 14 = .ok (.iload 7, 2) := by decide +kernel
theorem d_M_takes_16 : decode b_M_takes 16 = .ok (.iload 6, 2) := by decide +kernel
theorem d_M_takes_18 : decode b_M_takes 18 = .ok (.if_icmp .gt 111, 3) := by decide +kernel
theorem d_M_takes_21 : decode b_M_takes 21 = .ok (.aload_n 0, 1) := by decide +kernel
theorem d_M_takes_22 : decode b_M_takes 22 = .ok (.getfield 7, 3) := by decide +kernel
theorem d_M_takes_25 : decode b_M_takes 25 = .ok (.sipush 3200, 3) := by decide +kernel
theorem d_M_takes_28 : decode b_M_takes 28 = .ok (.iload_n 1, 1) := by decide +kernel
theorem d_M_takes_29 : decode b_M_takes 29 = .ok (.imul, 1) := by decide +kernel
theorem d_M_takes_30 : decode b_M_takes 30 = .ok (.iload_n 3, 1) := by decide +kernel
theorem d_M_takes_31 : decode b_M_takes 31 = .ok (.iadd, 1) := by decide +kernel
theorem d_M_takes_32 : decode b_M_takes 32 = .ok (.iload 7, 2) := by decide +kernel
theorem d_M_takes_34 : decode b_M_takes 34 = .ok (.iadd, 1) := by decide +kernel
theorem d_M_takes_35 : decode b_M_takes 35 = .ok (.iaload, 1) := by decide +kernel
theorem d_M_takes_36 : decode b_M_takes 36 = .ok (.iload 4, 2) := by decide +kernel
theorem d_M_takes_38 : decode b_M_takes 38 = .ok (.iload 7, 2) := by decide +kernel
theorem d_M_takes_40 : decode b_M_takes 40 = .ok (.iload 6, 2) := by decide +kernel
theorem d_M_takes_42 : decode b_M_takes 42 = .ok (.if_icmp .ge 19, 3) := by decide +kernel
theorem d_M_takes_45 : decode b_M_takes 45 = .ok (.aload_n 0, 1) := by decide +kernel
theorem d_M_takes_46 : decode b_M_takes 46 = .ok (.getfield 7, 3) := by decide +kernel
theorem d_M_takes_49 : decode b_M_takes 49 = .ok (.sipush 3200, 3) := by decide +kernel
theorem d_M_takes_52 : decode b_M_takes 52 = .ok (.iload_n 2, 1) := by decide +kernel
theorem d_M_takes_53 : decode b_M_takes 53 = .ok (.imul, 1) := by decide +kernel
theorem d_M_takes_54 : decode b_M_takes 54 = .ok (.iload 7, 2) := by decide +kernel
theorem d_M_takes_56 : decode b_M_takes 56 = .ok (.iadd, 1) := by decide +kernel
theorem d_M_takes_57 : decode b_M_takes 57 = .ok (.iaload, 1) := by decide +kernel
theorem d_M_takes_58 : decode b_M_takes 58 = .ok (.goto 4, 3) := by decide +kernel
theorem d_M_takes_61 : decode b_M_takes 61 = .ok (.iconst 0, 1) := by decide +kernel
theorem d_M_takes_62 : decode b_M_takes 62 = .ok (.imul, 1) := by decide +kernel
theorem d_M_takes_63 : decode b_M_takes 63 = .ok (.isub, 1) := by decide +kernel
theorem d_M_takes_64 : decode b_M_takes 64 = .ok (.iload 5, 2) := by decide +kernel
theorem d_M_takes_66 : decode b_M_takes 66 = .ok (.isub, 1) := by decide +kernel
theorem d_M_takes_67 : decode b_M_takes 67 = .ok (.istore 8, 2) := by decide +kernel
theorem d_M_takes_69 : decode b_M_takes 69 = .ok (.iload 8, 2) := by decide +kernel
theorem d_M_takes_71 : decode b_M_takes 71 = .ok (.sipush 10000, 3) := by decide +kernel
theorem d_M_takes_74 : decode b_M_takes 74 = .ok (.irem, 1) := by decide +kernel
theorem d_M_takes_75 : decode b_M_takes 75 = .ok (.istore 9, 2) := by decide +kernel
theorem d_M_takes_77 : decode b_M_takes 77 = .ok (.iload 9, 2) := by decide +kernel
theorem d_M_takes_79 : decode b_M_takes 79 = .ok (.ifCond .ge 12, 3) := by decide +kernel
theorem d_M_takes_82 : decode b_M_takes 82 = .ok (.iload 9, 2) := by decide +kernel
theorem d_M_takes_84 : decode b_M_takes 84 = .ok (.sipush 10000, 3) := by decide +kernel
theorem d_M_takes_87 : decode b_M_takes 87 = .ok (.iadd, 1) := by decide +kernel
theorem d_M_takes_88 : decode b_M_takes 88 = .ok (.goto 5, 3) := by decide +kernel
theorem d_M_takes_91 : decode b_M_takes 91 = .ok (.iload 9, 2) := by decide +kernel
theorem d_M_takes_93 : decode b_M_takes 93 = .ok (.istore 9, 2) := by decide +kernel
theorem d_M_takes_95 : decode b_M_takes 95 = .ok (.iload 9, 2) := by decide +kernel
theorem d_M_takes_97 : decode b_M_takes 97 = .ok (.iload 8, 2) := by decide +kernel
theorem d_M_takes_99 : decode b_M_takes 99 = .ok (.isub, 1) := by decide +kernel
theorem d_M_takes_100 : decode b_M_takes 100 = .ok (.sipush 10000, 3) := by decide +kernel
theorem d_M_takes_103 : decode b_M_takes 103 = .ok (.idiv, 1) := by decide +kernel
theorem d_M_takes_104 : decode b_M_takes 104 = .ok (.istore 5, 2) := by decide +kernel
theorem d_M_takes_106 : decode b_M_takes 106 = .ok (.aload_n 0, 1) := by decide +kernel
theorem d_M_takes_107 : decode b_M_takes 107 = .ok (.getfield 7, 3) := by decide +kernel
theorem d_M_takes_110 : decode b_M_takes 110 = .ok (.sipush 3200, 3) := by decide +kernel
theorem d_M_takes_113 : decode b_M_takes 113 = .ok (.iload_n 1, 1) := by decide +kernel
theorem d_M_takes_114 : decode b_M_takes 114 = .ok (.imul, 1) := by decide +kernel
theorem d_M_takes_115 : decode b_M_takes 115 = .ok (.iload_n 3, 1) := by decide +kernel
theorem d_M_takes_116 : decode b_M_takes 116 = .ok (.iadd, 1) := by decide +kernel
theorem d_M_takes_117 : decode b_M_takes 117 = .ok (.iload 7, 2) := by decide +kernel
theorem d_M_takes_119 : decode b_M_takes 119 = .ok (.iadd, 1) := by decide +kernel
theorem d_M_takes_120 : decode b_M_takes 120 = .ok (.iload 9, 2) := by decide +kernel
theorem d_M_takes_122 : decode b_M_takes 122 = .ok (.iastore, 1) := by decide +kernel
theorem d_M_takes_123 : decode b_M_takes 123 = .ok (.iinc 7 1, 3) := by decide +kernel
theorem d_M_takes_126 : decode b_M_takes 126 = .ok (.goto (-112), 3) := by decide +kernel
theorem d_M_takes_129 : decode b_M_takes 129 = .ok (.iload 5, 2) := by decide +kernel
theorem d_M_takes_131 : decode b_M_takes 131 = .ok (.ifCond .ne 5, 3) := by decide +kernel
theorem d_M_takes_134 : decode b_M_takes 134 = .ok (.iconst 1, 1) := by decide +kernel
theorem d_M_takes_135 : decode b_M_takes 135 = .ok (.ireturn, 1) := by decide +kernel
theorem d_M_takes_136 : decode b_M_takes 136 = .ok (.iconst 0, 1) := by decide +kernel
theorem d_M_takes_137 : decode b_M_takes 137 = .ok (.istore 7, 2) := by decide +kernel
theorem d_M_takes_139 : decode b_M_takes 139 = .ok (.iconst 0, 1) := by decide +kernel
theorem d_M_takes_140 : decode b_M_takes 140 = .ok (.istore 8, 2) := by decide +kernel
theorem d_M_takes_142 : decode b_M_takes 142 = .ok (.iload 8, 2) := by decide +kernel
theorem d_M_takes_144 : decode b_M_takes 144 = .ok (.iload 6, 2) := by decide +kernel
theorem d_M_takes_146 : decode b_M_takes 146 = .ok (.if_icmp .gt 86, 3) := by decide +kernel
theorem d_M_takes_149 : decode b_M_takes 149 = .ok (.aload_n 0, 1) := by decide +kernel
theorem d_M_takes_150 : decode b_M_takes 150 = .ok (.getfield 7, 3) := by decide +kernel
theorem d_M_takes_153 : decode b_M_takes 153 = .ok (.sipush 3200, 3) := by decide +kernel
theorem d_M_takes_156 : decode b_M_takes 156 = .ok (.iload_n 1, 1) := by decide +kernel
theorem d_M_takes_157 : decode b_M_takes 157 = .ok (.imul, 1) := by decide +kernel
theorem d_M_takes_158 : decode b_M_takes 158 = .ok (.iload_n 3, 1) := by decide +kernel
theorem d_M_takes_159 : decode b_M_takes 159 = .ok (.iadd, 1) := by decide +kernel
theorem d_M_takes_160 : decode b_M_takes 160 = .ok (.iload 8, 2) := by decide +kernel
theorem d_M_takes_162 : decode b_M_takes 162 = .ok (.iadd, 1) := by decide +kernel
theorem d_M_takes_163 : decode b_M_takes 163 = .ok (.iaload, 1) := by decide +kernel
theorem d_M_takes_164 : decode b_M_takes 164 = .ok (.iload 4, 2) := by decide +kernel
theorem d_M_takes_166 : decode b_M_takes 166 = .ok (.iload 8, 2) := by decide +kernel
theorem d_M_takes_168 : decode b_M_takes 168 = .ok (.iload 6, 2) := by decide +kernel
theorem d_M_takes_170 : decode b_M_takes 170 = .ok (.if_icmp .ge 19, 3) := by decide +kernel
theorem d_M_takes_173 : decode b_M_takes 173 = .ok (.aload_n 0, 1) := by decide +kernel
theorem d_M_takes_174 : decode b_M_takes 174 = .ok (.getfield 7, 3) := by decide +kernel
theorem d_M_takes_177 : decode b_M_takes 177 = .ok (.sipush 3200, 3) := by decide +kernel
theorem d_M_takes_180 : decode b_M_takes 180 = .ok (.iload_n 2, 1) := by decide +kernel
theorem d_M_takes_181 : decode b_M_takes 181 = .ok (.imul, 1) := by decide +kernel
theorem d_M_takes_182 : decode b_M_takes 182 = .ok (.iload 8, 2) := by decide +kernel
theorem d_M_takes_184 : decode b_M_takes 184 = .ok (.iadd, 1) := by decide +kernel
theorem d_M_takes_185 : decode b_M_takes 185 = .ok (.iaload, 1) := by decide +kernel
theorem d_M_takes_186 : decode b_M_takes 186 = .ok (.goto 4, 3) := by decide +kernel
theorem d_M_takes_189 : decode b_M_takes 189 = .ok (.iconst 0, 1) := by decide +kernel
theorem d_M_takes_190 : decode b_M_takes 190 = .ok (.imul, 1) := by decide +kernel
theorem d_M_takes_191 : decode b_M_takes 191 = .ok (.iadd, 1) := by decide +kernel
theorem d_M_takes_192 : decode b_M_takes 192 = .ok (.iload 7, 2) := by decide +kernel
theorem d_M_takes_194 : decode b_M_takes 194 = .ok (.iadd, 1) := by decide +kernel
theorem d_M_takes_195 : decode b_M_takes 195 = .ok (.istore 9, 2) := by decide +kernel
theorem d_M_takes_197 : decode b_M_takes 197 = .ok (.aload_n 0, 1) := by decide +kernel
theorem d_M_takes_198 : decode b_M_takes 198 = .ok (.getfield 7, 3) := by decide +kernel
theorem d_M_takes_201 : decode b_M_takes 201 = .ok (.sipush 3200, 3) := by decide +kernel
theorem d_M_takes_204 : decode b_M_takes 204 = .ok (.iload_n 1, 1) := by decide +kernel
theorem d_M_takes_205 : decode b_M_takes 205 = .ok (.imul, 1) := by decide +kernel
theorem d_M_takes_206 : decode b_M_takes 206 = .ok (.iload_n 3, 1) := by decide +kernel
theorem d_M_takes_207 : decode b_M_takes 207 = .ok (.iadd, 1) := by decide +kernel
theorem d_M_takes_208 : decode b_M_takes 208 = .ok (.iload 8, 2) := by decide +kernel
end
section
theorem d_M_takes_210 : decode b_M_takes 210 = .ok (.iadd, 1) := by decide +kernel
theorem d_M_takes_211 : decode b_M_takes 211 = .ok (.iload 9, 2) := by decide +kernel
theorem d_M_takes_213 : decode b_M_takes 213 = .ok (.sipush 10000, 3) := by decide +kernel
theorem d_M_takes_216 : decode b_M_takes 216 = .ok (.irem, 1) := by decide +kernel
theorem d_M_takes_217 : decode b_M_takes 217 = .ok (.iastore, 1) := by decide +kernel
theorem d_M_takes_218 : decode b_M_takes 218 = .ok (.iload 9, 2) := by decide +kernel
theorem d_M_takes_220 : decode b_M_takes 220 = .ok (.sipush 10000, 3) := by decide +kernel
theorem d_M_takes_223 : decode b_M_takes 223 = .ok (.idiv, 1) := by decide +kernel
theorem d_M_takes_224 : decode b_M_takes 224 = .ok (.istore 7, 2) := by decide +kernel
theorem d_M_takes_226 : decode b_M_takes 226 = .ok (.iinc 8 1, 3) := by decide +kernel
theorem d_M_takes_229 : decode b_M_takes 229 = .ok (.goto (-87), 3) := by decide +kernel
theorem d_M_takes_232 : decode b_M_takes 232 = .ok (.iconst 0, 1) := by decide +kernel
theorem d_M_takes_233 : decode b_M_takes 233 = .ok (.ireturn, 1) := by decide +kernel
theorem d_M_divideBy_0 : decode b_M_divideBy 0 = .ok (.aload_n 0, 1) := by decide +kernel
theorem d_M_divideBy_1 : decode b_M_divideBy 1 = .ok (.getfield 13, 3) := by decide +kernel
theorem d_M_divideBy_4 : decode b_M_divideBy 4 = .ok (.iload_n 3, 1) := by decide +kernel
theorem d_M_divideBy_5 : decode b_M_divideBy 5 = .ok (.iaload, 1) := by decide +kernel
theorem d_M_divideBy_6 : decode b_M_divideBy 6 = .ok (.istore 4, 2) := by decide +kernel
theorem d_M_divideBy_8 : decode b_M_divideBy 8 = .ok (.aload_n 0, 1) := by decide +kernel
theorem d_M_divideBy_9 : decode b_M_divideBy 9 = .ok (.getfield 13, 3) := by decide +kernel
theorem d_M_divideBy_12 : decode b_M_divideBy 12 = .ok (.iload_n 2, 1) := by decide +kernel
theorem d_M_divideBy_13 : decode b_M_divideBy 13 = .ok (.iaload, 1) := by decide +kernel
theorem d_M_divideBy_14 : decode b_M_divideBy 14 = .ok (.istore 5, 2) := by decide +kernel
theorem d_M_divideBy_16 : decode b_M_divideBy 16 = .ok (.iload 5, 2) := by decide +kernel
theorem d_M_divideBy_18 : decode b_M_divideBy 18 = .ok (.iload 4, 2) := by decide +kernel
theorem d_M_divideBy_20 : decode b_M_divideBy 20 = .ok (.if_icmp .ge 11, 3) := by decide +kernel
theorem d_M_divideBy_23 : decode b_M_divideBy 23 = .ok (.aload_n 0, 1) := by decide +kernel
theorem d_M_divideBy_24 : decode b_M_divideBy 24 = .ok (.getfield 13, 3) := by decide +kernel
theorem d_M_divideBy_27 : decode b_M_divideBy 27 = .ok (.iload_n 1, 1) := by decide +kernel
theorem d_M_divideBy_28 : decode b_M_divideBy 28 = .ok (.iconst 0, 1) := by decide +kernel
theorem d_M_divideBy_29 : decode b_M_divideBy 29 = .ok (.iastore, 1) := by decide +kernel
theorem d_M_divideBy_30 : decode b_M_divideBy 30 = .ok (.return_, 1) := by decide +kernel
theorem d_M_divideBy_31 : decode b_M_divideBy 31 = .ok (.aload_n 0, 1) := by decide +kernel
theorem d_M_divideBy_32 : decode b_M_divideBy 32 = .ok (.getfield 7, 3) := by decide +kernel
theorem d_M_divideBy_35 : decode b_M_divideBy 35 = .ok (.sipush 3200, 3) := by decide +kernel
theorem d_M_divideBy_38 : decode b_M_divideBy 38 = .ok (.iload_n 2, 1) := by decide +kernel
theorem d_M_divideBy_39 : decode b_M_divideBy 39 = .ok (.imul, 1) := by decide +kernel
theorem d_M_divideBy_40 : decode b_M_divideBy 40 = .ok (.iload 5, 2) := by decide +kernel
theorem d_M_divideBy_42 : decode b_M_divideBy 42 = .ok (.iadd, 1) := by decide +kernel
theorem d_M_divideBy_43 : decode b_M_divideBy 43 = .ok (.iconst 0, 1) := by decide +kernel
theorem d_M_divideBy_44 : decode b_M_divideBy 44 = .ok (.iastore, 1) := by decide +kernel
theorem d_M_divideBy_45 : decode b_M_divideBy 45 = .ok (.aload_n 0, 1) := by decide +kernel
theorem d_M_divideBy_46 : decode b_M_divideBy 46 = .ok (.getfield 7, 3) := by decide +kernel
theorem d_M_divideBy_49 : decode b_M_divideBy 49 = .ok (.sipush 3200, 3) := by decide +kernel
theorem d_M_divideBy_52 : decode b_M_divideBy 52 = .ok (.iload_n 3, 1) := by decide +kernel
theorem d_M_divideBy_53 : decode b_M_divideBy 53 = .ok (.imul, 1) := by decide +kernel
theorem d_M_divideBy_54 : decode b_M_divideBy 54 = .ok (.iload 4, 2) := by decide +kernel
theorem d_M_divideBy_56 : decode b_M_divideBy 56 = .ok (.iadd, 1) := by decide +kernel
theorem d_M_divideBy_57 : decode b_M_divideBy 57 = .ok (.iconst 1, 1) := by decide +kernel
theorem d_M_divideBy_58 : decode b_M_divideBy 58 = .ok (.isub, 1) := by decide +kernel
theorem d_M_divideBy_59 : decode b_M_divideBy 59 = .ok (.iaload, 1) := by decide +kernel
theorem d_M_divideBy_60 : decode b_M_divideBy 60 = .ok (.i2l, 1) := by decide +kernel
theorem d_M_divideBy_61 : decode b_M_divideBy 61 = .ok (.ldc2_w 50, 3) := by decide +kernel
theorem d_M_divideBy_64 : decode b_M_divideBy 64 = .ok (.lmul, 1) := by decide +kernel
theorem d_M_divideBy_65 : decode b_M_divideBy 65 = .ok (.iload 4, 2) := by decide +kernel
theorem d_M_divideBy_67 : decode b_M_divideBy 67 = .ok (.iconst 1, 1) := by decide +kernel
theorem d_M_divideBy_68 : decode b_M_divideBy 68 = .ok (.if_icmp .le 26, 3) := by decide +kernel
theorem d_M_divideBy_71 : decode b_M_divideBy 71 = .ok (.aload_n 0, 1) := by decide +kernel
theorem d_M_divideBy_72 : decode b_M_divideBy 72 = .ok (.getfield 7, 3) := by decide +kernel
theorem d_M_divideBy_75 : decode b_M_divideBy 75 = .ok (.sipush 3200, 3) := by decide +kernel
theorem d_M_divideBy_78 : decode b_M_divideBy 78 = .ok (.iload_n 3, 1) := by decide +kernel
theorem d_M_divideBy_79 : decode b_M_divideBy 79 = .ok (.imul, 1) := by decide +kernel
theorem d_M_divideBy_80 : decode b_M_divideBy 80 = .ok (.iload 4, 2) := by decide +kernel
theorem d_M_divideBy_82 : decode b_M_divideBy 82 = .ok (.iadd, 1) := by decide +kernel
theorem d_M_divideBy_83 : decode b_M_divideBy 83 = .ok (.iconst 2, 1) := by decide +kernel
theorem d_M_divideBy_84 : decode b_M_divideBy 84 = .ok (.isub, 1) := by decide +kernel
theorem d_M_divideBy_85 : decode b_M_divideBy 85 = .ok (.iaload, 1) := by decide +kernel
theorem d_M_divideBy_86 : decode b_M_divideBy 86 = .ok (.i2l, 1) := by decide +kernel
theorem d_M_divideBy_87 : decode b_M_divideBy 87 = .ok (.ldc2_w 40, 3) := by decide +kernel
theorem d_M_divideBy_90 : decode b_M_divideBy 90 = .ok (.lmul, 1) := by decide +kernel
theorem d_M_divideBy_91 : decode b_M_divideBy 91 = .ok (.goto 4, 3) := by decide +kernel
theorem d_M_divideBy_94 : decode b_M_divideBy 94 = .ok (.lconst 0, 1) := by decide +kernel
theorem d_M_divideBy_95 : decode b_M_divideBy 95 = .ok (.ladd, 1) := by decide +kernel
theorem d_M_divideBy_96 : decode b_M_divideBy 96 = .ok (.iload 4, 2) := by decide +kernel
theorem d_M_divideBy_98 : decode b_M_divideBy 98 = .ok (.iconst 2, 1) := by decide +kernel
theorem d_M_divideBy_99 : decode b_M_divideBy 99 = .ok (.if_icmp .le 22, 3) := by decide +kernel
theorem d_M_divideBy_102 : decode b_M_divideBy 102 = .ok (.aload_n 0, 1) := by decide +kernel
theorem d_M_divideBy_103 : decode b_M_divideBy 103 = .ok (.getfield 7, 3) := by decide +kernel
theorem d_M_divideBy_106 : decode b_M_divideBy 106 = .ok (.sipush 3200, 3) := by decide +kernel
theorem d_M_divideBy_109 : decode b_M_divideBy 109 = .ok (.iload_n 3, 1) := by decide +kernel
theorem d_M_divideBy_110 : decode b_M_divideBy 110 = .ok (.imul, 1) := by decide +kernel
theorem d_M_divideBy_111 : decode b_M_divideBy 111 = .ok (.iload 4, 2) := by decide +kernel
theorem d_M_divideBy_113 : decode b_M_divideBy 113 = .ok (.iadd, 1) := by decide +kernel
theorem d_M_divideBy_114 : decode b_M_divideBy 114 = .ok (.iconst 3, 1) := by decide +kernel
theorem d_M_divideBy_115 : decode b_M_divideBy 115 = .ok (.isub, 1) := by decide +kernel
theorem d_M_divideBy_116 : decode b_M_divideBy 116 = .ok (.iaload, 1) := by decide +kernel
theorem d_M_divideBy_117 : decode b_M_divideBy 117 = .ok (.i2l, 1) := by decide +kernel
theorem d_M_divideBy_118 : decode b_M_divideBy 118 = .ok (.goto 4, 3) := by decide +kernel
theorem d_M_divideBy_121 : decode b_M_divideBy 121 = .ok (.lconst 0, 1) := by decide +kernel
theorem d_M_divideBy_122 : decode b_M_divideBy 122 = .ok (.ladd, 1) := by decide +kernel
theorem d_M_divideBy_123 : decode b_M_divideBy 123 = .ok (.lstore 6, 2) := by decide +kernel
theorem d_M_divideBy_125 : decode b_M_divideBy 125 = .ok (.iload 5, 2) := by decide +kernel
theorem d_M_divideBy_127 : decode b_M_divideBy 127 = .ok (.iload 4, 2) := by decide +kernel
theorem d_M_divideBy_129 : decode b_M_divideBy 129 = .ok (.isub, 1) := by decide +kernel
theorem d_M_divideBy_130 : decode b_M_divideBy 130 = .ok (.istore 8, 2) := by decide +kernel
theorem d_M_divideBy_132 : decode b_M_divideBy 132 = .ok (.iload 8, 2) := by decide +kernel
theorem d_M_divideBy_134 : decode b_M_divideBy 134 = .ok (.ifCond .lt 180, 3) := by decide +kernel
theorem d_M_divideBy_137 : decode b_M_divideBy 137 = .ok (.aload_n 0, 1) := by decide +kernel
theorem d_M_divideBy_138 : decode b_M_divideBy 138 = .ok (.getfield 7, 3) := by decide +kernel
theorem d_M_divideBy_141 : decode b_M_divideBy 141 = .ok (.sipush 3200, 3) := by decide +kernel
theorem d_M_divideBy_144 : decode b_M_divideBy 144 = .ok (.iload_n 2, 1) := by decide +kernel
theorem d_M_divideBy_145 : decode b_M_divideBy 145 = .ok (.imul, 1) := by decide +kernel
theorem d_M_divideBy_146 : decode b_M_divideBy 146 = .ok (.iload 8, 2) := by decide +kernel
theorem d_M_divideBy_148 : decode b_M_divideBy 148 = .ok (.iadd, 1) := by decide +kernel
theorem d_M_divideBy_149 : decode b_M_divideBy 149 = .ok (.iload 4, 2) := by decide +kernel
theorem d_M_divideBy_151 : decode b_M_divideBy 151 = .ok (.iadd, 1) := by decide +kernel
theorem d_M_divideBy_152 : decode b_M_divideBy 152 = .ok (.iaload, 1) := by decide +kernel
theorem d_M_divideBy_153 : decode b_M_divideBy 153 = .ok (.i2l, 1) := by decide +kernel
theorem d_M_divideBy_154 : decode b_M_divideBy 154 = .ok (.ldc2_w 52, 3) := by decide +kernel
theorem d_M_divideBy_157 : decode b_M_divideBy 157 = .ok (.lmul, 1) := by decide +kernel
theorem d_M_divideBy_158 : decode b_M_divideBy 158 = .ok (.aload_n 0, 1) := by decide +kernel
theorem d_M_divideBy_159 : decode b_M_divideBy 159 = .ok (.getfield 7, 3) := by decide +kernel
theorem d_M_divideBy_162 : decode b_M_divideBy 162 = .ok (.sipush 3200, 3) := by decide +kernel
theorem d_M_divideBy_165 : decode b_M_divideBy 165 = .ok (.iload_n 2, 1) := by decide +kernel
theorem d_M_divideBy_166 : decode b_M_divideBy 166 = .ok (.imul, 1) := by decide +kernel
theorem d_M_divideBy_167 : decode b_M_divideBy 167 = .ok (.iload 8, 2) := by decide +kernel
theorem d_M_divideBy_169 : decode b_M_divideBy 169 = .ok (.iadd, 1) := by decide +kernel
theorem d_M_divideBy_170 : decode b_M_divideBy 170 = .ok (.iload 4, 2) := by decide +kernel
theorem d_M_divideBy_172 : decode b_M_divideBy 172 = .ok (.iadd, 1) := by decide +kernel
theorem d_M_divideBy_173 : decode b_M_divideBy 173 = .ok (.iconst 1, 1) := by decide +kernel
theorem d_M_divideBy_174 : decode b_M_divideBy 174 = .ok (.isub, 1) := by decide +kernel
theorem d_M_divideBy_175 : decode b_M_divideBy 175 = .ok (.iaload, 1) := by decide +kernel
theorem d_M_divideBy_176 : decode b_M_divideBy 176 = .ok (.i2l, 1) := by decide +kernel
theorem d_M_divideBy_177 : decode b_M_divideBy 177 = .ok (.ldc2_w 50, 3) := by decide +kernel
theorem d_M_divideBy_180 : decode b_M_divideBy 180 = .ok (.lmul, 1) := by decide +kernel
theorem d_M_divideBy_181 : decode b_M_divideBy 181 = .ok (.ladd, 1) := by decide +kernel
theorem d_M_divideBy_182 : decode b_M_divideBy 182 = .ok (.iload 4, 2) := by decide +kernel
theorem d_M_divideBy_184 : decode b_M_divideBy 184 = .ok (.iconst 1, 1) := by decide +kernel
theorem d_M_divideBy_185 : decode b_M_divideBy 185 = .ok (.if_icmp .le 29, 3) := by decide +kernel
theorem d_M_divideBy_188 : decode b_M_divideBy 188 = .ok (.aload_n 0, 1) := by decide +kernel
theorem d_M_divideBy_189 : decode b_M_divideBy 189 = .ok (.getfield 7, 3) := by decide +kernel
theorem d_M_divideBy_192 : decode b_M_divideBy 192 = .ok (.sipush 3200, 3) := by decide +kernel
theorem d_M_divideBy_195 : decode b_M_divideBy 195 = .ok (.iload_n 2, 1) := by decide +kernel
theorem d_M_divideBy_196 : decode b_M_divideBy 196 = .ok (.imul, 1) := by decide +kernel
theorem d_M_divideBy_197 : decode b_M_divideBy 197 = .ok (.iload 8, 2) := by decide +kernel
theorem d_M_divideBy_199 : decode b_M_divideBy 199 = .ok (.iadd, 1) := by decide +kernel
theorem d_M_divideBy_200 : decode b_M_divideBy 200 = .ok (.iload 4, 2) := by decide +kernel
theorem d_M_divideBy_202 : decode b_M_divideBy 202 = .ok (.iadd, 1) := by decide +kernel
theorem d_M_divideBy_203 : decode b_M_divideBy 203 = .ok (.iconst 2, 1) := by decide +kernel
theorem d_M_divideBy_204 : decode b_M_divideBy 204 = .ok (.isub, 1) := by decide +kernel
theorem d_M_divideBy_205 : decode b_M_divideBy 205 = .ok (.iaload, 1) := by decide +kernel
theorem d_M_divideBy_206 : decode b_M_divideBy 206 = .ok (.i2l, 1) := by decide +kernel
theorem d_M_divideBy_207 : decode b_M_divideBy 207 = .ok (.ldc2_w 40, 3) := by decide +kernel
theorem d_M_divideBy_210 : decode b_M_divideBy 210 = .ok (.lmul, 1) := by decide +kernel
theorem d_M_divideBy_211 : decode b_M_divideBy 211 = .ok (.goto 4, 3) := by decide +kernel
theorem d_M_divideBy_214 : decode b_M_divideBy 214 = .ok (.lconst 0, 1) := by decide +kernel
theorem d_M_divideBy_215 : decode b_M_divideBy 215 = .ok (.ladd, 1) := by decide +kernel
theorem d_M_divideBy_216 : decode b_M_divideBy 216 = .ok (.iload 4, 2) := by decide +kernel
theorem d_M_divideBy_218 : decode b_M_divideBy 218 = .ok (.iconst 2, 1) := by decide +kernel
theorem d_M_divideBy_219 : decode b_M_divideBy 219 = .ok (.if_icmp .le 25, 3) := by decide +kernel
theorem d_M_divideBy_222 : decode b_M_divideBy 222 = .ok (.aload_n 0, 1) := by decide +kernel
theorem d_M_divideBy_223 : decode b_M_divideBy 223 = .ok (.getfield 7, 3) := by decide +kernel
theorem d_M_divideBy_226 : decode b_M_divideBy 226 = .ok (.sipush 3200, 3) := by decide +kernel
theorem d_M_divideBy_229 : decode b_M_divideBy 229 = .ok (.iload_n 2, 1) := by decide +kernel
theorem d_M_divideBy_230 : decode b_M_divideBy 230 = .ok (.imul, 1) := by decide +kernel
theorem d_M_divideBy_231 : decode b_M_divideBy 231 = .ok (.iload 8, 2) := by decide +kernel
theorem d_M_divideBy_233 : decode b_M_divideBy 233 = .ok (.iadd, 1) := by decide +kernel
theorem d_M_divideBy_234 : decode b_M_divideBy 234 = .ok (.iload 4, 2) := by decide +kernel
theorem d_M_divideBy_236 : decode b_M_divideBy 236 = .ok (.iadd, 1) := by decide +kernel
theorem d_M_divideBy_237 : decode b_M_divideBy 237 = .ok (.iconst 3, 1) := by decide +kernel
theorem d_M_divideBy_238 : decode b_M_divideBy 238 = .ok (.isub, 1) := by decide +kernel
theorem d_M_divideBy_239 : decode b_M_divideBy 239 = .ok (.iaload, 1) := by decide +kernel
theorem d_M_divideBy_240 : decode b_M_divideBy 240 = .ok (.i2l, 1) := by decide +kernel
theorem d_M_divideBy_241 : decode b_M_divideBy 241 = .ok (.goto 4, 3) := by decide +kernel
theorem d_M_divideBy_244 : decode b_M_divideBy 244 = .ok (.lconst 0, 1) := by decide +kernel
theorem d_M_divideBy_245 : decode b_M_divideBy 245 = .ok (.ladd, 1) := by decide +kernel
theorem d_M_divideBy_246 : decode b_M_divideBy 246 = .ok (.lstore 9, 2) := by decide +kernel
theorem d_M_divideBy_248 : decode b_M_divideBy 248 = .ok (.lload 9, 2) := by decide +kernel
theorem d_M_divideBy_250 : decode b_M_divideBy 250 = .ok (.lload 6, 2) := by decide +kernel
theorem d_M_divideBy_252 : decode b_M_divideBy 252 = .ok (.ldiv, 1) := by decide +kernel
theorem d_M_divideBy_253 : decode b_M_divideBy 253 = .ok (.l2i, 1) := by decide +kernel
theorem d_M_divideBy_254 : decode b_M_divideBy 254 = .ok (.istore 11, 2) := by decide +kernel
theorem d_M_divideBy_256 : decode b_M_divideBy 256 = .ok (.iload 11, 2) := by decide +kernel
theorem d_M_divideBy_258 : decode b_M_divideBy 258 = .ok (.sipush 10000, 3) := by decide +kernel
theorem d_M_divideBy_261 : decode b_M_divideBy 261 = .ok (.if_icmp .lt 9, 3) := by decide +kernel
theorem d_M_divideBy_264 : decode b_M_divideBy 264 = .ok (.sipush 9999, 3) := by decide +kernel
theorem d_M_divideBy_267 : decode b_M_divideBy 267 = .ok (.goto 5, 3) := by decide +kernel
theorem d_M_divideBy_270 : decode b_M_divideBy 270 = .ok (.iload 11, 2) := by decide +kernel
theorem d_M_divideBy_272 : decode b_M_divideBy 272 = .ok (.istore 11, 2) := by decide +kernel
theorem d_M_divideBy_274 : decode b_M_divideBy 274 = .ok (.aload_n 0, 1) := by decide +kernel
theorem d_M_divideBy_275 : decode b_M_divideBy 275 = .ok (.iload_n 2, 1) := by decide +kernel
theorem d_M_divideBy_276 : decode b_M_divideBy 276 = .ok (.iload_n 3, 1) := by decide +kernel
theorem d_M_divideBy_277 : decode b_M_divideBy 277 = .ok (.iload 8, 2) := by decide +kernel
theorem d_M_divideBy_279 : decode b_M_divideBy 279 = .ok (.iload 11, 2) := by decide +kernel
theorem d_M_divideBy_281 : decode b_M_divideBy 281 = .ok (.invokevirtual 54, 3) := by decide +kernel
theorem d_M_divideBy_284 : decode b_M_divideBy 284 = .ok (.ifCond .ne 9, 3) := by decide +kernel
theorem d_M_divideBy_287 : decode b_M_divideBy 287 = .ok (.iinc 11 (-1), 3) := by decide +kernel
theorem d_M_divideBy_290 : decode b_M_divideBy 290 = .ok (.goto (-16), 3) := by decide +kernel
theorem d_M_divideBy_293 : decode b_M_divideBy 293 = .ok (.aload_n 0, 1) := by decide +kernel
theorem d_M_divideBy_294 : decode b_M_divideBy 294 = .ok (.getfield 7, 3) := by decide +kernel
theorem d_M_divideBy_297 : decode b_M_divideBy 297 = .ok (.sipush 3200, 3) := by decide +kernel
theorem d_M_divideBy_300 : decode b_M_divideBy 300 = .ok (.iload_n 1, 1) := by decide +kernel
theorem d_M_divideBy_301 : decode b_M_divideBy 301 = .ok (.imul, 1) := by decide +kernel
theorem d_M_divideBy_302 : decode b_M_divideBy 302 = .ok (.iload 8, 2) := by decide +kernel
theorem d_M_divideBy_304 : decode b_M_divideBy 304 = .ok (.iadd, 1) := by decide +kernel
theorem d_M_divideBy_305 : decode b_M_divideBy 305 = .ok (.iload 11, 2) := by decide +kernel
theorem d_M_divideBy_307 : decode b_M_divideBy 307 = .ok (.iastore, 1) := by decide +kernel
theorem d_M_divideBy_308 : decode b_M_divideBy 308 = .ok (.iinc 8 (-1), 3) := by decide +kernel
theorem d_M_divideBy_311 : decode b_M_divideBy 311 = .ok (.goto (-179), 3) := by decide +kernel
theorem d_M_divideBy_314 : decode b_M_divideBy 314 = .ok (.aload_n 0, 1) := by decide +kernel
theorem d_M_divideBy_315 : decode b_M_divideBy 315 = .ok (.iload_n 1, 1) := by decide +kernel
theorem d_M_divideBy_316 : decode b_M_divideBy 316 = .ok (.iload 5, 2) := by decide +kernel
theorem d_M_divideBy_318 : decode b_M_divideBy 318 = .ok (.iload 4, 2) := by decide +kernel
theorem d_M_divideBy_320 : decode b_M_divideBy 320 = .ok (.isub, 1) := by decide +kernel
theorem d_M_divideBy_321 : decode b_M_divideBy 321 = .ok (.iconst 1, 1) := by decide +kernel
theorem d_M_divideBy_322 : decode b_M_divideBy 322 = .ok (.iadd, 1) := by decide +kernel
theorem d_M_divideBy_323 : decode b_M_divideBy 323 = .ok (.invokevirtual 46, 3) := by decide +kernel
theorem d_M_divideBy_326 : decode b_M_divideBy 326 = .ok (.aload_n 0, 1) := by decide +kernel
theorem d_M_divideBy_327 : decode b_M_divideBy 327 = .ok (.iload_n 2, 1) := by decide +kernel
theorem d_M_divideBy_328 : decode b_M_divideBy 328 = .ok (.iload 4, 2) := by decide +kernel
theorem d_M_divideBy_330 : decode b_M_divideBy 330 = .ok (.invokevirtual 46, 3) := by decide +kernel
theorem d_M_divideBy_333 : decode b_M_divideBy 333 = .ok (.return_, 1) := by decide +kernel
theorem d_M_common_0 : decode b_M_common 0 = .ok (.aload_n 0, 1) := by decide +kernel
theorem d_M_common_1 : decode b_M_common 1 = .ok (.getfield 13, 3) := by decide +kernel
theorem d_M_common_4 : decode b_M_common 4 = .ok (.iload_n 2, 1) := by decide +kernel
theorem d_M_common_5 : decode b_M_common 5 = .ok (.iaload, 1) := by decide +kernel
theorem d_M_common_6 : decode b_M_common 6 = .ok (.ifCond .le 32, 3) := by decide +kernel
theorem d_M_common_9 : decode b_M_common 9 = .ok (.aload_n 0, 1) := by decide +kernel
theorem d_M_common_10 : decode b_M_common 10 = .ok (.bipush 6, 2) := by decide +kernel
theorem d_M_common_12 : decode b_M_common 12 = .ok (.iload_n 1, 1) := by decide +kernel
theorem d_M_common_13 : decode b_M_common 13 = .ok (.iload_n 2, 1) := by decide +kernel
theorem d_M_common_14 : decode b_M_common 14 = .ok (.invokevirtual 58, 3) := by decide +kernel
theorem d_M_common_17 : decode b_M_common 17 = .ok (.aload_n 0, 1) := by decide +kernel
theorem d_M_common_18 : decode b_M_common 18 = .ok (.iconst 5, 1) := by decide +kernel
theorem d_M_common_19 : decode b_M_common 19 = .ok (.iload_n 1, 1) := by decide +kernel
theorem d_M_common_20 : decode b_M_common 20 = .ok (.invokevirtual 62, 3) := by decide +kernel
theorem d_M_common_23 : decode b_M_common 23 = .ok (.aload_n 0, 1) := by decide +kernel
theorem d_M_common_24 : decode b_M_common 24 = .ok (.iload_n 1, 1) := by decide +kernel
theorem d_M_common_25 : decode b_M_common 25 = .ok (.iload_n 2, 1) := by decide +kernel
theorem d_M_common_26 : decode b_M_common 26 = .ok (.invokevirtual 62, 3) := by decide +kernel
theorem d_M_common_29 : decode b_M_common 29 = .ok (.aload_n 0, 1) := by decide +kernel
theorem d_M_common_30 : decode b_M_common 30 = .ok (.iload_n 2, 1) := by decide +kernel
theorem d_M_common_31 : decode b_M_common 31 = .ok (.iconst 5, 1) := by decide +kernel
theorem d_M_common_32 : decode b_M_common 32 = .ok (.invokevirtual 62, 3) := by decide +kernel
theorem d_M_common_35 : decode b_M_common 35 = .ok (.goto (-35), 3) := by decide +kernel
theorem d_M_common_38 : decode b_M_common 38 = .ok (.aload_n 0, 1) := by decide +kernel
theorem d_M_common_39 : decode b_M_common 39 = .ok (.iconst 5, 1) := by decide +kernel
theorem d_M_common_40 : decode b_M_common 40 = .ok (.iload_n 1, 1) := by decide +kernel
theorem d_M_common_41 : decode b_M_common 41 = .ok (.invokevirtual 62, 3) := by decide +kernel
theorem d_M_common_44 : decode b_M_common 44 = .ok (.return_, 1) := by decide +kernel
theorem d_M_parts_0 : decode b_M_parts 0 = .ok (.aload_n 0, 1) := by decide +kernel
theorem d_M_parts_1 : decode b_M_parts 1 = .ok (.iconst 3, 1) := by decide +kernel
theorem d_M_parts_2 : decode b_M_parts 2 = .ok (.iload_n 1, 1) := by decide +kernel
theorem d_M_parts_3 : decode b_M_parts 3 = .ok (.invokevirtual 62, 3) := by decide +kernel
theorem d_M_parts_6 : decode b_M_parts 6 = .ok (.iconst 0, 1) := by decide +kernel
theorem d_M_parts_7 : decode b_M_parts 7 = .ok (.istore_n 2, 1) := by decide +kernel
theorem d_M_parts_8 : decode b_M_parts 8 = .ok (.aload_n 0, 1) := by decide +kernel
theorem d_M_parts_9 : decode b_M_parts 9 = .ok (.getfield 13, 3) := by decide +kernel
theorem d_M_parts_12 : decode b_M_parts 12 = .ok (.iconst 3, 1) := by decide +kernel
theorem d_M_parts_13 : decode b_M_parts 13 = .ok (.iaload, 1) := by decide +kernel
theorem d_M_parts_14 : decode b_M_parts 14 = .ok (.ifCond .le 91, 3) := by decide +kernel
theorem d_M_parts_17 : decode b_M_parts 17 = .ok (.iconst 0, 1) := by decide +kernel
theorem d_M_parts_18 : decode b_M_parts 18 = .ok (.istore_n 3, 1) := by decide +kernel
theorem d_M_parts_19 : decode b_M_parts 19 = .ok (.aload_n 0, 1) := by decide +kernel
theorem d_M_parts_20 : decode b_M_parts 20 = .ok (.getfield 13, 3) := by decide +kernel
theorem d_M_parts_23 : decode b_M_parts 23 = .ok (.iconst 3, 1) := by decide +kernel
theorem d_M_parts_24 : decode b_M_parts 24 = .ok (.iaload, 1) := by decide +kernel
theorem d_M_parts_25 : decode b_M_parts 25 = .ok (.iconst 1, 1) := by decide +kernel
theorem d_M_parts_26 : decode b_M_parts 26 = .ok (.isub, 1) := by decide +kernel
theorem d_M_parts_27 : decode b_M_parts 27 = .ok (.istore 4, 2) := by decide +kernel
theorem d_M_parts_29 : decode b_M_parts 29 = .ok (.iload 4, 2) := by decide +kernel
theorem d_M_parts_31 : decode b_M_parts 31 = .ok (.ifCond .lt 50, 3) := by decide +kernel
theorem d_M_parts_34 : decode b_M_parts 34 = .ok (.iload_n 3, 1) := by decide +kernel
theorem d_M_parts_35 : decode b_M_parts 35 = .ok (.sipush 10000, 3) := by decide +kernel
theorem d_M_parts_38 : decode b_M_parts 38 = .ok (.imul, 1) := by decide +kernel
theorem d_M_parts_39 : decode b_M_parts 39 = .ok (.aload_n 0, 1) := by decide +kernel
theorem d_M_parts_40 : decode b_M_parts 40 = .ok (.getfield 7, 3) := by decide +kernel
theorem d_M_parts_43 : decode b_M_parts 43 = .ok (.sipush 9600, 3) := by decide +kernel
theorem d_M_parts_46 : decode b_M_parts 46 = .ok (.iload 4, 2) := by decide +kernel
theorem d_M_parts_48 : decode b_M_parts 48 = .ok (.iadd, 1) := by decide +kernel
theorem d_M_parts_49 : decode b_M_parts 49 = .ok (.iaload, 1) := by decide +kernel
theorem d_M_parts_50 : decode b_M_parts 50 = .ok (.iadd, 1) := by decide +kernel
theorem d_M_parts_51 : decode b_M_parts 51 = .ok (.istore 5, 2) := by decide +kernel
theorem d_M_parts_53 : decode b_M_parts 53 = .ok (.aload_n 0, 1) := by decide +kernel
theorem d_M_parts_54 : decode b_M_parts 54 = .ok (.getfield 7, 3) := by decide +kernel
theorem d_M_parts_57 : decode b_M_parts 57 = .ok (.sipush 9600, 3) := by decide +kernel
theorem d_M_parts_60 : decode b_M_parts 60 = .ok (.iload 4, 2) := by decide +kernel
theorem d_M_parts_62 : decode b_M_parts 62 = .ok (.iadd, 1) := by decide +kernel
theorem d_M_parts_63 : decode b_M_parts 63 = .ok (.iload 5, 2) := by decide +kernel
theorem d_M_parts_65 : decode b_M_parts 65 = .ok (.ldc 65, 2) := by decide +kernel
theorem d_M_parts_67 : decode b_M_parts 67 = .ok (.idiv, 1) := by decide +kernel
theorem d_M_parts_68 : decode b_M_parts 68 = .ok (.iastore, 1) := by decide +kernel
theorem d_M_parts_69 : decode b_M_parts 69 = .ok (.iload 5, 2) := by decide +kernel
theorem d_M_parts_71 : decode b_M_parts 71 = .ok (.ldc 65, 2) := by decide +kernel
theorem d_M_parts_73 : decode b_M_parts 73 = .ok (.irem, 1) := by decide +kernel
theorem d_M_parts_74 : decode b_M_parts 74 = .ok (.istore_n 3, 1) := by decide +kernel
theorem d_M_parts_75 : decode b_M_parts 75 = .ok (.iinc 4 (-1), 3) := by decide +kernel
theorem d_M_parts_78 : decode b_M_parts 78 = .ok (.goto (-49), 3) := by decide +kernel
theorem d_M_parts_81 : decode b_M_parts 81 = .ok (.aload_n 0, 1) := by decide +kernel
theorem d_M_parts_82 : decode b_M_parts 82 = .ok (.iconst 3, 1) := by decide +kernel
theorem d_M_parts_83 : decode b_M_parts 83 = .ok (.aload_n 0, 1) := by decide +kernel
theorem d_M_parts_84 : decode b_M_parts 84 = .ok (.getfield 13, 3) := by decide +kernel
theorem d_M_parts_87 : decode b_M_parts 87 = .ok (.iconst 3, 1) := by decide +kernel
theorem d_M_parts_88 : decode b_M_parts 88 = .ok (.iaload, 1) := by decide +kernel
theorem d_M_parts_89 : decode b_M_parts 89 = .ok (.invokevirtual 46, 3) := by decide +kernel
theorem d_M_parts_92 : decode b_M_parts 92 = .ok (.aload_n 0, 1) := by decide +kernel
theorem d_M_parts_93 : decode b_M_parts 93 = .ok (.getfield 26, 3) := by decide +kernel
theorem d_M_parts_96 : decode b_M_parts 96 = .ok (.iload_n 2, 1) := by decide +kernel
theorem d_M_parts_97 : decode b_M_parts 97 = .ok (.iload_n 3, 1) := by decide +kernel
theorem d_M_parts_98 : decode b_M_parts 98 = .ok (.iastore, 1) := by decide +kernel
theorem d_M_parts_99 : decode b_M_parts 99 = .ok (.iinc 2 1, 3) := by decide +kernel
theorem d_M_parts_102 : decode b_M_parts 102 = .ok (.goto (-94), 3) := by decide +kernel
theorem d_M_parts_105 : decode b_M_parts 105 = .ok (.iload_n 2, 1) := by decide +kernel
theorem d_M_parts_106 : decode b_M_parts 106 = .ok (.ireturn, 1) := by decide +kernel
theorem d_M_bits_0 : decode b_M_bits 0 = .ok (.aload_n 0, 1) := by decide +kernel
theorem d_M_bits_1 : decode b_M_bits 1 = .ok (.iload_n 1, 1) := by decide +kernel
theorem d_M_bits_2 : decode b_M_bits 2 = .ok (.invokevirtual 66, 3) := by decide +kernel
theorem d_M_bits_5 : decode b_M_bits 5 = .ok (.istore_n 2, 1) := by decide +kernel
theorem d_M_bits_6 : decode b_M_bits 6 = .ok (.iconst 0, 1) := by decide +kernel
theorem d_M_bits_7 : decode b_M_bits 7 = .ok (.istore_n 3, 1) := by decide +kernel
theorem d_M_bits_8 : decode b_M_bits 8 = .ok (.iload_n 2, 1) := by decide +kernel
theorem d_M_bits_9 : decode b_M_bits 9 = .ok (.ifCond .le 22, 3) := by decide +kernel
theorem d_M_bits_12 : decode b_M_bits 12 = .ok (.aload_n 0, 1) := by decide +kernel
theorem d_M_bits_13 : decode b_M_bits 13 = .ok (.getfield 26, 3) := by decide +kernel
theorem d_M_bits_16 : decode b_M_bits 16 = .ok (.iload_n 2, 1) := by decide +kernel
theorem d_M_bits_17 : decode b_M_bits 17 = .ok (.iconst 1, 1) := by decide +kernel
theorem d_M_bits_18 : decode b_M_bits 18 = .ok (.isub, 1) := by decide +kernel
theorem d_M_bits_19 : decode b_M_bits 19 = .ok (.iaload, 1) := by decide +kernel
theorem d_M_bits_20 : decode b_M_bits 20 = .ok (.iload_n 3, 1) := by decide +kernel
theorem d_M_bits_21 : decode b_M_bits 21 = .ok (.ishr, 1) := by decide +kernel
theorem d_M_bits_22 : decode b_M_bits 22 = .ok (.ifCond .le 9, 3) := by decide +kernel
theorem d_M_bits_25 : decode b_M_bits 25 = .ok (.iinc 3 1, 3) := by decide +kernel
theorem d_M_bits_28 : decode b_M_bits 28 = .ok (.goto (-20), 3) := by decide +kernel
theorem d_M_bits_31 : decode b_M_bits 31 = .ok (.iload_n 2, 1) := by decide +kernel
theorem d_M_bits_32 : decode b_M_bits 32 = .ok (.ifCond .ne 7, 3) := by decide +kernel
theorem d_M_bits_35 : decode b_M_bits 35 = .ok (.iconst 0, 1) := by decide +kernel
theorem d_M_bits_36 : decode b_M_bits 36 = .ok (.goto 11, 3) := by decide +kernel
theorem d_M_bits_39 : decode b_M_bits 39 = .ok (.bipush 16, 2) := by decide +kernel
theorem d_M_bits_41 : decode b_M_bits 41 = .ok (.iload_n 2, 1) := by decide +kernel
theorem d_M_bits_42 : decode b_M_bits 42 = .ok (.iconst 1, 1) := by decide +kernel
theorem d_M_bits_43 : decode b_M_bits 43 = .ok (.isub, 1) := by decide +kernel
theorem d_M_bits_44 : decode b_M_bits 44 = .ok (.imul, 1) := by decide +kernel
theorem d_M_bits_45 : decode b_M_bits 45 = .ok (.iload_n 3, 1) := by decide +kernel
theorem d_M_bits_46 : decode b_M_bits 46 = .ok (.iadd, 1) := by decide +kernel
theorem d_M_bits_47 : decode b_M_bits 47 = .ok (.ireturn, 1) := by decide +kernel
theorem d_M_load_0 : decode b_M_load 0 = .ok (.iconst 0, 1) := by decide +kernel
theorem d_M_load_1 : decode b_M_load 1 = .ok (.istore_n 3, 1) := by decide +kernel
theorem d_M_load_2 : decode b_M_load 2 = .ok (.iload_n 3, 1) := by decide +kernel
theorem d_M_load_3 : decode b_M_load 3 = .ok (.aload_n 0, 1) := by decide +kernel
theorem d_M_load_4 : decode b_M_load 4 = .ok (.getfield 20, 3) := by decide +kernel
theorem d_M_load_7 : decode b_M_load 7 = .ok (.iload_n 2, 1) := by decide +kernel
theorem d_M_load_8 : decode b_M_load 8 = .ok (.iaload, 1) := by decide +kernel
theorem d_M_load_9 : decode b_M_load 9 = .ok (.if_icmp .ge 33, 3) := by decide +kernel
theorem d_M_load_12 : decode b_M_load 12 = .ok (.aload_n 0, 1) := by decide +kernel
theorem d_M_load_13 : decode b_M_load 13 = .ok (.getfield 7, 3) := by decide +kernel
theorem d_M_load_16 : decode b_M_load 16 = .ok (.sipush 3200, 3) := by decide +kernel
theorem d_M_load_19 : decode b_M_load 19 = .ok (.iload_n 1, 1) := by decide +kernel
theorem d_M_load_20 : decode b_M_load 20 = .ok (.imul, 1) := by decide +kernel
theorem d_M_load_21 : decode b_M_load 21 = .ok (.iload_n 3, 1) := by decide +kernel
theorem d_M_load_22 : decode b_M_load 22 = .ok (.iadd, 1) := by decide +kernel
theorem d_M_load_23 : decode b_M_load 23 = .ok (.aload_n 0, 1) := by decide +kernel
theorem d_M_load_24 : decode b_M_load 24 = .ok (.getfield 17, 3) := by decide +kernel
theorem d_M_load_27 : decode b_M_load 27 = .ok (.sipush 1520, 3) := by decide +kernel
theorem d_M_load_30 : decode b_M_load 30 = .ok (.iload_n 2, 1) := by decide +kernel
theorem d_M_load_31 : decode b_M_load 31 = .ok (.imul, 1) := by decide +kernel
theorem d_M_load_32 : decode b_M_load 32 = .ok (.iload_n 3, 1) := by decide +kernel
theorem d_M_load_33 : decode b_M_load 33 = .ok (.iadd, 1) := by decide +kernel
theorem d_M_load_34 : decode b_M_load 34 = .ok (.iaload, 1) := by decide +kernel
theorem d_M_load_35 : decode b_M_load 35 = .ok (.iastore, 1) := by decide +kernel
theorem d_M_load_36 : decode b_M_load 36 = .ok (.iinc 3 1, 3) := by decide +kernel
theorem d_M_load_39 : decode b_M_load 39 = .ok (.goto (-37), 3) := by decide +kernel
theorem d_M_load_42 : decode b_M_load 42 = .ok (.aload_n 0, 1) := by decide +kernel
theorem d_M_load_43 : decode b_M_load 43 = .ok (.getfield 13, 3) := by decide +kernel
theorem d_M_load_46 : decode b_M_load 46 = .ok (.iload_n 1, 1) := by decide +kernel
theorem d_M_load_47 : decode b_M_load 47 = .ok (.aload_n 0, 1) := by decide +kernel
theorem d_M_load_48 : decode b_M_load 48 = .ok (.getfield 20, 3) := by decide +kernel
theorem d_M_load_51 : decode b_M_load 51 = .ok (.iload_n 2, 1) := by decide +kernel
theorem d_M_load_52 : decode b_M_load 52 = .ok (.iaload, 1) := by decide +kernel
theorem d_M_load_53 : decode b_M_load 53 = .ok (.iastore, 1) := by decide +kernel
theorem d_M_load_54 : decode b_M_load 54 = .ok (.return_, 1) := by decide +kernel
theorem d_M_put_0 : decode b_M_put 0 = .ok (.aload_n 0, 1) := by decide +kernel
theorem d_M_put_1 : decode b_M_put 1 = .ok (.iload_n 2, 1) := by decide +kernel
theorem d_M_put_2 : decode b_M_put 2 = .ok (.invokevirtual 70, 3) := by decide +kernel
theorem d_M_put_5 : decode b_M_put 5 = .ok (.istore 5, 2) := by decide +kernel
theorem d_M_put_7 : decode b_M_put 7 = .ok (.aload_n 0, 1) := by decide +kernel
theorem d_M_put_8 : decode b_M_put 8 = .ok (.iload 5, 2) := by decide +kernel
theorem d_M_put_10 : decode b_M_put 10 = .ok (.sipush 20000, 3) := by decide +kernel
theorem d_M_put_13 : decode b_M_put 13 = .ok (.if_icmp .le 8, 3) := by decide +kernel
theorem d_M_put_16 : decode b_M_put 16 = .ok (.iload 4, 2) := by decide +kernel
theorem d_M_put_18 : decode b_M_put 18 = .ok (.goto 4, 3) := by decide +kernel
theorem d_M_put_21 : decode b_M_put 21 = .ok (.iconst 0, 1) := by decide +kernel
theorem d_M_put_22 : decode b_M_put 22 = .ok (.invokevirtual 73, 3) := by decide +kernel
theorem d_M_put_25 : decode b_M_put 25 = .ok (.ifCond .eq 5, 3) := by decide +kernel
theorem d_M_put_28 : decode b_M_put 28 = .ok (.iconst 0, 1) := by decide +kernel
theorem d_M_put_29 : decode b_M_put 29 = .ok (.ireturn, 1) := by decide +kernel
theorem d_M_put_30 : decode b_M_put 30 = .ok (.iconst 0, 1) := by decide +kernel
theorem d_M_put_31 : decode b_M_put 31 = .ok (.istore 6, 2) := by decide +kernel
theorem d_M_put_33 : decode b_M_put 33 = .ok (.iload 6, 2) := by decide +kernel
theorem d_M_put_35 : decode b_M_put 35 = .ok (.aload_n 0, 1) := by decide +kernel
theorem d_M_put_36 : decode b_M_put 36 = .ok (.getfield 13, 3) := by decide +kernel
theorem d_M_put_39 : decode b_M_put 39 = .ok (.iload_n 2, 1) := by decide +kernel
theorem d_M_put_40 : decode b_M_put 40 = .ok (.iaload, 1) := by decide +kernel
theorem d_M_put_41 : decode b_M_put 41 = .ok (.if_icmp .ge 35, 3) := by decide +kernel
theorem d_M_put_44 : decode b_M_put 44 = .ok (.aload_n 0, 1) := by decide +kernel
theorem d_M_put_45 : decode b_M_put 45 = .ok (.getfield 17, 3) := by decide +kernel
theorem d_M_put_48 : decode b_M_put 48 = .ok (.sipush 1520, 3) := by decide +kernel
theorem d_M_put_51 : decode b_M_put 51 = .ok (.iload_n 1, 1) := by decide +kernel
theorem d_M_put_52 : decode b_M_put 52 = .ok (.imul, 1) := by decide +kernel
theorem d_M_put_53 : decode b_M_put 53 = .ok (.iload 6, 2) := by decide +kernel
theorem d_M_put_55 : decode b_M_put 55 = .ok (.iadd, 1) := by decide +kernel
theorem d_M_put_56 : decode b_M_put 56 = .ok (.aload_n 0, 1) := by decide +kernel
theorem d_M_put_57 : decode b_M_put 57 = .ok (.getfield 7, 3) := by decide +kernel
theorem d_M_put_60 : decode b_M_put 60 = .ok (.sipush 3200, 3) := by decide +kernel
theorem d_M_put_63 : decode b_M_put 63 = .ok (.iload_n 2, 1) := by decide +kernel
theorem d_M_put_64 : decode b_M_put 64 = .ok (.imul, 1) := by decide +kernel
theorem d_M_put_65 : decode b_M_put 65 = .ok (.iload 6, 2) := by decide +kernel
theorem d_M_put_67 : decode b_M_put 67 = .ok (.iadd, 1) := by decide +kernel
theorem d_M_put_68 : decode b_M_put 68 = .ok (.iaload, 1) := by decide +kernel
theorem d_M_put_69 : decode b_M_put 69 = .ok (.iastore, 1) := by decide +kernel
theorem d_M_put_70 : decode b_M_put 70 = .ok (.iinc 6 1, 3) := by decide +kernel
theorem d_M_put_73 : decode b_M_put 73 = .ok (.goto (-40), 3) := by decide +kernel
theorem d_M_put_76 : decode b_M_put 76 = .ok (.aload_n 0, 1) := by decide +kernel
theorem d_M_put_77 : decode b_M_put 77 = .ok (.getfield 20, 3) := by decide +kernel
theorem d_M_put_80 : decode b_M_put 80 = .ok (.iload_n 1, 1) := by decide +kernel
theorem d_M_put_81 : decode b_M_put 81 = .ok (.aload_n 0, 1) := by decide +kernel
theorem d_M_put_82 : decode b_M_put 82 = .ok (.getfield 13, 3) := by decide +kernel
theorem d_M_put_85 : decode b_M_put 85 = .ok (.iload_n 2, 1) := by decide +kernel
theorem d_M_put_86 : decode b_M_put 86 = .ok (.iaload, 1) := by decide +kernel
theorem d_M_put_87 : decode b_M_put 87 = .ok (.iastore, 1) := by decide +kernel
theorem d_M_put_88 : decode b_M_put 88 = .ok (.aload_n 0, 1) := by decide +kernel
theorem d_M_put_89 : decode b_M_put 89 = .ok (.getfield 23, 3) := by decide +kernel
theorem d_M_put_92 : decode b_M_put 92 = .ok (.iload_n 1, 1) := by decide +kernel
theorem d_M_put_93 : decode b_M_put 93 = .ok (.aload_n 0, 1) := by decide +kernel
theorem d_M_put_94 : decode b_M_put 94 = .ok (.getfield 13, 3) := by decide +kernel
theorem d_M_put_97 : decode b_M_put 97 = .ok (.iload_n 2, 1) := by decide +kernel
theorem d_M_put_98 : decode b_M_put 98 = .ok (.iaload, 1) := by decide +kernel
theorem d_M_put_99 : decode b_M_put 99 = .ok (.ifCond .ne 7, 3) := by decide +kernel
theorem d_M_put_102 : decode b_M_put 102 = .ok (.iconst 0, 1) := by decide +kernel
theorem d_M_put_103 : decode b_M_put 103 = .ok (.goto 4, 3) := by decide +kernel
theorem d_M_put_106 : decode b_M_put 106 = .ok (.iload_n 3, 1) := by decide +kernel
theorem d_M_put_107 : decode b_M_put 107 = .ok (.iastore, 1) := by decide +kernel
theorem d_M_put_108 : decode b_M_put 108 = .ok (.iload 5, 2) := by decide +kernel
theorem d_M_put_110 : decode b_M_put 110 = .ok (.ireturn, 1) := by decide +kernel
theorem d_M_set_0 : decode b_M_set 0 = .ok (.aload_n 0, 1) := by decide +kernel
theorem d_M_set_1 : decode b_M_set 1 = .ok (.iload_n 1, 1) := by decide +kernel
theorem d_M_set_2 : decode b_M_set 2 = .ok (.invokestatic 36, 3) := by decide +kernel
theorem d_M_set_5 : decode b_M_set 5 = .ok (.ifCond .eq 7, 3) := by decide +kernel
theorem d_M_set_8 : decode b_M_set 8 = .ok (.iconst 0, 1) := by decide +kernel
theorem d_M_set_9 : decode b_M_set 9 = .ok (.goto 4, 3) := by decide +kernel
theorem d_M_set_12 : decode b_M_set 12 = .ok (.iconst 1, 1) := by decide +kernel
theorem d_M_set_13 : decode b_M_set 13 = .ok (.invokevirtual 73, 3) := by decide +kernel
theorem d_M_set_16 : decode b_M_set 16 = .ok (.ifCond .eq 5, 3) := by decide +kernel
theorem d_M_set_19 : decode b_M_set 19 = .ok (.iconst 0, 1) := by decide +kernel
theorem d_M_set_20 : decode b_M_set 20 = .ok (.ireturn, 1) := by decide +kernel
theorem d_M_set_21 : decode b_M_set 21 = .ok (.aload_n 0, 1) := by decide +kernel
theorem d_M_set_22 : decode b_M_set 22 = .ok (.iconst 0, 1) := by decide +kernel
theorem d_M_set_23 : decode b_M_set 23 = .ok (.lload_n 2, 1) := by decide +kernel
theorem d_M_set_24 : decode b_M_set 24 = .ok (.invokevirtual 76, 3) := by decide +kernel
theorem d_M_set_27 : decode b_M_set 27 = .ok (.aload_n 0, 1) := by decide +kernel
theorem d_M_set_28 : decode b_M_set 28 = .ok (.iload_n 1, 1) := by decide +kernel
theorem d_M_set_29 : decode b_M_set 29 = .ok (.iconst 0, 1) := by decide +kernel
theorem d_M_set_30 : decode b_M_set 30 = .ok (.lload_n 2, 1) := by decide +kernel
theorem d_M_set_31 : decode b_M_set 31 = .ok (.lconst 0, 1) := by decide +kernel
theorem d_M_set_32 : decode b_M_set 32 = .ok (.lcmp, 1) := by decide +kernel
theorem d_M_set_33 : decode b_M_set 33 = .ok (.ifCond .ge 7, 3) := by decide +kernel
theorem d_M_set_36 : decode b_M_set 36 = .ok (.iconst (-1), 1) := by decide +kernel
theorem d_M_set_37 : decode b_M_set 37 = .ok (.goto 4, 3) := by decide +kernel
theorem d_M_set_40 : decode b_M_set 40 = .ok (.iconst 1, 1) := by decide +kernel
theorem d_M_set_41 : decode b_M_set 41 = .ok (.iconst 2, 1) := by decide +kernel
theorem d_M_set_42 : decode b_M_set 42 = .ok (.invokevirtual 80, 3) := by decide +kernel
theorem d_M_set_45 : decode b_M_set 45 = .ok (.ireturn, 1) := by decide +kernel
theorem d_M_push_0 : decode b_M_push 0 = .ok (.aload_n 0, 1) := by decide +kernel
theorem d_M_push_1 : decode b_M_push 1 = .ok (.iload_n 1, 1) := by decide +kernel
theorem d_M_push_2 : decode b_M_push 2 = .ok (.invokestatic 36, 3) := by decide +kernel
theorem d_M_push_5 : decode b_M_push 5 = .ok (.ifCond .eq 7, 3) := by decide +kernel
theorem d_M_push_8 : decode b_M_push 8 = .ok (.iconst 0, 1) := by decide +kernel
theorem d_M_push_9 : decode b_M_push 9 = .ok (.goto 4, 3) := by decide +kernel
theorem d_M_push_12 : decode b_M_push 12 = .ok (.iconst 1, 1) := by decide +kernel
theorem d_M_push_13 : decode b_M_push 13 = .ok (.invokevirtual 73, 3) := by decide +kernel
theorem d_M_push_16 : decode b_M_push 16 = .ok (.ifCond .eq 5, 3) := by decide +kernel
theorem d_M_push_19 : decode b_M_push 19 = .ok (.iconst 0, 1) := by decide +kernel
theorem d_M_push_20 : decode b_M_push 20 = .ok (.ireturn, 1) := by decide +kernel
theorem d_M_push_21 : decode b_M_push 21 = .ok (.aload_n 0, 1) := by decide +kernel
theorem d_M_push_22 : decode b_M_push 22 = .ok (.iconst 0, 1) := by decide +kernel
theorem d_M_push_23 : decode b_M_push 23 = .ok (.iload_n 1, 1) := by decide +kernel
theorem d_M_push_24 : decode b_M_push 24 = .ok (.invokevirtual 84, 3) := by decide +kernel
theorem d_M_push_27 : decode b_M_push 27 = .ok (.aload_n 0, 1) := by decide +kernel
theorem d_M_push_28 : decode b_M_push 28 = .ok (.iconst 0, 1) := by decide +kernel
theorem d_M_push_29 : decode b_M_push 29 = .ok (.ldc 65, 2) := by decide +kernel
theorem d_M_push_31 : decode b_M_push 31 = .ok (.invokevirtual 87, 3) := by decide +kernel
theorem d_M_push_34 : decode b_M_push 34 = .ok (.aload_n 0, 1) := by decide +kernel
theorem d_M_push_35 : decode b_M_push 35 = .ok (.iconst 0, 1) := by decide +kernel
theorem d_M_push_36 : decode b_M_push 36 = .ok (.ldc 65, 2) := by decide +kernel
theorem d_M_push_38 : decode b_M_push 38 = .ok (.invokevirtual 87, 3) := by decide +kernel
theorem d_M_push_41 : decode b_M_push 41 = .ok (.aload_n 0, 1) := by decide +kernel
theorem d_M_push_42 : decode b_M_push 42 = .ok (.iconst 4, 1) := by decide +kernel
theorem d_M_push_43 : decode b_M_push 43 = .ok (.iload_n 2, 1) := by decide +kernel
theorem d_M_push_44 : decode b_M_push 44 = .ok (.i2l, 1) := by decide +kernel
theorem d_M_push_45 : decode b_M_push 45 = .ok (.ldc2_w 90, 3) := by decide +kernel
theorem d_M_push_48 : decode b_M_push 48 = .ok (.land, 1) := by decide +kernel
theorem d_M_push_49 : decode b_M_push 49 = .ok (.invokevirtual 76, 3) := by decide +kernel
theorem d_M_push_52 : decode b_M_push 52 = .ok (.aload_n 0, 1) := by decide +kernel
theorem d_M_push_53 : decode b_M_push 53 = .ok (.iconst 0, 1) := by decide +kernel
theorem d_M_push_54 : decode b_M_push 54 = .ok (.iconst 4, 1) := by decide +kernel
theorem d_M_push_55 : decode b_M_push 55 = .ok (.invokevirtual 92, 3) := by decide +kernel
theorem d_M_push_58 : decode b_M_push 58 = .ok (.aload_n 0, 1) := by decide +kernel
theorem d_M_push_59 : decode b_M_push 59 = .ok (.iload_n 1, 1) := by decide +kernel
theorem d_M_push_60 : decode b_M_push 60 = .ok (.iconst 0, 1) := by decide +kernel
theorem d_M_push_61 : decode b_M_push 61 = .ok (.aload_n 0, 1) := by decide +kernel
theorem d_M_push_62 : decode b_M_push 62 = .ok (.getfield 23, 3) := by decide +kernel
theorem d_M_push_65 : decode b_M_push 65 = .ok (.iload_n 1, 1) := by decide +kernel
theorem d_M_push_66 : decode b_M_push 66 = .ok (.iaload, 1) := by decide +kernel
theorem d_M_push_67 : decode b_M_push 67 = .ok (.ifCond .ge 7, 3) := by decide +kernel
theorem d_M_push_70 : decode b_M_push 70 = .ok (.iconst (-1), 1) := by decide +kernel
theorem d_M_push_71 : decode b_M_push 71 = .ok (.goto 4, 3) := by decide +kernel
theorem d_M_push_74 : decode b_M_push 74 = .ok (.iconst 1, 1) := by decide +kernel
theorem d_M_push_75 : decode b_M_push 75 = .ok (.iconst 2, 1) := by decide +kernel
theorem d_M_push_76 : decode b_M_push 76 = .ok (.invokevirtual 80, 3) := by decide +kernel
theorem d_M_push_79 : decode b_M_push 79 = .ok (.ireturn, 1) := by decide +kernel
theorem d_M_copy_0 : decode b_M_copy 0 = .ok (.aload_n 0, 1) := by decide +kernel
theorem d_M_copy_1 : decode b_M_copy 1 = .ok (.iload_n 1, 1) := by decide +kernel
theorem d_M_copy_2 : decode b_M_copy 2 = .ok (.iload_n 2, 1) := by decide +kernel
theorem d_M_copy_3 : decode b_M_copy 3 = .ok (.iload_n 2, 1) := by decide +kernel
theorem d_M_copy_4 : decode b_M_copy 4 = .ok (.invokestatic 95, 3) := by decide +kernel
theorem d_M_copy_7 : decode b_M_copy 7 = .ok (.ifCond .eq 7, 3) := by decide +kernel
theorem d_M_copy_10 : decode b_M_copy 10 = .ok (.iconst 0, 1) := by decide +kernel
theorem d_M_copy_11 : decode b_M_copy 11 = .ok (.goto 4, 3) := by decide +kernel
theorem d_M_copy_14 : decode b_M_copy 14 = .ok (.iconst 1, 1) := by decide +kernel
theorem d_M_copy_15 : decode b_M_copy 15 = .ok (.invokevirtual 73, 3) := by decide +kernel
theorem d_M_copy_18 : decode b_M_copy 18 = .ok (.ifCond .eq 5, 3) := by decide +kernel
theorem d_M_copy_21 : decode b_M_copy 21 = .ok (.iconst 0, 1) := by decide +kernel
theorem d_M_copy_22 : decode b_M_copy 22 = .ok (.ireturn, 1) := by decide +kernel
theorem d_M_copy_23 : decode b_M_copy 23 = .ok (.aload_n 0, 1) := by decide +kernel
theorem d_M_copy_24 : decode b_M_copy 24 = .ok (.iconst 0, 1) := by decide +kernel
theorem d_M_copy_25 : decode b_M_copy 25 = .ok (.iload_n 2, 1) := by decide +kernel
theorem d_M_copy_26 : decode b_M_copy 26 = .ok (.invokevirtual 84, 3) := by decide +kernel
theorem d_M_copy_29 : decode b_M_copy 29 = .ok (.aload_n 0, 1) := by decide +kernel
theorem d_M_copy_30 : decode b_M_copy 30 = .ok (.iload_n 1, 1) := by decide +kernel
theorem d_M_copy_31 : decode b_M_copy 31 = .ok (.iconst 0, 1) := by decide +kernel
theorem d_M_copy_32 : decode b_M_copy 32 = .ok (.aload_n 0, 1) := by decide +kernel
theorem d_M_copy_33 : decode b_M_copy 33 = .ok (.getfield 23, 3) := by decide +kernel
theorem d_M_copy_36 : decode b_M_copy 36 = .ok (.iload_n 2, 1) := by decide +kernel
theorem d_M_copy_37 : decode b_M_copy 37 = .ok (.iaload, 1) := by decide +kernel
theorem d_M_copy_38 : decode b_M_copy 38 = .ok (.iconst 2, 1) := by decide +kernel
theorem d_M_copy_39 : decode b_M_copy 39 = .ok (.invokevirtual 80, 3) := by decide +kernel
theorem d_M_copy_42 : decode b_M_copy 42 = .ok (.ireturn, 1) := by decide +kernel
theorem d_M_swap_0 : decode b_M_swap 0 = .ok (.aload_n 0, 1) := by decide +kernel
theorem d_M_swap_1 : decode b_M_swap 1 = .ok (.iload_n 1, 1) := by decide +kernel
theorem d_M_swap_2 : decode b_M_swap 2 = .ok (.iload_n 2, 1) := by decide +kernel
theorem d_M_swap_3 : decode b_M_swap 3 = .ok (.iload_n 2, 1) := by decide +kernel
theorem d_M_swap_4 : decode b_M_swap 4 = .ok (.invokestatic 95, 3) := by decide +kernel
theorem d_M_swap_7 : decode b_M_swap 7 = .ok (.ifCond .eq 7, 3) := by decide +kernel
theorem d_M_swap_10 : decode b_M_swap 10 = .ok (.iconst 0, 1) := by decide +kernel
theorem d_M_swap_11 : decode b_M_swap 11 = .ok (.goto 4, 3) := by decide +kernel
theorem d_M_swap_14 : decode b_M_swap 14 = .ok (.iconst 1, 1) := by decide +kernel
theorem d_M_swap_15 : decode b_M_swap 15 = .ok (.invokevirtual 73, 3) := by decide +kernel
theorem d_M_swap_18 : decode b_M_swap 18 = .ok (.ifCond .eq 5, 3) := by decide +kernel
theorem d_M_swap_21 : decode b_M_swap 21 = .ok (.iconst 0, 1) := by decide +kernel
theorem d_M_swap_22 : decode b_M_swap 22 = .ok (.ireturn, 1) := by decide +kernel
theorem d_M_swap_23 : decode b_M_swap 23 = .ok (.aload_n 0, 1) := by decide +kernel
theorem d_M_swap_24 : decode b_M_swap 24 = .ok (.iconst 0, 1) := by decide +kernel
theorem d_M_swap_25 : decode b_M_swap 25 = .ok (.iload_n 1, 1) := by decide +kernel
theorem d_M_swap_26 : decode b_M_swap 26 = .ok (.invokevirtual 84, 3) := by decide +kernel
theorem d_M_swap_29 : decode b_M_swap 29 = .ok (.aload_n 0, 1) := by decide +kernel
theorem d_M_swap_30 : decode b_M_swap 30 = .ok (.iconst 1, 1) := by decide +kernel
theorem d_M_swap_31 : decode b_M_swap 31 = .ok (.iload_n 2, 1) := by decide +kernel
theorem d_M_swap_32 : decode b_M_swap 32 = .ok (.invokevirtual 84, 3) := by decide +kernel
theorem d_M_swap_35 : decode b_M_swap 35 = .ok (.aload_n 0, 1) := by decide +kernel
theorem d_M_swap_36 : decode b_M_swap 36 = .ok (.getfield 23, 3) := by decide +kernel
theorem d_M_swap_39 : decode b_M_swap 39 = .ok (.iload_n 1, 1) := by decide +kernel
theorem d_M_swap_40 : decode b_M_swap 40 = .ok (.iaload, 1) := by decide +kernel
theorem d_M_swap_41 : decode b_M_swap 41 = .ok (.istore_n 3, 1) := by decide +kernel
theorem d_M_swap_42 : decode b_M_swap 42 = .ok (.aload_n 0, 1) := by decide +kernel
theorem d_M_swap_43 : decode b_M_swap 43 = .ok (.iload_n 1, 1) := by decide +kernel
theorem d_M_swap_44 : decode b_M_swap 44 = .ok (.iconst 1, 1) := by decide +kernel
theorem d_M_swap_45 : decode b_M_swap 45 = .ok (.aload_n 0, 1) := by decide +kernel
theorem d_M_swap_46 : decode b_M_swap 46 = .ok (.getfield 23, 3) := by decide +kernel
theorem d_M_swap_49 : decode b_M_swap 49 = .ok (.iload_n 2, 1) := by decide +kernel
theorem d_M_swap_50 : decode b_M_swap 50 = .ok (.iaload, 1) := by decide +kernel
theorem d_M_swap_51 : decode b_M_swap 51 = .ok (.iconst 2, 1) := by decide +kernel
theorem d_M_swap_52 : decode b_M_swap 52 = .ok (.invokevirtual 80, 3) := by decide +kernel
theorem d_M_swap_55 : decode b_M_swap 55 = .ok (.pop, 1) := by decide +kernel
theorem d_M_swap_56 : decode b_M_swap 56 = .ok (.aload_n 0, 1) := by decide +kernel
theorem d_M_swap_57 : decode b_M_swap 57 = .ok (.iload_n 2, 1) := by decide +kernel
theorem d_M_swap_58 : decode b_M_swap 58 = .ok (.iconst 0, 1) := by decide +kernel
theorem d_M_swap_59 : decode b_M_swap 59 = .ok (.iload_n 3, 1) := by decide +kernel
theorem d_M_swap_60 : decode b_M_swap 60 = .ok (.iconst 2, 1) := by decide +kernel
theorem d_M_swap_61 : decode b_M_swap 61 = .ok (.invokevirtual 80, 3) := by decide +kernel
theorem d_M_swap_64 : decode b_M_swap 64 = .ok (.pop, 1) := by decide +kernel
theorem d_M_swap_65 : decode b_M_swap 65 = .ok (.aload_n 0, 1) := by decide +kernel
theorem d_M_swap_66 : decode b_M_swap 66 = .ok (.iconst 1, 1) := by decide +kernel
theorem d_M_swap_67 : decode b_M_swap 67 = .ok (.invokevirtual 70, 3) := by decide +kernel
theorem d_M_swap_70 : decode b_M_swap 70 = .ok (.ireturn, 1) := by decide +kernel
theorem d_M_negate_0 : decode b_M_negate 0 = .ok (.aload_n 0, 1) := by decide +kernel
theorem d_M_negate_1 : decode b_M_negate 1 = .ok (.iload_n 1, 1) := by decide +kernel
theorem d_M_negate_2 : decode b_M_negate 2 = .ok (.invokestatic 36, 3) := by decide +kernel
theorem d_M_negate_5 : decode b_M_negate 5 = .ok (.ifCond .eq 7, 3) := by decide +kernel
theorem d_M_negate_8 : decode b_M_negate 8 = .ok (.iconst 0, 1) := by decide +kernel
theorem d_M_negate_9 : decode b_M_negate 9 = .ok (.goto 4, 3) := by decide +kernel
theorem d_M_negate_12 : decode b_M_negate 12 = .ok (.iconst 1, 1) := by decide +kernel
theorem d_M_negate_13 : decode b_M_negate 13 = .ok (.invokevirtual 73, 3) := by decide +kernel
theorem d_M_negate_16 : decode b_M_negate 16 = .ok (.ifCond .eq 5, 3) := by decide +kernel
theorem d_M_negate_19 : decode b_M_negate 19 = .ok (.iconst 0, 1) := by decide +kernel
theorem d_M_negate_20 : decode b_M_negate 20 = .ok (.ireturn, 1) := by decide +kernel
theorem d_M_negate_21 : decode b_M_negate 21 = .ok (.aload_n 0, 1) := by decide +kernel
theorem d_M_negate_22 : decode b_M_negate 22 = .ok (.getfield 23, 3) := by decide +kernel
theorem d_M_negate_25 : decode b_M_negate 25 = .ok (.iload_n 1, 1) := by decide +kernel
theorem d_M_negate_26 : decode b_M_negate 26 = .ok (.aload_n 0, 1) := by decide +kernel
theorem d_M_negate_27 : decode b_M_negate 27 = .ok (.getfield 23, 3) := by decide +kernel
theorem d_M_negate_30 : decode b_M_negate 30 = .ok (.iload_n 1, 1) := by decide +kernel
theorem d_M_negate_31 : decode b_M_negate 31 = .ok (.iaload, 1) := by decide +kernel
theorem d_M_negate_32 : decode b_M_negate 32 = .ok (.ineg, 1) := by decide +kernel
theorem d_M_negate_33 : decode b_M_negate 33 = .ok (.iastore, 1) := by decide +kernel
theorem d_M_negate_34 : decode b_M_negate 34 = .ok (.aload_n 0, 1) := by decide +kernel
theorem d_M_negate_35 : decode b_M_negate 35 = .ok (.iconst 0, 1) := by decide +kernel
theorem d_M_negate_36 : decode b_M_negate 36 = .ok (.iload_n 1, 1) := by decide +kernel
theorem d_M_negate_37 : decode b_M_negate 37 = .ok (.invokevirtual 84, 3) := by decide +kernel
theorem d_M_negate_40 : decode b_M_negate 40 = .ok (.aload_n 0, 1) := by decide +kernel
theorem d_M_negate_41 : decode b_M_negate 41 = .ok (.iconst 0, 1) := by decide +kernel
theorem d_M_negate_42 : decode b_M_negate 42 = .ok (.invokevirtual 70, 3) := by decide +kernel
theorem d_M_negate_45 : decode b_M_negate 45 = .ok (.ireturn, 1) := by decide +kernel
theorem d_M_sum_0 : decode b_M_sum 0 = .ok (.iload_n 1, 1) := by decide +kernel
theorem d_M_sum_1 : decode b_M_sum 1 = .ok (.ifCond .eq 12, 3) := by decide +kernel
theorem d_M_sum_4 : decode b_M_sum 4 = .ok (.iload_n 2, 1) := by decide +kernel
theorem d_M_sum_5 : decode b_M_sum 5 = .ok (.ifCond .eq 8, 3) := by decide +kernel
theorem d_M_sum_8 : decode b_M_sum 8 = .ok (.iload_n 1, 1) := by decide +kernel
theorem d_M_sum_9 : decode b_M_sum 9 = .ok (.iload_n 2, 1) := by decide +kernel
theorem d_M_sum_10 : decode b_M_sum 10 = .ok (.if_icmp .ne 19, 3) := by decide +kernel
theorem d_M_sum_13 : decode b_M_sum 13 = .ok (.aload_n 0, 1) := by decide +kernel
theorem d_M_sum_14 : decode b_M_sum 14 = .ok (.iconst 0, 1) := by decide +kernel
theorem d_M_sum_15 : decode b_M_sum 15 = .ok (.iconst 1, 1) := by decide +kernel
theorem d_M_sum_16 : decode b_M_sum 16 = .ok (.invokevirtual 92, 3) := by decide +kernel
theorem d_M_sum_19 : decode b_M_sum 19 = .ok (.iload_n 1, 1) := by decide +kernel
theorem d_M_sum_20 : decode b_M_sum 20 = .ok (.ifCond .ne 7, 3) := by decide +kernel
theorem d_M_sum_23 : decode b_M_sum 23 = .ok (.iload_n 2, 1) := by decide +kernel
theorem d_M_sum_24 : decode b_M_sum 24 = .ok (.goto 4, 3) := by decide +kernel
theorem d_M_sum_27 : decode b_M_sum 27 = .ok (.iload_n 1, 1) := by decide +kernel
theorem d_M_sum_28 : decode b_M_sum 28 = .ok (.ireturn, 1) := by decide +kernel
theorem d_M_sum_29 : decode b_M_sum 29 = .ok (.aload_n 0, 1) := by decide +kernel
theorem d_M_sum_30 : decode b_M_sum 30 = .ok (.iconst 0, 1) := by decide +kernel
theorem d_M_sum_31 : decode b_M_sum 31 = .ok (.iconst 1, 1) := by decide +kernel
theorem d_M_sum_32 : decode b_M_sum 32 = .ok (.invokevirtual 99, 3) := by decide +kernel
theorem d_M_sum_35 : decode b_M_sum 35 = .ok (.istore_n 3, 1) := by decide +kernel
theorem d_M_sum_36 : decode b_M_sum 36 = .ok (.iload_n 3, 1) := by decide +kernel
theorem d_M_sum_37 : decode b_M_sum 37 = .ok (.ifCond .ge 17, 3) := by decide +kernel
theorem d_M_sum_40 : decode b_M_sum 40 = .ok (.aload_n 0, 1) := by decide +kernel
theorem d_M_sum_41 : decode b_M_sum 41 = .ok (.iconst 1, 1) := by decide +kernel
theorem d_M_sum_42 : decode b_M_sum 42 = .ok (.iconst 0, 1) := by decide +kernel
theorem d_M_sum_43 : decode b_M_sum 43 = .ok (.invokevirtual 102, 3) := by decide +kernel
theorem d_M_sum_46 : decode b_M_sum 46 = .ok (.aload_n 0, 1) := by decide +kernel
theorem d_M_sum_47 : decode b_M_sum 47 = .ok (.iconst 0, 1) := by decide +kernel
theorem d_M_sum_48 : decode b_M_sum 48 = .ok (.iconst 1, 1) := by decide +kernel
theorem d_M_sum_49 : decode b_M_sum 49 = .ok (.invokevirtual 62, 3) := by decide +kernel
theorem d_M_sum_52 : decode b_M_sum 52 = .ok (.iload_n 2, 1) := by decide +kernel
theorem d_M_sum_53 : decode b_M_sum 53 = .ok (.ireturn, 1) := by decide +kernel
theorem d_M_sum_54 : decode b_M_sum 54 = .ok (.aload_n 0, 1) := by decide +kernel
theorem d_M_sum_55 : decode b_M_sum 55 = .ok (.iconst 0, 1) := by decide +kernel
theorem d_M_sum_56 : decode b_M_sum 56 = .ok (.iconst 1, 1) := by decide +kernel
theorem d_M_sum_57 : decode b_M_sum 57 = .ok (.invokevirtual 102, 3) := by decide +kernel
theorem d_M_sum_60 : decode b_M_sum 60 = .ok (.iload_n 3, 1) := by decide +kernel
theorem d_M_sum_61 : decode b_M_sum 61 = .ok (.ifCond .ne 7, 3) := by decide +kernel
theorem d_M_sum_64 : decode b_M_sum 64 = .ok (.iconst 0, 1) := by decide +kernel
theorem d_M_sum_65 : decode b_M_sum 65 = .ok (.goto 4, 3) := by decide +kernel
theorem d_M_sum_68 : decode b_M_sum 68 = .ok (.iload_n 1, 1) := by decide +kernel
theorem d_M_sum_69 : decode b_M_sum 69 = .ok (.ireturn, 1) := by decide +kernel
theorem d_M_add_0 : decode b_M_add 0 = .ok (.aload_n 0, 1) := by decide +kernel
theorem d_M_add_1 : decode b_M_add 1 = .ok (.iload_n 1, 1) := by decide +kernel
theorem d_M_add_2 : decode b_M_add 2 = .ok (.iload_n 2, 1) := by decide +kernel
theorem d_M_add_3 : decode b_M_add 3 = .ok (.iload_n 3, 1) := by decide +kernel
theorem d_M_add_4 : decode b_M_add 4 = .ok (.invokestatic 95, 3) := by decide +kernel
theorem d_M_add_7 : decode b_M_add 7 = .ok (.ifCond .eq 7, 3) := by decide +kernel
theorem d_M_add_10 : decode b_M_add 10 = .ok (.iconst 0, 1) := by decide +kernel
theorem d_M_add_11 : decode b_M_add 11 = .ok (.goto 4, 3) := by decide +kernel
theorem d_M_add_14 : decode b_M_add 14 = .ok (.iconst 1, 1) := by decide +kernel
theorem d_M_add_15 : decode b_M_add 15 = .ok (.invokevirtual 73, 3) := by decide +kernel
theorem d_M_add_18 : decode b_M_add 18 = .ok (.ifCond .eq 5, 3) := by decide +kernel
theorem d_M_add_21 : decode b_M_add 21 = .ok (.iconst 0, 1) := by decide +kernel
theorem d_M_add_22 : decode b_M_add 22 = .ok (.ireturn, 1) := by decide +kernel
theorem d_M_add_23 : decode b_M_add 23 = .ok (.aload_n 0, 1) := by decide +kernel
theorem d_M_add_24 : decode b_M_add 24 = .ok (.iconst 0, 1) := by decide +kernel
theorem d_M_add_25 : decode b_M_add 25 = .ok (.iload_n 2, 1) := by decide +kernel
theorem d_M_add_26 : decode b_M_add 26 = .ok (.invokevirtual 84, 3) := by decide +kernel
theorem d_M_add_29 : decode b_M_add 29 = .ok (.aload_n 0, 1) := by decide +kernel
theorem d_M_add_30 : decode b_M_add 30 = .ok (.iconst 1, 1) := by decide +kernel
theorem d_M_add_31 : decode b_M_add 31 = .ok (.iload_n 3, 1) := by decide +kernel
theorem d_M_add_32 : decode b_M_add 32 = .ok (.invokevirtual 84, 3) := by decide +kernel
theorem d_M_add_35 : decode b_M_add 35 = .ok (.aload_n 0, 1) := by decide +kernel
theorem d_M_add_36 : decode b_M_add 36 = .ok (.aload_n 0, 1) := by decide +kernel
theorem d_M_add_37 : decode b_M_add 37 = .ok (.getfield 23, 3) := by decide +kernel
theorem d_M_add_40 : decode b_M_add 40 = .ok (.iload_n 2, 1) := by decide +kernel
theorem d_M_add_41 : decode b_M_add 41 = .ok (.iaload, 1) := by decide +kernel
theorem d_M_add_42 : decode b_M_add 42 = .ok (.aload_n 0, 1) := by decide +kernel
theorem d_M_add_43 : decode b_M_add 43 = .ok (.getfield 23, 3) := by decide +kernel
theorem d_M_add_46 : decode b_M_add 46 = .ok (.iload_n 3, 1) := by decide +kernel
theorem d_M_add_47 : decode b_M_add 47 = .ok (.iaload, 1) := by decide +kernel
theorem d_M_add_48 : decode b_M_add 48 = .ok (.invokevirtual 105, 3) := by decide +kernel
theorem d_M_add_51 : decode b_M_add 51 = .ok (.istore 4, 2) := by decide +kernel
theorem d_M_add_53 : decode b_M_add 53 = .ok (.aload_n 0, 1) := by decide +kernel
theorem d_M_add_54 : decode b_M_add 54 = .ok (.iload_n 1, 1) := by decide +kernel
theorem d_M_add_55 : decode b_M_add 55 = .ok (.iconst 0, 1) := by decide +kernel
theorem d_M_add_56 : decode b_M_add 56 = .ok (.iload 4, 2) := by decide +kernel
theorem d_M_add_58 : decode b_M_add 58 = .ok (.iconst 2, 1) := by decide +kernel
theorem d_M_add_59 : decode b_M_add 59 = .ok (.invokevirtual 80, 3) := by decide +kernel
theorem d_M_add_62 : decode b_M_add 62 = .ok (.ireturn, 1) := by decide +kernel
theorem d_M_subtract_0 : decode b_M_subtract 0 = .ok (.aload_n 0, 1) := by decide +kernel
theorem d_M_subtract_1 : decode b_M_subtract 1 = .ok (.iload_n 1, 1) := by decide +kernel
theorem d_M_subtract_2 : decode b_M_subtract 2 = .ok (.iload_n 2, 1) := by decide +kernel
theorem d_M_subtract_3 : decode b_M_subtract 3 = .ok (.iload_n 3, 1) := by decide +kernel
theorem d_M_subtract_4 : decode b_M_subtract 4 = .ok (.invokestatic 95, 3) := by decide +kernel
theorem d_M_subtract_7 : decode b_M_subtract 7 = .ok (.ifCond .eq 7, 3) := by decide +kernel
end
section
theorem d_M_subtract_10 : decode b_M_subtract 10 = .ok (.iconst 0, 1) := by decide +kernel
theorem d_M_subtract_11 : decode b_M_subtract 11 = .ok (.goto 4, 3) := by decide +kernel
theorem d_M_subtract_14 : decode b_M_subtract 14 = .ok (.iconst 1, 1) := by decide +kernel
theorem d_M_subtract_15 : decode b_M_subtract 15 = .ok (.invokevirtual 73, 3) := by decide +kernel
theorem d_M_subtract_18 : decode b_M_subtract 18 = .ok (.ifCond .eq 5, 3) := by decide +kernel
theorem d_M_subtract_21 : decode b_M_subtract 21 = .ok (.iconst 0, 1) := by decide +kernel
theorem d_M_subtract_22 : decode b_M_subtract 22 = .ok (.ireturn, 1) := by decide +kernel
theorem d_M_subtract_23 : decode b_M_subtract 23 = .ok (.aload_n 0, 1) := by decide +kernel
theorem d_M_subtract_24 : decode b_M_subtract 24 = .ok (.iconst 0, 1) := by decide +kernel
theorem d_M_subtract_25 : decode b_M_subtract 25 = .ok (.iload_n 2, 1) := by decide +kernel
theorem d_M_subtract_26 : decode b_M_subtract 26 = .ok (.invokevirtual 84, 3) := by decide +kernel
theorem d_M_subtract_29 : decode b_M_subtract 29 = .ok (.aload_n 0, 1) := by decide +kernel
theorem d_M_subtract_30 : decode b_M_subtract 30 = .ok (.iconst 1, 1) := by decide +kernel
theorem d_M_subtract_31 : decode b_M_subtract 31 = .ok (.iload_n 3, 1) := by decide +kernel
theorem d_M_subtract_32 : decode b_M_subtract 32 = .ok (.invokevirtual 84, 3) := by decide +kernel
theorem d_M_subtract_35 : decode b_M_subtract 35 = .ok (.aload_n 0, 1) := by decide +kernel
theorem d_M_subtract_36 : decode b_M_subtract 36 = .ok (.aload_n 0, 1) := by decide +kernel
theorem d_M_subtract_37 : decode b_M_subtract 37 = .ok (.getfield 23, 3) := by decide +kernel
theorem d_M_subtract_40 : decode b_M_subtract 40 = .ok (.iload_n 2, 1) := by decide +kernel
theorem d_M_subtract_41 : decode b_M_subtract 41 = .ok (.iaload, 1) := by decide +kernel
theorem d_M_subtract_42 : decode b_M_subtract 42 = .ok (.aload_n 0, 1) := by decide +kernel
theorem d_M_subtract_43 : decode b_M_subtract 43 = .ok (.getfield 23, 3) := by decide +kernel
theorem d_M_subtract_46 : decode b_M_subtract 46 = .ok (.iload_n 3, 1) := by decide +kernel
theorem d_M_subtract_47 : decode b_M_subtract 47 = .ok (.iaload, 1) := by decide +kernel
theorem d_M_subtract_48 : decode b_M_subtract 48 = .ok (.ineg, 1) := by decide +kernel
theorem d_M_subtract_49 : decode b_M_subtract 49 = .ok (.invokevirtual 105, 3) := by decide +kernel
theorem d_M_subtract_52 : decode b_M_subtract 52 = .ok (.istore 4, 2) := by decide +kernel
theorem d_M_subtract_54 : decode b_M_subtract 54 = .ok (.aload_n 0, 1) := by decide +kernel
theorem d_M_subtract_55 : decode b_M_subtract 55 = .ok (.iload_n 1, 1) := by decide +kernel
theorem d_M_subtract_56 : decode b_M_subtract 56 = .ok (.iconst 0, 1) := by decide +kernel
theorem d_M_subtract_57 : decode b_M_subtract 57 = .ok (.iload 4, 2) := by decide +kernel
theorem d_M_subtract_59 : decode b_M_subtract 59 = .ok (.iconst 2, 1) := by decide +kernel
theorem d_M_subtract_60 : decode b_M_subtract 60 = .ok (.invokevirtual 80, 3) := by decide +kernel
theorem d_M_subtract_63 : decode b_M_subtract 63 = .ok (.ireturn, 1) := by decide +kernel
theorem d_M_multiply_0 : decode b_M_multiply 0 = .ok (.aload_n 0, 1) := by decide +kernel
theorem d_M_multiply_1 : decode b_M_multiply 1 = .ok (.iload_n 1, 1) := by decide +kernel
theorem d_M_multiply_2 : decode b_M_multiply 2 = .ok (.iload_n 2, 1) := by decide +kernel
theorem d_M_multiply_3 : decode b_M_multiply 3 = .ok (.iload_n 3, 1) := by decide +kernel
theorem d_M_multiply_4 : decode b_M_multiply 4 = .ok (.invokestatic 95, 3) := by decide +kernel
theorem d_M_multiply_7 : decode b_M_multiply 7 = .ok (.ifCond .eq 7, 3) := by decide +kernel
theorem d_M_multiply_10 : decode b_M_multiply 10 = .ok (.iconst 0, 1) := by decide +kernel
theorem d_M_multiply_11 : decode b_M_multiply 11 = .ok (.goto 4, 3) := by decide +kernel
theorem d_M_multiply_14 : decode b_M_multiply 14 = .ok (.iconst 1, 1) := by decide +kernel
theorem d_M_multiply_15 : decode b_M_multiply 15 = .ok (.invokevirtual 73, 3) := by decide +kernel
theorem d_M_multiply_18 : decode b_M_multiply 18 = .ok (.ifCond .eq 5, 3) := by decide +kernel
theorem d_M_multiply_21 : decode b_M_multiply 21 = .ok (.iconst 0, 1) := by decide +kernel
theorem d_M_multiply_22 : decode b_M_multiply 22 = .ok (.ireturn, 1) := by decide +kernel
theorem d_M_multiply_23 : decode b_M_multiply 23 = .ok (.aload_n 0, 1) := by decide +kernel
theorem d_M_multiply_24 : decode b_M_multiply 24 = .ok (.iconst 3, 1) := by decide +kernel
theorem d_M_multiply_25 : decode b_M_multiply 25 = .ok (.iload_n 2, 1) := by decide +kernel
theorem d_M_multiply_26 : decode b_M_multiply 26 = .ok (.invokevirtual 84, 3) := by decide +kernel
theorem d_M_multiply_29 : decode b_M_multiply 29 = .ok (.aload_n 0, 1) := by decide +kernel
theorem d_M_multiply_30 : decode b_M_multiply 30 = .ok (.iconst 4, 1) := by decide +kernel
theorem d_M_multiply_31 : decode b_M_multiply 31 = .ok (.iload_n 3, 1) := by decide +kernel
theorem d_M_multiply_32 : decode b_M_multiply 32 = .ok (.invokevirtual 84, 3) := by decide +kernel
theorem d_M_multiply_35 : decode b_M_multiply 35 = .ok (.aload_n 0, 1) := by decide +kernel
theorem d_M_multiply_36 : decode b_M_multiply 36 = .ok (.iconst 2, 1) := by decide +kernel
theorem d_M_multiply_37 : decode b_M_multiply 37 = .ok (.iconst 3, 1) := by decide +kernel
theorem d_M_multiply_38 : decode b_M_multiply 38 = .ok (.iconst 4, 1) := by decide +kernel
theorem d_M_multiply_39 : decode b_M_multiply 39 = .ok (.invokevirtual 108, 3) := by decide +kernel
theorem d_M_multiply_42 : decode b_M_multiply 42 = .ok (.aload_n 0, 1) := by decide +kernel
theorem d_M_multiply_43 : decode b_M_multiply 43 = .ok (.iload_n 1, 1) := by decide +kernel
theorem d_M_multiply_44 : decode b_M_multiply 44 = .ok (.iconst 2, 1) := by decide +kernel
theorem d_M_multiply_45 : decode b_M_multiply 45 = .ok (.aload_n 0, 1) := by decide +kernel
theorem d_M_multiply_46 : decode b_M_multiply 46 = .ok (.getfield 23, 3) := by decide +kernel
theorem d_M_multiply_49 : decode b_M_multiply 49 = .ok (.iload_n 2, 1) := by decide +kernel
theorem d_M_multiply_50 : decode b_M_multiply 50 = .ok (.iaload, 1) := by decide +kernel
theorem d_M_multiply_51 : decode b_M_multiply 51 = .ok (.aload_n 0, 1) := by decide +kernel
theorem d_M_multiply_52 : decode b_M_multiply 52 = .ok (.getfield 23, 3) := by decide +kernel
theorem d_M_multiply_55 : decode b_M_multiply 55 = .ok (.iload_n 3, 1) := by decide +kernel
theorem d_M_multiply_56 : decode b_M_multiply 56 = .ok (.iaload, 1) := by decide +kernel
theorem d_M_multiply_57 : decode b_M_multiply 57 = .ok (.imul, 1) := by decide +kernel
theorem d_M_multiply_58 : decode b_M_multiply 58 = .ok (.iconst 2, 1) := by decide +kernel
theorem d_M_multiply_59 : decode b_M_multiply 59 = .ok (.invokevirtual 80, 3) := by decide +kernel
theorem d_M_multiply_62 : decode b_M_multiply 62 = .ok (.ireturn, 1) := by decide +kernel
theorem d_M_addProduct_0 : decode b_M_addProduct 0 = .ok (.aload_n 0, 1) := by decide +kernel
theorem d_M_addProduct_1 : decode b_M_addProduct 1 = .ok (.iload_n 1, 1) := by decide +kernel
theorem d_M_addProduct_2 : decode b_M_addProduct 2 = .ok (.iload_n 2, 1) := by decide +kernel
theorem d_M_addProduct_3 : decode b_M_addProduct 3 = .ok (.iload_n 3, 1) := by decide +kernel
theorem d_M_addProduct_4 : decode b_M_addProduct 4 = .ok (.invokestatic 95, 3) := by decide +kernel
theorem d_M_addProduct_7 : decode b_M_addProduct 7 = .ok (.ifCond .eq 7, 3) := by decide +kernel
theorem d_M_addProduct_10 : decode b_M_addProduct 10 = .ok (.iconst 0, 1) := by decide +kernel
theorem d_M_addProduct_11 : decode b_M_addProduct 11 = .ok (.goto 4, 3) := by decide +kernel
theorem d_M_addProduct_14 : decode b_M_addProduct 14 = .ok (.iconst 1, 1) := by decide +kernel
theorem d_M_addProduct_15 : decode b_M_addProduct 15 = .ok (.invokevirtual 73, 3) := by decide +kernel
theorem d_M_addProduct_18 : decode b_M_addProduct 18 = .ok (.ifCond .eq 5, 3) := by decide +kernel
theorem d_M_addProduct_21 : decode b_M_addProduct 21 = .ok (.iconst 0, 1) := by decide +kernel
theorem d_M_addProduct_22 : decode b_M_addProduct 22 = .ok (.ireturn, 1) := by decide +kernel
theorem d_M_addProduct_23 : decode b_M_addProduct 23 = .ok (.aload_n 0, 1) := by decide +kernel
theorem d_M_addProduct_24 : decode b_M_addProduct 24 = .ok (.iconst 3, 1) := by decide +kernel
theorem d_M_addProduct_25 : decode b_M_addProduct 25 = .ok (.iload_n 2, 1) := by decide +kernel
theorem d_M_addProduct_26 : decode b_M_addProduct 26 = .ok (.invokevirtual 84, 3) := by decide +kernel
theorem d_M_addProduct_29 : decode b_M_addProduct 29 = .ok (.aload_n 0, 1) := by decide +kernel
theorem d_M_addProduct_30 : decode b_M_addProduct 30 = .ok (.iconst 4, 1) := by decide +kernel
theorem d_M_addProduct_31 : decode b_M_addProduct 31 = .ok (.iload_n 3, 1) := by decide +kernel
theorem d_M_addProduct_32 : decode b_M_addProduct 32 = .ok (.invokevirtual 84, 3) := by decide +kernel
theorem d_M_addProduct_35 : decode b_M_addProduct 35 = .ok (.aload_n 0, 1) := by decide +kernel
theorem d_M_addProduct_36 : decode b_M_addProduct 36 = .ok (.iconst 1, 1) := by decide +kernel
theorem d_M_addProduct_37 : decode b_M_addProduct 37 = .ok (.iconst 3, 1) := by decide +kernel
theorem d_M_addProduct_38 : decode b_M_addProduct 38 = .ok (.iconst 4, 1) := by decide +kernel
theorem d_M_addProduct_39 : decode b_M_addProduct 39 = .ok (.invokevirtual 108, 3) := by decide +kernel
theorem d_M_addProduct_42 : decode b_M_addProduct 42 = .ok (.aload_n 0, 1) := by decide +kernel
theorem d_M_addProduct_43 : decode b_M_addProduct 43 = .ok (.iconst 0, 1) := by decide +kernel
theorem d_M_addProduct_44 : decode b_M_addProduct 44 = .ok (.iload_n 1, 1) := by decide +kernel
theorem d_M_addProduct_45 : decode b_M_addProduct 45 = .ok (.invokevirtual 84, 3) := by decide +kernel
theorem d_M_addProduct_48 : decode b_M_addProduct 48 = .ok (.aload_n 0, 1) := by decide +kernel
theorem d_M_addProduct_49 : decode b_M_addProduct 49 = .ok (.getfield 23, 3) := by decide +kernel
theorem d_M_addProduct_52 : decode b_M_addProduct 52 = .ok (.iload_n 2, 1) := by decide +kernel
theorem d_M_addProduct_53 : decode b_M_addProduct 53 = .ok (.iaload, 1) := by decide +kernel
theorem d_M_addProduct_54 : decode b_M_addProduct 54 = .ok (.aload_n 0, 1) := by decide +kernel
theorem d_M_addProduct_55 : decode b_M_addProduct 55 = .ok (.getfield 23, 3) := by decide +kernel
theorem d_M_addProduct_58 : decode b_M_addProduct 58 = .ok (.iload_n 3, 1) := by decide +kernel
theorem d_M_addProduct_59 : decode b_M_addProduct 59 = .ok (.iaload, 1) := by decide +kernel
theorem d_M_addProduct_60 : decode b_M_addProduct 60 = .ok (.imul, 1) := by decide +kernel
theorem d_M_addProduct_61 : decode b_M_addProduct 61 = .ok (.istore 5, 2) := by decide +kernel
theorem d_M_addProduct_63 : decode b_M_addProduct 63 = .ok (.aload_n 0, 1) := by decide +kernel
theorem d_M_addProduct_64 : decode b_M_addProduct 64 = .ok (.aload_n 0, 1) := by decide +kernel
theorem d_M_addProduct_65 : decode b_M_addProduct 65 = .ok (.getfield 23, 3) := by decide +kernel
theorem d_M_addProduct_68 : decode b_M_addProduct 68 = .ok (.iload_n 1, 1) := by decide +kernel
theorem d_M_addProduct_69 : decode b_M_addProduct 69 = .ok (.iaload, 1) := by decide +kernel
theorem d_M_addProduct_70 : decode b_M_addProduct 70 = .ok (.iload 4, 2) := by decide +kernel
theorem d_M_addProduct_72 : decode b_M_addProduct 72 = .ok (.ifCond .eq 9, 3) := by decide +kernel
theorem d_M_addProduct_75 : decode b_M_addProduct 75 = .ok (.iload 5, 2) := by decide +kernel
theorem d_M_addProduct_77 : decode b_M_addProduct 77 = .ok (.ineg, 1) := by decide +kernel
theorem d_M_addProduct_78 : decode b_M_addProduct 78 = .ok (.goto 5, 3) := by decide +kernel
theorem d_M_addProduct_81 : decode b_M_addProduct 81 = .ok (.iload 5, 2) := by decide +kernel
theorem d_M_addProduct_83 : decode b_M_addProduct 83 = .ok (.invokevirtual 105, 3) := by decide +kernel
theorem d_M_addProduct_86 : decode b_M_addProduct 86 = .ok (.istore 6, 2) := by decide +kernel
theorem d_M_addProduct_88 : decode b_M_addProduct 88 = .ok (.aload_n 0, 1) := by decide +kernel
theorem d_M_addProduct_89 : decode b_M_addProduct 89 = .ok (.iload_n 1, 1) := by decide +kernel
theorem d_M_addProduct_90 : decode b_M_addProduct 90 = .ok (.iconst 0, 1) := by decide +kernel
theorem d_M_addProduct_91 : decode b_M_addProduct 91 = .ok (.iload 6, 2) := by decide +kernel
theorem d_M_addProduct_93 : decode b_M_addProduct 93 = .ok (.iconst 2, 1) := by decide +kernel
theorem d_M_addProduct_94 : decode b_M_addProduct 94 = .ok (.invokevirtual 80, 3) := by decide +kernel
theorem d_M_addProduct_97 : decode b_M_addProduct 97 = .ok (.ireturn, 1) := by decide +kernel
theorem d_M_down_0 : decode b_M_down 0 = .ok (.aload_n 0, 1) := by decide +kernel
theorem d_M_down_1 : decode b_M_down 1 = .ok (.iconst 2, 1) := by decide +kernel
theorem d_M_down_2 : decode b_M_down 2 = .ok (.iconst 0, 1) := by decide +kernel
theorem d_M_down_3 : decode b_M_down 3 = .ok (.iconst 1, 1) := by decide +kernel
theorem d_M_down_4 : decode b_M_down 4 = .ok (.invokevirtual 58, 3) := by decide +kernel
theorem d_M_down_7 : decode b_M_down 7 = .ok (.iload_n 1, 1) := by decide +kernel
theorem d_M_down_8 : decode b_M_down 8 = .ok (.ifCond .eq 42, 3) := by decide +kernel
theorem d_M_down_11 : decode b_M_down 11 = .ok (.aload_n 0, 1) := by decide +kernel
theorem d_M_down_12 : decode b_M_down 12 = .ok (.getfield 13, 3) := by decide +kernel
theorem d_M_down_15 : decode b_M_down 15 = .ok (.iconst 0, 1) := by decide +kernel
theorem d_M_down_16 : decode b_M_down 16 = .ok (.iaload, 1) := by decide +kernel
theorem d_M_down_17 : decode b_M_down 17 = .ok (.ifCond .le 33, 3) := by decide +kernel
theorem d_M_down_20 : decode b_M_down 20 = .ok (.aload_n 0, 1) := by decide +kernel
theorem d_M_down_21 : decode b_M_down 21 = .ok (.iconst 4, 1) := by decide +kernel
theorem d_M_down_22 : decode b_M_down 22 = .ok (.lconst 1, 1) := by decide +kernel
theorem d_M_down_23 : decode b_M_down 23 = .ok (.invokevirtual 76, 3) := by decide +kernel
theorem d_M_down_26 : decode b_M_down 26 = .ok (.aload_n 0, 1) := by decide +kernel
theorem d_M_down_27 : decode b_M_down 27 = .ok (.iconst 2, 1) := by decide +kernel
theorem d_M_down_28 : decode b_M_down 28 = .ok (.iconst 4, 1) := by decide +kernel
theorem d_M_down_29 : decode b_M_down 29 = .ok (.invokevirtual 92, 3) := by decide +kernel
theorem d_M_down_32 : decode b_M_down 32 = .ok (.aload_n 0, 1) := by decide +kernel
theorem d_M_down_33 : decode b_M_down 33 = .ok (.iconst 3, 1) := by decide +kernel
theorem d_M_down_34 : decode b_M_down 34 = .ok (.iconst 1, 1) := by decide +kernel
theorem d_M_down_35 : decode b_M_down 35 = .ok (.invokevirtual 62, 3) := by decide +kernel
theorem d_M_down_38 : decode b_M_down 38 = .ok (.aload_n 0, 1) := by decide +kernel
theorem d_M_down_39 : decode b_M_down 39 = .ok (.iconst 3, 1) := by decide +kernel
theorem d_M_down_40 : decode b_M_down 40 = .ok (.iconst 0, 1) := by decide +kernel
theorem d_M_down_41 : decode b_M_down 41 = .ok (.invokevirtual 102, 3) := by decide +kernel
theorem d_M_down_44 : decode b_M_down 44 = .ok (.aload_n 0, 1) := by decide +kernel
theorem d_M_down_45 : decode b_M_down 45 = .ok (.iconst 0, 1) := by decide +kernel
theorem d_M_down_46 : decode b_M_down 46 = .ok (.iconst 3, 1) := by decide +kernel
theorem d_M_down_47 : decode b_M_down 47 = .ok (.invokevirtual 62, 3) := by decide +kernel
theorem d_M_down_50 : decode b_M_down 50 = .ok (.return_, 1) := by decide +kernel
theorem d_M_divide_0 : decode b_M_divide 0 = .ok (.aload_n 0, 1) := by decide +kernel
theorem d_M_divide_1 : decode b_M_divide 1 = .ok (.iload_n 1, 1) := by decide +kernel
theorem d_M_divide_2 : decode b_M_divide 2 = .ok (.iload_n 2, 1) := by decide +kernel
theorem d_M_divide_3 : decode b_M_divide 3 = .ok (.iload_n 3, 1) := by decide +kernel
theorem d_M_divide_4 : decode b_M_divide 4 = .ok (.invokestatic 95, 3) := by decide +kernel
theorem d_M_divide_7 : decode b_M_divide 7 = .ok (.ifCond .eq 11, 3) := by decide +kernel
theorem d_M_divide_10 : decode b_M_divide 10 = .ok (.iload 4, 2) := by decide +kernel
theorem d_M_divide_12 : decode b_M_divide 12 = .ok (.invokestatic 36, 3) := by decide +kernel
theorem d_M_divide_15 : decode b_M_divide 15 = .ok (.ifCond .ne 7, 3) := by decide +kernel
theorem d_M_divide_18 : decode b_M_divide 18 = .ok (.iconst 1, 1) := by decide +kernel
theorem d_M_divide_19 : decode b_M_divide 19 = .ok (.goto 27, 3) := by decide +kernel
theorem d_M_divide_22 : decode b_M_divide 22 = .ok (.iload_n 1, 1) := by decide +kernel
theorem d_M_divide_23 : decode b_M_divide 23 = .ok (.iload_n 2, 1) := by decide +kernel
theorem d_M_divide_24 : decode b_M_divide 24 = .ok (.if_icmp .ne 7, 3) := by decide +kernel
theorem d_M_divide_27 : decode b_M_divide 27 = .ok (.iconst 2, 1) := by decide +kernel
theorem d_M_divide_28 : decode b_M_divide 28 = .ok (.goto 18, 3) := by decide +kernel
theorem d_M_divide_31 : decode b_M_divide 31 = .ok (.aload_n 0, 1) := by decide +kernel
theorem d_M_divide_32 : decode b_M_divide 32 = .ok (.getfield 23, 3) := by decide +kernel
theorem d_M_divide_35 : decode b_M_divide 35 = .ok (.iload 4, 2) := by decide +kernel
theorem d_M_divide_37 : decode b_M_divide 37 = .ok (.iaload, 1) := by decide +kernel
theorem d_M_divide_38 : decode b_M_divide 38 = .ok (.ifCond .gt 7, 3) := by decide +kernel
theorem d_M_divide_41 : decode b_M_divide 41 = .ok (.iconst 3, 1) := by decide +kernel
theorem d_M_divide_42 : decode b_M_divide 42 = .ok (.goto 4, 3) := by decide +kernel
theorem d_M_divide_45 : decode b_M_divide 45 = .ok (.iconst 0, 1) := by decide +kernel
theorem d_M_divide_46 : decode b_M_divide 46 = .ok (.invokevirtual 73, 3) := by decide +kernel
theorem d_M_divide_49 : decode b_M_divide 49 = .ok (.ifCond .eq 5, 3) := by decide +kernel
theorem d_M_divide_52 : decode b_M_divide 52 = .ok (.iconst 0, 1) := by decide +kernel
theorem d_M_divide_53 : decode b_M_divide 53 = .ok (.ireturn, 1) := by decide +kernel
theorem d_M_divide_54 : decode b_M_divide 54 = .ok (.aload_n 0, 1) := by decide +kernel
theorem d_M_divide_55 : decode b_M_divide 55 = .ok (.getfield 23, 3) := by decide +kernel
theorem d_M_divide_58 : decode b_M_divide 58 = .ok (.iload_n 3, 1) := by decide +kernel
theorem d_M_divide_59 : decode b_M_divide 59 = .ok (.iaload, 1) := by decide +kernel
theorem d_M_divide_60 : decode b_M_divide 60 = .ok (.istore 5, 2) := by decide +kernel
theorem d_M_divide_62 : decode b_M_divide 62 = .ok (.aload_n 0, 1) := by decide +kernel
theorem d_M_divide_63 : decode b_M_divide 63 = .ok (.iconst 0, 1) := by decide +kernel
theorem d_M_divide_64 : decode b_M_divide 64 = .ok (.iload_n 3, 1) := by decide +kernel
theorem d_M_divide_65 : decode b_M_divide 65 = .ok (.invokevirtual 84, 3) := by decide +kernel
theorem d_M_divide_68 : decode b_M_divide 68 = .ok (.aload_n 0, 1) := by decide +kernel
theorem d_M_divide_69 : decode b_M_divide 69 = .ok (.iconst 1, 1) := by decide +kernel
theorem d_M_divide_70 : decode b_M_divide 70 = .ok (.iload 4, 2) := by decide +kernel
theorem d_M_divide_72 : decode b_M_divide 72 = .ok (.invokevirtual 84, 3) := by decide +kernel
theorem d_M_divide_75 : decode b_M_divide 75 = .ok (.aload_n 0, 1) := by decide +kernel
theorem d_M_divide_76 : decode b_M_divide 76 = .ok (.iload 5, 2) := by decide +kernel
theorem d_M_divide_78 : decode b_M_divide 78 = .ok (.ifCond .ge 7, 3) := by decide +kernel
theorem d_M_divide_81 : decode b_M_divide 81 = .ok (.iconst 1, 1) := by decide +kernel
theorem d_M_divide_82 : decode b_M_divide 82 = .ok (.goto 4, 3) := by decide +kernel
theorem d_M_divide_85 : decode b_M_divide 85 = .ok (.iconst 0, 1) := by decide +kernel
theorem d_M_divide_86 : decode b_M_divide 86 = .ok (.invokevirtual 111, 3) := by decide +kernel
theorem d_M_divide_89 : decode b_M_divide 89 = .ok (.aload_n 0, 1) := by decide +kernel
theorem d_M_divide_90 : decode b_M_divide 90 = .ok (.iconst 5, 1) := by decide +kernel
theorem d_M_divide_91 : decode b_M_divide 91 = .ok (.iconst 0, 1) := by decide +kernel
theorem d_M_divide_92 : decode b_M_divide 92 = .ok (.invokevirtual 62, 3) := by decide +kernel
theorem d_M_divide_95 : decode b_M_divide 95 = .ok (.aload_n 0, 1) := by decide +kernel
theorem d_M_divide_96 : decode b_M_divide 96 = .ok (.iload_n 1, 1) := by decide +kernel
theorem d_M_divide_97 : decode b_M_divide 97 = .ok (.iconst 2, 1) := by decide +kernel
theorem d_M_divide_98 : decode b_M_divide 98 = .ok (.iload 5, 2) := by decide +kernel
theorem d_M_divide_100 : decode b_M_divide 100 = .ok (.iconst 4, 1) := by decide +kernel
theorem d_M_divide_101 : decode b_M_divide 101 = .ok (.invokevirtual 80, 3) := by decide +kernel
theorem d_M_divide_104 : decode b_M_divide 104 = .ok (.istore 6, 2) := by decide +kernel
theorem d_M_divide_106 : decode b_M_divide 106 = .ok (.aload_n 0, 1) := by decide +kernel
theorem d_M_divide_107 : decode b_M_divide 107 = .ok (.iload_n 2, 1) := by decide +kernel
theorem d_M_divide_108 : decode b_M_divide 108 = .ok (.iconst 5, 1) := by decide +kernel
theorem d_M_divide_109 : decode b_M_divide 109 = .ok (.iconst 1, 1) := by decide +kernel
theorem d_M_divide_110 : decode b_M_divide 110 = .ok (.iconst 4, 1) := by decide +kernel
theorem d_M_divide_111 : decode b_M_divide 111 = .ok (.invokevirtual 80, 3) := by decide +kernel
theorem d_M_divide_114 : decode b_M_divide 114 = .ok (.pop, 1) := by decide +kernel
theorem d_M_divide_115 : decode b_M_divide 115 = .ok (.iload 6, 2) := by decide +kernel
theorem d_M_divide_117 : decode b_M_divide 117 = .ok (.ireturn, 1) := by decide +kernel
theorem d_M_exact_0 : decode b_M_exact 0 = .ok (.aload_n 0, 1) := by decide +kernel
theorem d_M_exact_1 : decode b_M_exact 1 = .ok (.iload_n 1, 1) := by decide +kernel
theorem d_M_exact_2 : decode b_M_exact 2 = .ok (.iload_n 2, 1) := by decide +kernel
theorem d_M_exact_3 : decode b_M_exact 3 = .ok (.iload_n 3, 1) := by decide +kernel
theorem d_M_exact_4 : decode b_M_exact 4 = .ok (.invokestatic 95, 3) := by decide +kernel
theorem d_M_exact_7 : decode b_M_exact 7 = .ok (.ifCond .ne 7, 3) := by decide +kernel
theorem d_M_exact_10 : decode b_M_exact 10 = .ok (.iconst 1, 1) := by decide +kernel
theorem d_M_exact_11 : decode b_M_exact 11 = .ok (.goto 17, 3) := by decide +kernel
theorem d_M_exact_14 : decode b_M_exact 14 = .ok (.aload_n 0, 1) := by decide +kernel
theorem d_M_exact_15 : decode b_M_exact 15 = .ok (.getfield 23, 3) := by decide +kernel
theorem d_M_exact_18 : decode b_M_exact 18 = .ok (.iload_n 3, 1) := by decide +kernel
theorem d_M_exact_19 : decode b_M_exact 19 = .ok (.iaload, 1) := by decide +kernel
theorem d_M_exact_20 : decode b_M_exact 20 = .ok (.ifCond .ne 7, 3) := by decide +kernel
theorem d_M_exact_23 : decode b_M_exact 23 = .ok (.iconst 2, 1) := by decide +kernel
theorem d_M_exact_24 : decode b_M_exact 24 = .ok (.goto 4, 3) := by decide +kernel
theorem d_M_exact_27 : decode b_M_exact 27 = .ok (.iconst 0, 1) := by decide +kernel
theorem d_M_exact_28 : decode b_M_exact 28 = .ok (.invokevirtual 73, 3) := by decide +kernel
theorem d_M_exact_31 : decode b_M_exact 31 = .ok (.ifCond .eq 5, 3) := by decide +kernel
theorem d_M_exact_34 : decode b_M_exact 34 = .ok (.iconst 0, 1) := by decide +kernel
theorem d_M_exact_35 : decode b_M_exact 35 = .ok (.ireturn, 1) := by decide +kernel
theorem d_M_exact_36 : decode b_M_exact 36 = .ok (.aload_n 0, 1) := by decide +kernel
theorem d_M_exact_37 : decode b_M_exact 37 = .ok (.iconst 0, 1) := by decide +kernel
theorem d_M_exact_38 : decode b_M_exact 38 = .ok (.iload_n 2, 1) := by decide +kernel
theorem d_M_exact_39 : decode b_M_exact 39 = .ok (.invokevirtual 84, 3) := by decide +kernel
theorem d_M_exact_42 : decode b_M_exact 42 = .ok (.aload_n 0, 1) := by decide +kernel
theorem d_M_exact_43 : decode b_M_exact 43 = .ok (.iconst 1, 1) := by decide +kernel
theorem d_M_exact_44 : decode b_M_exact 44 = .ok (.iload_n 3, 1) := by decide +kernel
theorem d_M_exact_45 : decode b_M_exact 45 = .ok (.invokevirtual 84, 3) := by decide +kernel
theorem d_M_exact_48 : decode b_M_exact 48 = .ok (.aload_n 0, 1) := by decide +kernel
theorem d_M_exact_49 : decode b_M_exact 49 = .ok (.iconst 2, 1) := by decide +kernel
theorem d_M_exact_50 : decode b_M_exact 50 = .ok (.iconst 0, 1) := by decide +kernel
theorem d_M_exact_51 : decode b_M_exact 51 = .ok (.iconst 1, 1) := by decide +kernel
theorem d_M_exact_52 : decode b_M_exact 52 = .ok (.invokevirtual 58, 3) := by decide +kernel
theorem d_M_exact_55 : decode b_M_exact 55 = .ok (.aload_n 0, 1) := by decide +kernel
theorem d_M_exact_56 : decode b_M_exact 56 = .ok (.aload_n 0, 1) := by decide +kernel
theorem d_M_exact_57 : decode b_M_exact 57 = .ok (.getfield 13, 3) := by decide +kernel
theorem d_M_exact_60 : decode b_M_exact 60 = .ok (.iconst 0, 1) := by decide +kernel
theorem d_M_exact_61 : decode b_M_exact 61 = .ok (.iaload, 1) := by decide +kernel
theorem d_M_exact_62 : decode b_M_exact 62 = .ok (.ifCond .le 7, 3) := by decide +kernel
theorem d_M_exact_65 : decode b_M_exact 65 = .ok (.iconst 2, 1) := by decide +kernel
theorem d_M_exact_66 : decode b_M_exact 66 = .ok (.goto 4, 3) := by decide +kernel
theorem d_M_exact_69 : decode b_M_exact 69 = .ok (.iconst 0, 1) := by decide +kernel
theorem d_M_exact_70 : decode b_M_exact 70 = .ok (.invokevirtual 73, 3) := by decide +kernel
theorem d_M_exact_73 : decode b_M_exact 73 = .ok (.ifCond .eq 5, 3) := by decide +kernel
theorem d_M_exact_76 : decode b_M_exact 76 = .ok (.iconst 0, 1) := by decide +kernel
theorem d_M_exact_77 : decode b_M_exact 77 = .ok (.ireturn, 1) := by decide +kernel
theorem d_M_exact_78 : decode b_M_exact 78 = .ok (.aload_n 0, 1) := by decide +kernel
theorem d_M_exact_79 : decode b_M_exact 79 = .ok (.iload_n 1, 1) := by decide +kernel
theorem d_M_exact_80 : decode b_M_exact 80 = .ok (.iconst 2, 1) := by decide +kernel
theorem d_M_exact_81 : decode b_M_exact 81 = .ok (.aload_n 0, 1) := by decide +kernel
theorem d_M_exact_82 : decode b_M_exact 82 = .ok (.getfield 23, 3) := by decide +kernel
theorem d_M_exact_85 : decode b_M_exact 85 = .ok (.iload_n 2, 1) := by decide +kernel
theorem d_M_exact_86 : decode b_M_exact 86 = .ok (.iaload, 1) := by decide +kernel
theorem d_M_exact_87 : decode b_M_exact 87 = .ok (.aload_n 0, 1) := by decide +kernel
theorem d_M_exact_88 : decode b_M_exact 88 = .ok (.getfield 23, 3) := by decide +kernel
theorem d_M_exact_91 : decode b_M_exact 91 = .ok (.iload_n 3, 1) := by decide +kernel
theorem d_M_exact_92 : decode b_M_exact 92 = .ok (.iaload, 1) := by decide +kernel
theorem d_M_exact_93 : decode b_M_exact 93 = .ok (.imul, 1) := by decide +kernel
theorem d_M_exact_94 : decode b_M_exact 94 = .ok (.iconst 3, 1) := by decide +kernel
theorem d_M_exact_95 : decode b_M_exact 95 = .ok (.invokevirtual 80, 3) := by decide +kernel
theorem d_M_exact_98 : decode b_M_exact 98 = .ok (.ireturn, 1) := by decide +kernel
theorem d_M_nearest_0 : decode b_M_nearest 0 = .ok (.aload_n 0, 1) := by decide +kernel
theorem d_M_nearest_1 : decode b_M_nearest 1 = .ok (.iload_n 1, 1) := by decide +kernel
theorem d_M_nearest_2 : decode b_M_nearest 2 = .ok (.iload_n 2, 1) := by decide +kernel
theorem d_M_nearest_3 : decode b_M_nearest 3 = .ok (.iload_n 3, 1) := by decide +kernel
theorem d_M_nearest_4 : decode b_M_nearest 4 = .ok (.invokestatic 95, 3) := by decide +kernel
theorem d_M_nearest_7 : decode b_M_nearest 7 = .ok (.ifCond .ne 7, 3) := by decide +kernel
theorem d_M_nearest_10 : decode b_M_nearest 10 = .ok (.iconst 1, 1) := by decide +kernel
theorem d_M_nearest_11 : decode b_M_nearest 11 = .ok (.goto 17, 3) := by decide +kernel
theorem d_M_nearest_14 : decode b_M_nearest 14 = .ok (.aload_n 0, 1) := by decide +kernel
theorem d_M_nearest_15 : decode b_M_nearest 15 = .ok (.getfield 23, 3) := by decide +kernel
theorem d_M_nearest_18 : decode b_M_nearest 18 = .ok (.iload_n 3, 1) := by decide +kernel
theorem d_M_nearest_19 : decode b_M_nearest 19 = .ok (.iaload, 1) := by decide +kernel
theorem d_M_nearest_20 : decode b_M_nearest 20 = .ok (.ifCond .gt 7, 3) := by decide +kernel
theorem d_M_nearest_23 : decode b_M_nearest 23 = .ok (.iconst 2, 1) := by decide +kernel
theorem d_M_nearest_24 : decode b_M_nearest 24 = .ok (.goto 4, 3) := by decide +kernel
theorem d_M_nearest_27 : decode b_M_nearest 27 = .ok (.iconst 0, 1) := by decide +kernel
theorem d_M_nearest_28 : decode b_M_nearest 28 = .ok (.invokevirtual 73, 3) := by decide +kernel
theorem d_M_nearest_31 : decode b_M_nearest 31 = .ok (.ifCond .eq 5, 3) := by decide +kernel
theorem d_M_nearest_34 : decode b_M_nearest 34 = .ok (.iconst 0, 1) := by decide +kernel
theorem d_M_nearest_35 : decode b_M_nearest 35 = .ok (.ireturn, 1) := by decide +kernel
theorem d_M_nearest_36 : decode b_M_nearest 36 = .ok (.aload_n 0, 1) := by decide +kernel
theorem d_M_nearest_37 : decode b_M_nearest 37 = .ok (.getfield 23, 3) := by decide +kernel
theorem d_M_nearest_40 : decode b_M_nearest 40 = .ok (.iload_n 2, 1) := by decide +kernel
theorem d_M_nearest_41 : decode b_M_nearest 41 = .ok (.iaload, 1) := by decide +kernel
theorem d_M_nearest_42 : decode b_M_nearest 42 = .ok (.istore 4, 2) := by decide +kernel
theorem d_M_nearest_44 : decode b_M_nearest 44 = .ok (.aload_n 0, 1) := by decide +kernel
theorem d_M_nearest_45 : decode b_M_nearest 45 = .ok (.iconst 0, 1) := by decide +kernel
theorem d_M_nearest_46 : decode b_M_nearest 46 = .ok (.iload_n 2, 1) := by decide +kernel
theorem d_M_nearest_47 : decode b_M_nearest 47 = .ok (.invokevirtual 84, 3) := by decide +kernel
theorem d_M_nearest_50 : decode b_M_nearest 50 = .ok (.aload_n 0, 1) := by decide +kernel
theorem d_M_nearest_51 : decode b_M_nearest 51 = .ok (.iconst 1, 1) := by decide +kernel
theorem d_M_nearest_52 : decode b_M_nearest 52 = .ok (.iload_n 3, 1) := by decide +kernel
theorem d_M_nearest_53 : decode b_M_nearest 53 = .ok (.invokevirtual 84, 3) := by decide +kernel
theorem d_M_nearest_56 : decode b_M_nearest 56 = .ok (.aload_n 0, 1) := by decide +kernel
theorem d_M_nearest_57 : decode b_M_nearest 57 = .ok (.iconst 2, 1) := by decide +kernel
theorem d_M_nearest_58 : decode b_M_nearest 58 = .ok (.iconst 0, 1) := by decide +kernel
theorem d_M_nearest_59 : decode b_M_nearest 59 = .ok (.iconst 1, 1) := by decide +kernel
theorem d_M_nearest_60 : decode b_M_nearest 60 = .ok (.invokevirtual 58, 3) := by decide +kernel
theorem d_M_nearest_63 : decode b_M_nearest 63 = .ok (.aload_n 0, 1) := by decide +kernel
theorem d_M_nearest_64 : decode b_M_nearest 64 = .ok (.iconst 0, 1) := by decide +kernel
theorem d_M_nearest_65 : decode b_M_nearest 65 = .ok (.iconst 2, 1) := by decide +kernel
theorem d_M_nearest_66 : decode b_M_nearest 66 = .ok (.invokevirtual 87, 3) := by decide +kernel
theorem d_M_nearest_69 : decode b_M_nearest 69 = .ok (.aload_n 0, 1) := by decide +kernel
theorem d_M_nearest_70 : decode b_M_nearest 70 = .ok (.iconst 0, 1) := by decide +kernel
theorem d_M_nearest_71 : decode b_M_nearest 71 = .ok (.iconst 1, 1) := by decide +kernel
theorem d_M_nearest_72 : decode b_M_nearest 72 = .ok (.invokevirtual 99, 3) := by decide +kernel
theorem d_M_nearest_75 : decode b_M_nearest 75 = .ok (.istore 5, 2) := by decide +kernel
theorem d_M_nearest_77 : decode b_M_nearest 77 = .ok (.aload_n 0, 1) := by decide +kernel
theorem d_M_nearest_78 : decode b_M_nearest 78 = .ok (.getfield 13, 3) := by decide +kernel
theorem d_M_nearest_81 : decode b_M_nearest 81 = .ok (.iconst 2, 1) := by decide +kernel
theorem d_M_nearest_82 : decode b_M_nearest 82 = .ok (.iaload, 1) := by decide +kernel
theorem d_M_nearest_83 : decode b_M_nearest 83 = .ok (.ifCond .le 21, 3) := by decide +kernel
theorem d_M_nearest_86 : decode b_M_nearest 86 = .ok (.aload_n 0, 1) := by decide +kernel
theorem d_M_nearest_87 : decode b_M_nearest 87 = .ok (.getfield 7, 3) := by decide +kernel
theorem d_M_nearest_90 : decode b_M_nearest 90 = .ok (.sipush 6400, 3) := by decide +kernel
theorem d_M_nearest_93 : decode b_M_nearest 93 = .ok (.iaload, 1) := by decide +kernel
theorem d_M_nearest_94 : decode b_M_nearest 94 = .ok (.iconst 2, 1) := by decide +kernel
theorem d_M_nearest_95 : decode b_M_nearest 95 = .ok (.irem, 1) := by decide +kernel
theorem d_M_nearest_96 : decode b_M_nearest 96 = .ok (.iconst 1, 1) := by decide +kernel
theorem d_M_nearest_97 : decode b_M_nearest 97 = .ok (.if_icmp .ne 7, 3) := by decide +kernel
theorem d_M_nearest_100 : decode b_M_nearest 100 = .ok (.iconst 1, 1) := by decide +kernel
theorem d_M_nearest_101 : decode b_M_nearest 101 = .ok (.goto 4, 3) := by decide +kernel
theorem d_M_nearest_104 : decode b_M_nearest 104 = .ok (.iconst 0, 1) := by decide +kernel
theorem d_M_nearest_105 : decode b_M_nearest 105 = .ok (.istore 6, 2) := by decide +kernel
theorem d_M_nearest_107 : decode b_M_nearest 107 = .ok (.iload 5, 2) := by decide +kernel
theorem d_M_nearest_109 : decode b_M_nearest 109 = .ok (.ifCond .gt 13, 3) := by decide +kernel
theorem d_M_nearest_112 : decode b_M_nearest 112 = .ok (.iload 5, 2) := by decide +kernel
theorem d_M_nearest_114 : decode b_M_nearest 114 = .ok (.ifCond .ne 20, 3) := by decide +kernel
theorem d_M_nearest_117 : decode b_M_nearest 117 = .ok (.iload 6, 2) := by decide +kernel
theorem d_M_nearest_119 : decode b_M_nearest 119 = .ok (.ifCond .eq 15, 3) := by decide +kernel
theorem d_M_nearest_122 : decode b_M_nearest 122 = .ok (.aload_n 0, 1) := by decide +kernel
theorem d_M_nearest_123 : decode b_M_nearest 123 = .ok (.iconst 4, 1) := by decide +kernel
theorem d_M_nearest_124 : decode b_M_nearest 124 = .ok (.lconst 1, 1) := by decide +kernel
theorem d_M_nearest_125 : decode b_M_nearest 125 = .ok (.invokevirtual 76, 3) := by decide +kernel
theorem d_M_nearest_128 : decode b_M_nearest 128 = .ok (.aload_n 0, 1) := by decide +kernel
theorem d_M_nearest_129 : decode b_M_nearest 129 = .ok (.iconst 2, 1) := by decide +kernel
theorem d_M_nearest_130 : decode b_M_nearest 130 = .ok (.iconst 4, 1) := by decide +kernel
theorem d_M_nearest_131 : decode b_M_nearest 131 = .ok (.invokevirtual 92, 3) := by decide +kernel
theorem d_M_nearest_134 : decode b_M_nearest 134 = .ok (.aload_n 0, 1) := by decide +kernel
theorem d_M_nearest_135 : decode b_M_nearest 135 = .ok (.iload_n 1, 1) := by decide +kernel
theorem d_M_nearest_136 : decode b_M_nearest 136 = .ok (.iconst 2, 1) := by decide +kernel
theorem d_M_nearest_137 : decode b_M_nearest 137 = .ok (.iload 4, 2) := by decide +kernel
theorem d_M_nearest_139 : decode b_M_nearest 139 = .ok (.iconst 3, 1) := by decide +kernel
theorem d_M_nearest_140 : decode b_M_nearest 140 = .ok (.invokevirtual 80, 3) := by decide +kernel
theorem d_M_nearest_143 : decode b_M_nearest 143 = .ok (.ireturn, 1) := by decide +kernel
theorem d_M_gcd_0 : decode b_M_gcd 0 = .ok (.aload_n 0, 1) := by decide +kernel
theorem d_M_gcd_1 : decode b_M_gcd 1 = .ok (.iload_n 1, 1) := by decide +kernel
theorem d_M_gcd_2 : decode b_M_gcd 2 = .ok (.iload_n 2, 1) := by decide +kernel
theorem d_M_gcd_3 : decode b_M_gcd 3 = .ok (.iload_n 3, 1) := by decide +kernel
theorem d_M_gcd_4 : decode b_M_gcd 4 = .ok (.invokestatic 95, 3) := by decide +kernel
theorem d_M_gcd_7 : decode b_M_gcd 7 = .ok (.ifCond .eq 7, 3) := by decide +kernel
theorem d_M_gcd_10 : decode b_M_gcd 10 = .ok (.iconst 0, 1) := by decide +kernel
theorem d_M_gcd_11 : decode b_M_gcd 11 = .ok (.goto 4, 3) := by decide +kernel
theorem d_M_gcd_14 : decode b_M_gcd 14 = .ok (.iconst 1, 1) := by decide +kernel
theorem d_M_gcd_15 : decode b_M_gcd 15 = .ok (.invokevirtual 73, 3) := by decide +kernel
theorem d_M_gcd_18 : decode b_M_gcd 18 = .ok (.ifCond .eq 5, 3) := by decide +kernel
theorem d_M_gcd_21 : decode b_M_gcd 21 = .ok (.iconst 0, 1) := by decide +kernel
theorem d_M_gcd_22 : decode b_M_gcd 22 = .ok (.ireturn, 1) := by decide +kernel
theorem d_M_gcd_23 : decode b_M_gcd 23 = .ok (.aload_n 0, 1) := by decide +kernel
theorem d_M_gcd_24 : decode b_M_gcd 24 = .ok (.iconst 0, 1) := by decide +kernel
theorem d_M_gcd_25 : decode b_M_gcd 25 = .ok (.iload_n 2, 1) := by decide +kernel
theorem d_M_gcd_26 : decode b_M_gcd 26 = .ok (.invokevirtual 84, 3) := by decide +kernel
theorem d_M_gcd_29 : decode b_M_gcd 29 = .ok (.aload_n 0, 1) := by decide +kernel
theorem d_M_gcd_30 : decode b_M_gcd 30 = .ok (.iconst 1, 1) := by decide +kernel
theorem d_M_gcd_31 : decode b_M_gcd 31 = .ok (.iload_n 3, 1) := by decide +kernel
theorem d_M_gcd_32 : decode b_M_gcd 32 = .ok (.invokevirtual 84, 3) := by decide +kernel
theorem d_M_gcd_35 : decode b_M_gcd 35 = .ok (.aload_n 0, 1) := by decide +kernel
theorem d_M_gcd_36 : decode b_M_gcd 36 = .ok (.iconst 0, 1) := by decide +kernel
theorem d_M_gcd_37 : decode b_M_gcd 37 = .ok (.iconst 1, 1) := by decide +kernel
theorem d_M_gcd_38 : decode b_M_gcd 38 = .ok (.invokevirtual 115, 3) := by decide +kernel
theorem d_M_gcd_41 : decode b_M_gcd 41 = .ok (.aload_n 0, 1) := by decide +kernel
theorem d_M_gcd_42 : decode b_M_gcd 42 = .ok (.iload_n 1, 1) := by decide +kernel
theorem d_M_gcd_43 : decode b_M_gcd 43 = .ok (.iconst 5, 1) := by decide +kernel
theorem d_M_gcd_44 : decode b_M_gcd 44 = .ok (.iconst 1, 1) := by decide +kernel
theorem d_M_gcd_45 : decode b_M_gcd 45 = .ok (.iconst 2, 1) := by decide +kernel
theorem d_M_gcd_46 : decode b_M_gcd 46 = .ok (.invokevirtual 80, 3) := by decide +kernel
theorem d_M_gcd_49 : decode b_M_gcd 49 = .ok (.ireturn, 1) := by decide +kernel
theorem d_M_compare_0 : decode b_M_compare 0 = .ok (.aload_n 0, 1) := by decide +kernel
theorem d_M_compare_1 : decode b_M_compare 1 = .ok (.iload_n 1, 1) := by decide +kernel
theorem d_M_compare_2 : decode b_M_compare 2 = .ok (.iload_n 2, 1) := by decide +kernel
theorem d_M_compare_3 : decode b_M_compare 3 = .ok (.iload_n 2, 1) := by decide +kernel
theorem d_M_compare_4 : decode b_M_compare 4 = .ok (.invokestatic 95, 3) := by decide +kernel
theorem d_M_compare_7 : decode b_M_compare 7 = .ok (.ifCond .eq 7, 3) := by decide +kernel
theorem d_M_compare_10 : decode b_M_compare 10 = .ok (.iconst 0, 1) := by decide +kernel
theorem d_M_compare_11 : decode b_M_compare 11 = .ok (.goto 4, 3) := by decide +kernel
theorem d_M_compare_14 : decode b_M_compare 14 = .ok (.iconst 1, 1) := by decide +kernel
theorem d_M_compare_15 : decode b_M_compare 15 = .ok (.invokevirtual 73, 3) := by decide +kernel
theorem d_M_compare_18 : decode b_M_compare 18 = .ok (.ifCond .eq 5, 3) := by decide +kernel
theorem d_M_compare_21 : decode b_M_compare 21 = .ok (.iconst 0, 1) := by decide +kernel
theorem d_M_compare_22 : decode b_M_compare 22 = .ok (.ireturn, 1) := by decide +kernel
theorem d_M_compare_23 : decode b_M_compare 23 = .ok (.aload_n 0, 1) := by decide +kernel
theorem d_M_compare_24 : decode b_M_compare 24 = .ok (.iconst 0, 1) := by decide +kernel
theorem d_M_compare_25 : decode b_M_compare 25 = .ok (.iload_n 1, 1) := by decide +kernel
theorem d_M_compare_26 : decode b_M_compare 26 = .ok (.invokevirtual 84, 3) := by decide +kernel
theorem d_M_compare_29 : decode b_M_compare 29 = .ok (.aload_n 0, 1) := by decide +kernel
theorem d_M_compare_30 : decode b_M_compare 30 = .ok (.iconst 1, 1) := by decide +kernel
theorem d_M_compare_31 : decode b_M_compare 31 = .ok (.iload_n 2, 1) := by decide +kernel
theorem d_M_compare_32 : decode b_M_compare 32 = .ok (.invokevirtual 84, 3) := by decide +kernel
theorem d_M_compare_35 : decode b_M_compare 35 = .ok (.aload_n 0, 1) := by decide +kernel
theorem d_M_compare_36 : decode b_M_compare 36 = .ok (.aload_n 0, 1) := by decide +kernel
theorem d_M_compare_37 : decode b_M_compare 37 = .ok (.getfield 23, 3) := by decide +kernel
theorem d_M_compare_40 : decode b_M_compare 40 = .ok (.iload_n 1, 1) := by decide +kernel
theorem d_M_compare_41 : decode b_M_compare 41 = .ok (.iaload, 1) := by decide +kernel
theorem d_M_compare_42 : decode b_M_compare 42 = .ok (.aload_n 0, 1) := by decide +kernel
theorem d_M_compare_43 : decode b_M_compare 43 = .ok (.getfield 23, 3) := by decide +kernel
theorem d_M_compare_46 : decode b_M_compare 46 = .ok (.iload_n 2, 1) := by decide +kernel
theorem d_M_compare_47 : decode b_M_compare 47 = .ok (.iaload, 1) := by decide +kernel
theorem d_M_compare_48 : decode b_M_compare 48 = .ok (.ineg, 1) := by decide +kernel
theorem d_M_compare_49 : decode b_M_compare 49 = .ok (.invokevirtual 105, 3) := by decide +kernel
theorem d_M_compare_52 : decode b_M_compare 52 = .ok (.ireturn, 1) := by decide +kernel
theorem d_M_sign_0 : decode b_M_sign 0 = .ok (.aload_n 0, 1) := by decide +kernel
theorem d_M_sign_1 : decode b_M_sign 1 = .ok (.iload_n 1, 1) := by decide +kernel
theorem d_M_sign_2 : decode b_M_sign 2 = .ok (.invokestatic 36, 3) := by decide +kernel
theorem d_M_sign_5 : decode b_M_sign 5 = .ok (.ifCond .eq 7, 3) := by decide +kernel
theorem d_M_sign_8 : decode b_M_sign 8 = .ok (.iconst 0, 1) := by decide +kernel
theorem d_M_sign_9 : decode b_M_sign 9 = .ok (.goto 4, 3) := by decide +kernel
theorem d_M_sign_12 : decode b_M_sign 12 = .ok (.iconst 1, 1) := by decide +kernel
theorem d_M_sign_13 : decode b_M_sign 13 = .ok (.invokevirtual 73, 3) := by decide +kernel
theorem d_M_sign_16 : decode b_M_sign 16 = .ok (.ifCond .eq 7, 3) := by decide +kernel
theorem d_M_sign_19 : decode b_M_sign 19 = .ok (.iconst 0, 1) := by decide +kernel
theorem d_M_sign_20 : decode b_M_sign 20 = .ok (.goto 9, 3) := by decide +kernel
theorem d_M_sign_23 : decode b_M_sign 23 = .ok (.aload_n 0, 1) := by decide +kernel
theorem d_M_sign_24 : decode b_M_sign 24 = .ok (.getfield 23, 3) := by decide +kernel
theorem d_M_sign_27 : decode b_M_sign 27 = .ok (.iload_n 1, 1) := by decide +kernel
theorem d_M_sign_28 : decode b_M_sign 28 = .ok (.iaload, 1) := by decide +kernel
theorem d_M_sign_29 : decode b_M_sign 29 = .ok (.ireturn, 1) := by decide +kernel
theorem d_M_length_0 : decode b_M_length 0 = .ok (.aload_n 0, 1) := by decide +kernel
theorem d_M_length_1 : decode b_M_length 1 = .ok (.iload_n 1, 1) := by decide +kernel
theorem d_M_length_2 : decode b_M_length 2 = .ok (.invokestatic 36, 3) := by decide +kernel
theorem d_M_length_5 : decode b_M_length 5 = .ok (.ifCond .eq 7, 3) := by decide +kernel
theorem d_M_length_8 : decode b_M_length 8 = .ok (.iconst 0, 1) := by decide +kernel
theorem d_M_length_9 : decode b_M_length 9 = .ok (.goto 4, 3) := by decide +kernel
theorem d_M_length_12 : decode b_M_length 12 = .ok (.iconst 1, 1) := by decide +kernel
theorem d_M_length_13 : decode b_M_length 13 = .ok (.invokevirtual 73, 3) := by decide +kernel
theorem d_M_length_16 : decode b_M_length 16 = .ok (.ifCond .eq 5, 3) := by decide +kernel
theorem d_M_length_19 : decode b_M_length 19 = .ok (.iconst 0, 1) := by decide +kernel
theorem d_M_length_20 : decode b_M_length 20 = .ok (.ireturn, 1) := by decide +kernel
theorem d_M_length_21 : decode b_M_length 21 = .ok (.aload_n 0, 1) := by decide +kernel
theorem d_M_length_22 : decode b_M_length 22 = .ok (.iconst 0, 1) := by decide +kernel
theorem d_M_length_23 : decode b_M_length 23 = .ok (.iload_n 1, 1) := by decide +kernel
theorem d_M_length_24 : decode b_M_length 24 = .ok (.invokevirtual 84, 3) := by decide +kernel
theorem d_M_length_27 : decode b_M_length 27 = .ok (.aload_n 0, 1) := by decide +kernel
theorem d_M_length_28 : decode b_M_length 28 = .ok (.iconst 0, 1) := by decide +kernel
theorem d_M_length_29 : decode b_M_length 29 = .ok (.invokevirtual 70, 3) := by decide +kernel
theorem d_M_length_32 : decode b_M_length 32 = .ok (.ireturn, 1) := by decide +kernel
theorem d_M_limb_0 : decode b_M_limb 0 = .ok (.aload_n 0, 1) := by decide +kernel
theorem d_M_limb_1 : decode b_M_limb 1 = .ok (.iload_n 1, 1) := by decide +kernel
theorem d_M_limb_2 : decode b_M_limb 2 = .ok (.invokestatic 36, 3) := by decide +kernel
theorem d_M_limb_5 : decode b_M_limb 5 = .ok (.ifCond .eq 7, 3) := by decide +kernel
theorem d_M_limb_8 : decode b_M_limb 8 = .ok (.iload_n 2, 1) := by decide +kernel
theorem d_M_limb_9 : decode b_M_limb 9 = .ok (.ifCond .ge 7, 3) := by decide +kernel
theorem d_M_limb_12 : decode b_M_limb 12 = .ok (.iconst 1, 1) := by decide +kernel
theorem d_M_limb_13 : decode b_M_limb 13 = .ok (.goto 4, 3) := by decide +kernel
theorem d_M_limb_16 : decode b_M_limb 16 = .ok (.iconst 0, 1) := by decide +kernel
theorem d_M_limb_17 : decode b_M_limb 17 = .ok (.invokevirtual 73, 3) := by decide +kernel
theorem d_M_limb_20 : decode b_M_limb 20 = .ok (.ifCond .eq 5, 3) := by decide +kernel
theorem d_M_limb_23 : decode b_M_limb 23 = .ok (.iconst 0, 1) := by decide +kernel
theorem d_M_limb_24 : decode b_M_limb 24 = .ok (.ireturn, 1) := by decide +kernel
theorem d_M_limb_25 : decode b_M_limb 25 = .ok (.aload_n 0, 1) := by decide +kernel
theorem d_M_limb_26 : decode b_M_limb 26 = .ok (.iconst 0, 1) := by decide +kernel
theorem d_M_limb_27 : decode b_M_limb 27 = .ok (.iload_n 1, 1) := by decide +kernel
theorem d_M_limb_28 : decode b_M_limb 28 = .ok (.invokevirtual 84, 3) := by decide +kernel
theorem d_M_limb_31 : decode b_M_limb 31 = .ok (.aload_n 0, 1) := by decide +kernel
theorem d_M_limb_32 : decode b_M_limb 32 = .ok (.iconst 0, 1) := by decide +kernel
theorem d_M_limb_33 : decode b_M_limb 33 = .ok (.invokevirtual 66, 3) := by decide +kernel
theorem d_M_limb_36 : decode b_M_limb 36 = .ok (.istore_n 3, 1) := by decide +kernel
theorem d_M_limb_37 : decode b_M_limb 37 = .ok (.iload_n 2, 1) := by decide +kernel
theorem d_M_limb_38 : decode b_M_limb 38 = .ok (.iload_n 3, 1) := by decide +kernel
theorem d_M_limb_39 : decode b_M_limb 39 = .ok (.if_icmp .le 5, 3) := by decide +kernel
theorem d_M_limb_42 : decode b_M_limb 42 = .ok (.iconst 0, 1) := by decide +kernel
theorem d_M_limb_43 : decode b_M_limb 43 = .ok (.ireturn, 1) := by decide +kernel
theorem d_M_limb_44 : decode b_M_limb 44 = .ok (.iconst 2, 1) := by decide +kernel
theorem d_M_limb_45 : decode b_M_limb 45 = .ok (.iload_n 2, 1) := by decide +kernel
theorem d_M_limb_46 : decode b_M_limb 46 = .ok (.imul, 1) := by decide +kernel
theorem d_M_limb_47 : decode b_M_limb 47 = .ok (.iload_n 3, 1) := by decide +kernel
theorem d_M_limb_48 : decode b_M_limb 48 = .ok (.if_icmp .ge 14, 3) := by decide +kernel
theorem d_M_limb_51 : decode b_M_limb 51 = .ok (.aload_n 0, 1) := by decide +kernel
theorem d_M_limb_52 : decode b_M_limb 52 = .ok (.getfield 26, 3) := by decide +kernel
theorem d_M_limb_55 : decode b_M_limb 55 = .ok (.iconst 2, 1) := by decide +kernel
theorem d_M_limb_56 : decode b_M_limb 56 = .ok (.iload_n 2, 1) := by decide +kernel
theorem d_M_limb_57 : decode b_M_limb 57 = .ok (.imul, 1) := by decide +kernel
theorem d_M_limb_58 : decode b_M_limb 58 = .ok (.iaload, 1) := by decide +kernel
theorem d_M_limb_59 : decode b_M_limb 59 = .ok (.goto 4, 3) := by decide +kernel
theorem d_M_limb_62 : decode b_M_limb 62 = .ok (.iconst 0, 1) := by decide +kernel
theorem d_M_limb_63 : decode b_M_limb 63 = .ok (.istore 4, 2) := by decide +kernel
theorem d_M_limb_65 : decode b_M_limb 65 = .ok (.iconst 2, 1) := by decide +kernel
theorem d_M_limb_66 : decode b_M_limb 66 = .ok (.iload_n 2, 1) := by decide +kernel
theorem d_M_limb_67 : decode b_M_limb 67 = .ok (.imul, 1) := by decide +kernel
theorem d_M_limb_68 : decode b_M_limb 68 = .ok (.iconst 1, 1) := by decide +kernel
theorem d_M_limb_69 : decode b_M_limb 69 = .ok (.iadd, 1) := by decide +kernel
theorem d_M_limb_70 : decode b_M_limb 70 = .ok (.iload_n 3, 1) := by decide +kernel
theorem d_M_limb_71 : decode b_M_limb 71 = .ok (.if_icmp .ge 16, 3) := by decide +kernel
theorem d_M_limb_74 : decode b_M_limb 74 = .ok (.aload_n 0, 1) := by decide +kernel
theorem d_M_limb_75 : decode b_M_limb 75 = .ok (.getfield 26, 3) := by decide +kernel
theorem d_M_limb_78 : decode b_M_limb 78 = .ok (.iconst 2, 1) := by decide +kernel
theorem d_M_limb_79 : decode b_M_limb 79 = .ok (.iload_n 2, 1) := by decide +kernel
theorem d_M_limb_80 : decode b_M_limb 80 = .ok (.imul, 1) := by decide +kernel
theorem d_M_limb_81 : decode b_M_limb 81 = .ok (.iconst 1, 1) := by decide +kernel
theorem d_M_limb_82 : decode b_M_limb 82 = .ok (.iadd, 1) := by decide +kernel
theorem d_M_limb_83 : decode b_M_limb 83 = .ok (.iaload, 1) := by decide +kernel
theorem d_M_limb_84 : decode b_M_limb 84 = .ok (.goto 4, 3) := by decide +kernel
theorem d_M_limb_87 : decode b_M_limb 87 = .ok (.iconst 0, 1) := by decide +kernel
theorem d_M_limb_88 : decode b_M_limb 88 = .ok (.istore 5, 2) := by decide +kernel
theorem d_M_limb_90 : decode b_M_limb 90 = .ok (.iload 5, 2) := by decide +kernel
theorem d_M_limb_92 : decode b_M_limb 92 = .ok (.bipush 16, 2) := by decide +kernel
theorem d_M_limb_94 : decode b_M_limb 94 = .ok (.ishl, 1) := by decide +kernel
theorem d_M_limb_95 : decode b_M_limb 95 = .ok (.iload 4, 2) := by decide +kernel
theorem d_M_limb_97 : decode b_M_limb 97 = .ok (.ior, 1) := by decide +kernel
theorem d_M_limb_98 : decode b_M_limb 98 = .ok (.ireturn, 1) := by decide +kernel
theorem d_M_rest_0 : decode b_M_rest 0 = .ok (.aload_n 0, 1) := by decide +kernel
theorem d_M_rest_1 : decode b_M_rest 1 = .ok (.iload_n 1, 1) := by decide +kernel
theorem d_M_rest_2 : decode b_M_rest 2 = .ok (.invokestatic 36, 3) := by decide +kernel
theorem d_M_rest_5 : decode b_M_rest 5 = .ok (.ifCond .ne 7, 3) := by decide +kernel
theorem d_M_rest_8 : decode b_M_rest 8 = .ok (.iconst 1, 1) := by decide +kernel
theorem d_M_rest_9 : decode b_M_rest 9 = .ok (.goto 13, 3) := by decide +kernel
theorem d_M_rest_12 : decode b_M_rest 12 = .ok (.iload_n 2, 1) := by decide +kernel
theorem d_M_rest_13 : decode b_M_rest 13 = .ok (.iconst 1, 1) := by decide +kernel
theorem d_M_rest_14 : decode b_M_rest 14 = .ok (.if_icmp .ge 7, 3) := by decide +kernel
theorem d_M_rest_17 : decode b_M_rest 17 = .ok (.iconst 2, 1) := by decide +kernel
theorem d_M_rest_18 : decode b_M_rest 18 = .ok (.goto 4, 3) := by decide +kernel
theorem d_M_rest_21 : decode b_M_rest 21 = .ok (.iconst 0, 1) := by decide +kernel
theorem d_M_rest_22 : decode b_M_rest 22 = .ok (.invokevirtual 73, 3) := by decide +kernel
theorem d_M_rest_25 : decode b_M_rest 25 = .ok (.ifCond .eq 5, 3) := by decide +kernel
theorem d_M_rest_28 : decode b_M_rest 28 = .ok (.iconst 0, 1) := by decide +kernel
theorem d_M_rest_29 : decode b_M_rest 29 = .ok (.ireturn, 1) := by decide +kernel
theorem d_M_rest_30 : decode b_M_rest 30 = .ok (.lconst 0, 1) := by decide +kernel
theorem d_M_rest_31 : decode b_M_rest 31 = .ok (.lstore_n 3, 1) := by decide +kernel
theorem d_M_rest_32 : decode b_M_rest 32 = .ok (.aload_n 0, 1) := by decide +kernel
theorem d_M_rest_33 : decode b_M_rest 33 = .ok (.getfield 20, 3) := by decide +kernel
theorem d_M_rest_36 : decode b_M_rest 36 = .ok (.iload_n 1, 1) := by decide +kernel
theorem d_M_rest_37 : decode b_M_rest 37 = .ok (.iaload, 1) := by decide +kernel
theorem d_M_rest_38 : decode b_M_rest 38 = .ok (.iconst 1, 1) := by decide +kernel
theorem d_M_rest_39 : decode b_M_rest 39 = .ok (.isub, 1) := by decide +kernel
theorem d_M_rest_40 : decode b_M_rest 40 = .ok (.istore 5, 2) := by decide +kernel
theorem d_M_rest_42 : decode b_M_rest 42 = .ok (.iload 5, 2) := by decide +kernel
theorem d_M_rest_44 : decode b_M_rest 44 = .ok (.ifCond .lt 33, 3) := by decide +kernel
theorem d_M_rest_47 : decode b_M_rest 47 = .ok (.lload_n 3, 1) := by decide +kernel
theorem d_M_rest_48 : decode b_M_rest 48 = .ok (.ldc2_w 40, 3) := by decide +kernel
theorem d_M_rest_51 : decode b_M_rest 51 = .ok (.lmul, 1) := by decide +kernel
theorem d_M_rest_52 : decode b_M_rest 52 = .ok (.aload_n 0, 1) := by decide +kernel
theorem d_M_rest_53 : decode b_M_rest 53 = .ok (.getfield 17, 3) := by decide +kernel
theorem d_M_rest_56 : decode b_M_rest 56 = .ok (.sipush 1520, 3) := by decide +kernel
theorem d_M_rest_59 : decode b_M_rest 59 = .ok (.iload_n 1, 1) := by decide +kernel
theorem d_M_rest_60 : decode b_M_rest 60 = .ok (.imul, 1) := by decide +kernel
theorem d_M_rest_61 : decode b_M_rest 61 = .ok (.iload 5, 2) := by decide +kernel
theorem d_M_rest_63 : decode b_M_rest 63 = .ok (.iadd, 1) := by decide +kernel
theorem d_M_rest_64 : decode b_M_rest 64 = .ok (.iaload, 1) := by decide +kernel
theorem d_M_rest_65 : decode b_M_rest 65 = .ok (.i2l, 1) := by decide +kernel
theorem d_M_rest_66 : decode b_M_rest 66 = .ok (.ladd, 1) := by decide +kernel
theorem d_M_rest_67 : decode b_M_rest 67 = .ok (.iload_n 2, 1) := by decide +kernel
theorem d_M_rest_68 : decode b_M_rest 68 = .ok (.i2l, 1) := by decide +kernel
theorem d_M_rest_69 : decode b_M_rest 69 = .ok (.lrem, 1) := by decide +kernel
theorem d_M_rest_70 : decode b_M_rest 70 = .ok (.lstore_n 3, 1) := by decide +kernel
theorem d_M_rest_71 : decode b_M_rest 71 = .ok (.iinc 5 (-1), 3) := by decide +kernel
theorem d_M_rest_74 : decode b_M_rest 74 = .ok (.goto (-32), 3) := by decide +kernel
theorem d_M_rest_77 : decode b_M_rest 77 = .ok (.aload_n 0, 1) := by decide +kernel
theorem d_M_rest_78 : decode b_M_rest 78 = .ok (.getfield 23, 3) := by decide +kernel
theorem d_M_rest_81 : decode b_M_rest 81 = .ok (.iload_n 1, 1) := by decide +kernel
theorem d_M_rest_82 : decode b_M_rest 82 = .ok (.iaload, 1) := by decide +kernel
theorem d_M_rest_83 : decode b_M_rest 83 = .ok (.ifCond .ge 16, 3) := by decide +kernel
theorem d_M_rest_86 : decode b_M_rest 86 = .ok (.lload_n 3, 1) := by decide +kernel
theorem d_M_rest_87 : decode b_M_rest 87 = .ok (.lconst 0, 1) := by decide +kernel
theorem d_M_rest_88 : decode b_M_rest 88 = .ok (.lcmp, 1) := by decide +kernel
theorem d_M_rest_89 : decode b_M_rest 89 = .ok (.ifCond .le 10, 3) := by decide +kernel
theorem d_M_rest_92 : decode b_M_rest 92 = .ok (.iload_n 2, 1) := by decide +kernel
theorem d_M_rest_93 : decode b_M_rest 93 = .ok (.i2l, 1) := by decide +kernel
theorem d_M_rest_94 : decode b_M_rest 94 = .ok (.lload_n 3, 1) := by decide +kernel
theorem d_M_rest_95 : decode b_M_rest 95 = .ok (.lsub, 1) := by decide +kernel
theorem d_M_rest_96 : decode b_M_rest 96 = .ok (.goto 4, 3) := by decide +kernel
theorem d_M_rest_99 : decode b_M_rest 99 = .ok (.lload_n 3, 1) := by decide +kernel
theorem d_M_rest_100 : decode b_M_rest 100 = .ok (.l2i, 1) := by decide +kernel
theorem d_M_rest_101 : decode b_M_rest 101 = .ok (.ireturn, 1) := by decide +kernel
theorem d_M_print_0 : decode b_M_print 0 = .ok (.aload_n 0, 1) := by decide +kernel
theorem d_M_print_1 : decode b_M_print 1 = .ok (.iload_n 1, 1) := by decide +kernel
theorem d_M_print_2 : decode b_M_print 2 = .ok (.invokestatic 36, 3) := by decide +kernel
theorem d_M_print_5 : decode b_M_print 5 = .ok (.ifCond .eq 7, 3) := by decide +kernel
theorem d_M_print_8 : decode b_M_print 8 = .ok (.iconst 0, 1) := by decide +kernel
theorem d_M_print_9 : decode b_M_print 9 = .ok (.goto 4, 3) := by decide +kernel
theorem d_M_print_12 : decode b_M_print 12 = .ok (.iconst 1, 1) := by decide +kernel
theorem d_M_print_13 : decode b_M_print 13 = .ok (.invokevirtual 73, 3) := by decide +kernel
theorem d_M_print_16 : decode b_M_print 16 = .ok (.ifCond .eq 5, 3) := by decide +kernel
theorem d_M_print_19 : decode b_M_print 19 = .ok (.iconst 0, 1) := by decide +kernel
theorem d_M_print_20 : decode b_M_print 20 = .ok (.ireturn, 1) := by decide +kernel
theorem d_M_print_21 : decode b_M_print 21 = .ok (.aload_n 0, 1) := by decide +kernel
theorem d_M_print_22 : decode b_M_print 22 = .ok (.iconst 0, 1) := by decide +kernel
theorem d_M_print_23 : decode b_M_print 23 = .ok (.putfield 118, 3) := by decide +kernel
theorem d_M_print_26 : decode b_M_print 26 = .ok (.aload_n 0, 1) := by decide +kernel
theorem d_M_print_27 : decode b_M_print 27 = .ok (.getfield 23, 3) := by decide +kernel
theorem d_M_print_30 : decode b_M_print 30 = .ok (.iload_n 1, 1) := by decide +kernel
theorem d_M_print_31 : decode b_M_print 31 = .ok (.iaload, 1) := by decide +kernel
theorem d_M_print_32 : decode b_M_print 32 = .ok (.ifCond .ge 16, 3) := by decide +kernel
theorem d_M_print_35 : decode b_M_print 35 = .ok (.aload_n 0, 1) := by decide +kernel
theorem d_M_print_36 : decode b_M_print 36 = .ok (.getfield 29, 3) := by decide +kernel
theorem d_M_print_39 : decode b_M_print 39 = .ok (.iconst 0, 1) := by decide +kernel
theorem d_M_print_40 : decode b_M_print 40 = .ok (.bipush 45, 2) := by decide +kernel
theorem d_M_print_42 : decode b_M_print 42 = .ok (.iastore, 1) := by decide +kernel
theorem d_M_print_43 : decode b_M_print 43 = .ok (.aload_n 0, 1) := by decide +kernel
theorem d_M_print_44 : decode b_M_print 44 = .ok (.iconst 1, 1) := by decide +kernel
theorem d_M_print_45 : decode b_M_print 45 = .ok (.putfield 118, 3) := by decide +kernel
theorem d_M_print_48 : decode b_M_print 48 = .ok (.aload_n 0, 1) := by decide +kernel
theorem d_M_print_49 : decode b_M_print 49 = .ok (.getfield 20, 3) := by decide +kernel
theorem d_M_print_52 : decode b_M_print 52 = .ok (.iload_n 1, 1) := by decide +kernel
theorem d_M_print_53 : decode b_M_print 53 = .ok (.iaload, 1) := by decide +kernel
theorem d_M_print_54 : decode b_M_print 54 = .ok (.ifCond .ne 16, 3) := by decide +kernel
theorem d_M_print_57 : decode b_M_print 57 = .ok (.aload_n 0, 1) := by decide +kernel
theorem d_M_print_58 : decode b_M_print 58 = .ok (.getfield 29, 3) := by decide +kernel
theorem d_M_print_61 : decode b_M_print 61 = .ok (.iconst 0, 1) := by decide +kernel
theorem d_M_print_62 : decode b_M_print 62 = .ok (.bipush 48, 2) := by decide +kernel
theorem d_M_print_64 : decode b_M_print 64 = .ok (.iastore, 1) := by decide +kernel
theorem d_M_print_65 : decode b_M_print 65 = .ok (.aload_n 0, 1) := by decide +kernel
theorem d_M_print_66 : decode b_M_print 66 = .ok (.iconst 1, 1) := by decide +kernel
theorem d_M_print_67 : decode b_M_print 67 = .ok (.putfield 118, 3) := by decide +kernel
theorem d_M_print_70 : decode b_M_print 70 = .ok (.aload_n 0, 1) := by decide +kernel
theorem d_M_print_71 : decode b_M_print 71 = .ok (.getfield 20, 3) := by decide +kernel
theorem d_M_print_74 : decode b_M_print 74 = .ok (.iload_n 1, 1) := by decide +kernel
theorem d_M_print_75 : decode b_M_print 75 = .ok (.iaload, 1) := by decide +kernel
theorem d_M_print_76 : decode b_M_print 76 = .ok (.iconst 1, 1) := by decide +kernel
theorem d_M_print_77 : decode b_M_print 77 = .ok (.isub, 1) := by decide +kernel
theorem d_M_print_78 : decode b_M_print 78 = .ok (.istore_n 2, 1) := by decide +kernel
theorem d_M_print_79 : decode b_M_print 79 = .ok (.iload_n 2, 1) := by decide +kernel
theorem d_M_print_80 : decode b_M_print 80 = .ok (.ifCond .lt 89, 3) := by decide +kernel
theorem d_M_print_83 : decode b_M_print 83 = .ok (.aload_n 0, 1) := by decide +kernel
theorem d_M_print_84 : decode b_M_print 84 = .ok (.getfield 17, 3) := by decide +kernel
theorem d_M_print_87 : decode b_M_print 87 = .ok (.sipush 1520, 3) := by decide +kernel
theorem d_M_print_90 : decode b_M_print 90 = .ok (.iload_n 1, 1) := by decide +kernel
theorem d_M_print_91 : decode b_M_print 91 = .ok (.imul, 1) := by decide +kernel
theorem d_M_print_92 : decode b_M_print 92 = .ok (.iload_n 2, 1) := by decide +kernel
theorem d_M_print_93 : decode b_M_print 93 = .ok (.iadd, 1) := by decide +kernel
theorem d_M_print_94 : decode b_M_print 94 = .ok (.iaload, 1) := by decide +kernel
theorem d_M_print_95 : decode b_M_print 95 = .ok (.istore_n 3, 1) := by decide +kernel
theorem d_M_print_96 : decode b_M_print 96 = .ok (.sipush 1000, 3) := by decide +kernel
theorem d_M_print_99 : decode b_M_print 99 = .ok (.istore 4, 2) := by decide +kernel
theorem d_M_print_101 : decode b_M_print 101 = .ok (.iload 4, 2) := by decide +kernel
theorem d_M_print_103 : decode b_M_print 103 = .ok (.ifCond .le 60, 3) := by decide +kernel
theorem d_M_print_106 : decode b_M_print 106 = .ok (.iload_n 2, 1) := by decide +kernel
theorem d_M_print_107 : decode b_M_print 107 = .ok (.aload_n 0, 1) := by decide +kernel
theorem d_M_print_108 : decode b_M_print 108 = .ok (.getfield 20, 3) := by decide +kernel
theorem d_M_print_111 : decode b_M_print 111 = .ok (.iload_n 1, 1) := by decide +kernel
theorem d_M_print_112 : decode b_M_print 112 = .ok (.iaload, 1) := by decide +kernel
theorem d_M_print_113 : decode b_M_print 113 = .ok (.iconst 1, 1) := by decide +kernel
theorem d_M_print_114 : decode b_M_print 114 = .ok (.isub, 1) := by decide +kernel
theorem d_M_print_115 : decode b_M_print 115 = .ok (.if_icmp .lt 9, 3) := by decide +kernel
theorem d_M_print_118 : decode b_M_print 118 = .ok (.iload_n 3, 1) := by decide +kernel
theorem d_M_print_119 : decode b_M_print 119 = .ok (.iload 4, 2) := by decide +kernel
theorem d_M_print_121 : decode b_M_print 121 = .ok (.if_icmp .lt 32, 3) := by decide +kernel
theorem d_M_print_124 : decode b_M_print 124 = .ok (.aload_n 0, 1) := by decide +kernel
theorem d_M_print_125 : decode b_M_print 125 = .ok (.getfield 29, 3) := by decide +kernel
theorem d_M_print_128 : decode b_M_print 128 = .ok (.aload_n 0, 1) := by decide +kernel
theorem d_M_print_129 : decode b_M_print 129 = .ok (.getfield 118, 3) := by decide +kernel
theorem d_M_print_132 : decode b_M_print 132 = .ok (.bipush 48, 2) := by decide +kernel
theorem d_M_print_134 : decode b_M_print 134 = .ok (.iload_n 3, 1) := by decide +kernel
theorem d_M_print_135 : decode b_M_print 135 = .ok (.iload 4, 2) := by decide +kernel
theorem d_M_print_137 : decode b_M_print 137 = .ok (.idiv, 1) := by decide +kernel
theorem d_M_print_138 : decode b_M_print 138 = .ok (.bipush 10, 2) := by decide +kernel
theorem d_M_print_140 : decode b_M_print 140 = .ok (.irem, 1) := by decide +kernel
theorem d_M_print_141 : decode b_M_print 141 = .ok (.iadd, 1) := by decide +kernel
theorem d_M_print_142 : decode b_M_print 142 = .ok (.iastore, 1) := by decide +kernel
theorem d_M_print_143 : decode b_M_print 143 = .ok (.aload_n 0, 1) := by decide +kernel
theorem d_M_print_144 : decode b_M_print 144 = .ok (.dup, 1) := by decide +kernel
theorem d_M_print_145 : decode b_M_print 145 = .ok (.getfield 118, 3) := by decide +kernel
theorem d_M_print_148 : decode b_M_print 148 = .ok (.iconst 1, 1) := by decide +kernel
theorem d_M_print_149 : decode b_M_print 149 = .ok (.iadd, 1) := by decide +kernel
theorem d_M_print_150 : decode b_M_print 150 = .ok (.putfield 118, 3) := by decide +kernel
end
section
theorem d_M_print_153 : decode b_M_print 153 = .ok (.iload 4, 2) := by decide +kernel
theorem d_M_print_155 : decode b_M_print 155 = .ok (.bipush 10, 2) := by decide +kernel
theorem d_M_print_157 : decode b_M_print 157 = .ok (.idiv, 1) := by decide +kernel
theorem d_M_print_158 : decode b_M_print 158 = .ok (.istore 4, 2) := by decide +kernel
theorem d_M_print_160 : decode b_M_print 160 = .ok (.goto (-59), 3) := by decide +kernel
theorem d_M_print_163 : decode b_M_print 163 = .ok (.iinc 2 (-1), 3) := by decide +kernel
theorem d_M_print_166 : decode b_M_print 166 = .ok (.goto (-87), 3) := by decide +kernel
theorem d_M_print_169 : decode b_M_print 169 = .ok (.aload_n 0, 1) := by decide +kernel
theorem d_M_print_170 : decode b_M_print 170 = .ok (.getfield 118, 3) := by decide +kernel
theorem d_M_print_173 : decode b_M_print 173 = .ok (.ireturn, 1) := by decide +kernel
theorem d_M_character_0 : decode b_M_character 0 = .ok (.aload_n 0, 1) := by decide +kernel
theorem d_M_character_1 : decode b_M_character 1 = .ok (.iconst 0, 1) := by decide +kernel
theorem d_M_character_2 : decode b_M_character 2 = .ok (.putfield 32, 3) := by decide +kernel
theorem d_M_character_5 : decode b_M_character 5 = .ok (.iload_n 1, 1) := by decide +kernel
theorem d_M_character_6 : decode b_M_character 6 = .ok (.ifCond .lt 20, 3) := by decide +kernel
theorem d_M_character_9 : decode b_M_character 9 = .ok (.iload_n 1, 1) := by decide +kernel
theorem d_M_character_10 : decode b_M_character 10 = .ok (.aload_n 0, 1) := by decide +kernel
theorem d_M_character_11 : decode b_M_character 11 = .ok (.getfield 118, 3) := by decide +kernel
theorem d_M_character_14 : decode b_M_character 14 = .ok (.if_icmp .ge 12, 3) := by decide +kernel
theorem d_M_character_17 : decode b_M_character 17 = .ok (.aload_n 0, 1) := by decide +kernel
theorem d_M_character_18 : decode b_M_character 18 = .ok (.getfield 29, 3) := by decide +kernel
theorem d_M_character_21 : decode b_M_character 21 = .ok (.iload_n 1, 1) := by decide +kernel
theorem d_M_character_22 : decode b_M_character 22 = .ok (.iaload, 1) := by decide +kernel
theorem d_M_character_23 : decode b_M_character 23 = .ok (.goto 4, 3) := by decide +kernel
theorem d_M_character_26 : decode b_M_character 26 = .ok (.iconst (-1), 1) := by decide +kernel
theorem d_M_character_27 : decode b_M_character 27 = .ok (.ireturn, 1) := by decide +kernel
end
section
theorem d_L_set_0 : decode b_L_set 0 = .ok (.aload 4, 2) := by decide +kernel
theorem d_L_set_2 : decode b_L_set 2 = .ok (.iconst 0, 1) := by decide +kernel
theorem d_L_set_3 : decode b_L_set 3 = .ok (.aload_n 0, 1) := by decide +kernel
theorem d_L_set_4 : decode b_L_set 4 = .ok (.iload_n 1, 1) := by decide +kernel
theorem d_L_set_5 : decode b_L_set 5 = .ok (.lload_n 2, 1) := by decide +kernel
theorem d_L_set_6 : decode b_L_set 6 = .ok (.invokevirtual 7, 3) := by decide +kernel
theorem d_L_set_9 : decode b_L_set 9 = .ok (.i2l, 1) := by decide +kernel
theorem d_L_set_10 : decode b_L_set 10 = .ok (.lastore, 1) := by decide +kernel
theorem d_L_set_11 : decode b_L_set 11 = .ok (.goto 7, 3) := by decide +kernel
theorem d_L_set_14 : decode b_L_set 14 = .ok (.astore 5, 2) := by decide +kernel
theorem d_L_set_16 : decode b_L_set 16 = .ok (.iconst 1, 1) := by decide +kernel
theorem d_L_set_17 : decode b_L_set 17 = .ok (.ireturn, 1) := by decide +kernel
theorem d_L_set_18 : decode b_L_set 18 = .ok (.iconst 0, 1) := by decide +kernel
theorem d_L_set_19 : decode b_L_set 19 = .ok (.ireturn, 1) := by decide +kernel
theorem d_L_push_0 : decode b_L_push 0 = .ok (.aload_n 3, 1) := by decide +kernel
theorem d_L_push_1 : decode b_L_push 1 = .ok (.iconst 0, 1) := by decide +kernel
theorem d_L_push_2 : decode b_L_push 2 = .ok (.aload_n 0, 1) := by decide +kernel
theorem d_L_push_3 : decode b_L_push 3 = .ok (.iload_n 1, 1) := by decide +kernel
theorem d_L_push_4 : decode b_L_push 4 = .ok (.iload_n 2, 1) := by decide +kernel
theorem d_L_push_5 : decode b_L_push 5 = .ok (.invokevirtual 15, 3) := by decide +kernel
theorem d_L_push_8 : decode b_L_push 8 = .ok (.i2l, 1) := by decide +kernel
theorem d_L_push_9 : decode b_L_push 9 = .ok (.lastore, 1) := by decide +kernel
theorem d_L_push_10 : decode b_L_push 10 = .ok (.goto 11, 3) := by decide +kernel
theorem d_L_push_13 : decode b_L_push 13 = .ok (.astore 4, 2) := by decide +kernel
theorem d_L_push_15 : decode b_L_push 15 = .ok (.iconst 1, 1) := by decide +kernel
theorem d_L_push_16 : decode b_L_push 16 = .ok (.ireturn, 1) := by decide +kernel
theorem d_L_push_17 : decode b_L_push 17 = .ok (.astore 4, 2) := by decide +kernel
theorem d_L_push_19 : decode b_L_push 19 = .ok (.iconst 2, 1) := by decide +kernel
theorem d_L_push_20 : decode b_L_push 20 = .ok (.ireturn, 1) := by decide +kernel
theorem d_L_push_21 : decode b_L_push 21 = .ok (.iconst 0, 1) := by decide +kernel
theorem d_L_push_22 : decode b_L_push 22 = .ok (.ireturn, 1) := by decide +kernel
theorem d_L_copy_0 : decode b_L_copy 0 = .ok (.aload_n 3, 1) := by decide +kernel
theorem d_L_copy_1 : decode b_L_copy 1 = .ok (.iconst 0, 1) := by decide +kernel
theorem d_L_copy_2 : decode b_L_copy 2 = .ok (.aload_n 0, 1) := by decide +kernel
theorem d_L_copy_3 : decode b_L_copy 3 = .ok (.iload_n 1, 1) := by decide +kernel
theorem d_L_copy_4 : decode b_L_copy 4 = .ok (.iload_n 2, 1) := by decide +kernel
theorem d_L_copy_5 : decode b_L_copy 5 = .ok (.invokevirtual 21, 3) := by decide +kernel
theorem d_L_copy_8 : decode b_L_copy 8 = .ok (.i2l, 1) := by decide +kernel
theorem d_L_copy_9 : decode b_L_copy 9 = .ok (.lastore, 1) := by decide +kernel
theorem d_L_copy_10 : decode b_L_copy 10 = .ok (.goto 7, 3) := by decide +kernel
theorem d_L_copy_13 : decode b_L_copy 13 = .ok (.astore 4, 2) := by decide +kernel
theorem d_L_copy_15 : decode b_L_copy 15 = .ok (.iconst 1, 1) := by decide +kernel
theorem d_L_copy_16 : decode b_L_copy 16 = .ok (.ireturn, 1) := by decide +kernel
theorem d_L_copy_17 : decode b_L_copy 17 = .ok (.iconst 0, 1) := by decide +kernel
theorem d_L_copy_18 : decode b_L_copy 18 = .ok (.ireturn, 1) := by decide +kernel
theorem d_L_swap_0 : decode b_L_swap 0 = .ok (.aload_n 3, 1) := by decide +kernel
theorem d_L_swap_1 : decode b_L_swap 1 = .ok (.iconst 0, 1) := by decide +kernel
theorem d_L_swap_2 : decode b_L_swap 2 = .ok (.aload_n 0, 1) := by decide +kernel
theorem d_L_swap_3 : decode b_L_swap 3 = .ok (.iload_n 1, 1) := by decide +kernel
theorem d_L_swap_4 : decode b_L_swap 4 = .ok (.iload_n 2, 1) := by decide +kernel
theorem d_L_swap_5 : decode b_L_swap 5 = .ok (.invokevirtual 24, 3) := by decide +kernel
theorem d_L_swap_8 : decode b_L_swap 8 = .ok (.i2l, 1) := by decide +kernel
theorem d_L_swap_9 : decode b_L_swap 9 = .ok (.lastore, 1) := by decide +kernel
theorem d_L_swap_10 : decode b_L_swap 10 = .ok (.goto 7, 3) := by decide +kernel
theorem d_L_swap_13 : decode b_L_swap 13 = .ok (.astore 4, 2) := by decide +kernel
theorem d_L_swap_15 : decode b_L_swap 15 = .ok (.iconst 1, 1) := by decide +kernel
theorem d_L_swap_16 : decode b_L_swap 16 = .ok (.ireturn, 1) := by decide +kernel
theorem d_L_swap_17 : decode b_L_swap 17 = .ok (.iconst 0, 1) := by decide +kernel
theorem d_L_swap_18 : decode b_L_swap 18 = .ok (.ireturn, 1) := by decide +kernel
theorem d_L_negate_0 : decode b_L_negate 0 = .ok (.aload_n 2, 1) := by decide +kernel
theorem d_L_negate_1 : decode b_L_negate 1 = .ok (.iconst 0, 1) := by decide +kernel
theorem d_L_negate_2 : decode b_L_negate 2 = .ok (.aload_n 0, 1) := by decide +kernel
theorem d_L_negate_3 : decode b_L_negate 3 = .ok (.iload_n 1, 1) := by decide +kernel
theorem d_L_negate_4 : decode b_L_negate 4 = .ok (.invokevirtual 27, 3) := by decide +kernel
theorem d_L_negate_7 : decode b_L_negate 7 = .ok (.i2l, 1) := by decide +kernel
theorem d_L_negate_8 : decode b_L_negate 8 = .ok (.lastore, 1) := by decide +kernel
theorem d_L_negate_9 : decode b_L_negate 9 = .ok (.goto 6, 3) := by decide +kernel
theorem d_L_negate_12 : decode b_L_negate 12 = .ok (.astore_n 3, 1) := by decide +kernel
theorem d_L_negate_13 : decode b_L_negate 13 = .ok (.iconst 1, 1) := by decide +kernel
theorem d_L_negate_14 : decode b_L_negate 14 = .ok (.ireturn, 1) := by decide +kernel
theorem d_L_negate_15 : decode b_L_negate 15 = .ok (.iconst 0, 1) := by decide +kernel
theorem d_L_negate_16 : decode b_L_negate 16 = .ok (.ireturn, 1) := by decide +kernel
theorem d_L_add_0 : decode b_L_add 0 = .ok (.aload 4, 2) := by decide +kernel
theorem d_L_add_2 : decode b_L_add 2 = .ok (.iconst 0, 1) := by decide +kernel
theorem d_L_add_3 : decode b_L_add 3 = .ok (.aload_n 0, 1) := by decide +kernel
theorem d_L_add_4 : decode b_L_add 4 = .ok (.iload_n 1, 1) := by decide +kernel
theorem d_L_add_5 : decode b_L_add 5 = .ok (.iload_n 2, 1) := by decide +kernel
theorem d_L_add_6 : decode b_L_add 6 = .ok (.iload_n 3, 1) := by decide +kernel
theorem d_L_add_7 : decode b_L_add 7 = .ok (.invokevirtual 31, 3) := by decide +kernel
theorem d_L_add_10 : decode b_L_add 10 = .ok (.i2l, 1) := by decide +kernel
theorem d_L_add_11 : decode b_L_add 11 = .ok (.lastore, 1) := by decide +kernel
theorem d_L_add_12 : decode b_L_add 12 = .ok (.goto 11, 3) := by decide +kernel
theorem d_L_add_15 : decode b_L_add 15 = .ok (.astore 5, 2) := by decide +kernel
theorem d_L_add_17 : decode b_L_add 17 = .ok (.iconst 1, 1) := by decide +kernel
theorem d_L_add_18 : decode b_L_add 18 = .ok (.ireturn, 1) := by decide +kernel
theorem d_L_add_19 : decode b_L_add 19 = .ok (.astore 5, 2) := by decide +kernel
theorem d_L_add_21 : decode b_L_add 21 = .ok (.iconst 2, 1) := by decide +kernel
theorem d_L_add_22 : decode b_L_add 22 = .ok (.ireturn, 1) := by decide +kernel
theorem d_L_add_23 : decode b_L_add 23 = .ok (.iconst 0, 1) := by decide +kernel
theorem d_L_add_24 : decode b_L_add 24 = .ok (.ireturn, 1) := by decide +kernel
theorem d_L_subtract_0 : decode b_L_subtract 0 = .ok (.aload 4, 2) := by decide +kernel
theorem d_L_subtract_2 : decode b_L_subtract 2 = .ok (.iconst 0, 1) := by decide +kernel
theorem d_L_subtract_3 : decode b_L_subtract 3 = .ok (.aload_n 0, 1) := by decide +kernel
theorem d_L_subtract_4 : decode b_L_subtract 4 = .ok (.iload_n 1, 1) := by decide +kernel
theorem d_L_subtract_5 : decode b_L_subtract 5 = .ok (.iload_n 2, 1) := by decide +kernel
theorem d_L_subtract_6 : decode b_L_subtract 6 = .ok (.iload_n 3, 1) := by decide +kernel
theorem d_L_subtract_7 : decode b_L_subtract 7 = .ok (.invokevirtual 35, 3) := by decide +kernel
theorem d_L_subtract_10 : decode b_L_subtract 10 = .ok (.i2l, 1) := by decide +kernel
theorem d_L_subtract_11 : decode b_L_subtract 11 = .ok (.lastore, 1) := by decide +kernel
theorem d_L_subtract_12 : decode b_L_subtract 12 = .ok (.goto 11, 3) := by decide +kernel
theorem d_L_subtract_15 : decode b_L_subtract 15 = .ok (.astore 5, 2) := by decide +kernel
theorem d_L_subtract_17 : decode b_L_subtract 17 = .ok (.iconst 1, 1) := by decide +kernel
theorem d_L_subtract_18 : decode b_L_subtract 18 = .ok (.ireturn, 1) := by decide +kernel
theorem d_L_subtract_19 : decode b_L_subtract 19 = .ok (.astore 5, 2) := by decide +kernel
theorem d_L_subtract_21 : decode b_L_subtract 21 = .ok (.iconst 2, 1) := by decide +kernel
theorem d_L_subtract_22 : decode b_L_subtract 22 = .ok (.ireturn, 1) := by decide +kernel
theorem d_L_subtract_23 : decode b_L_subtract 23 = .ok (.iconst 0, 1) := by decide +kernel
theorem d_L_subtract_24 : decode b_L_subtract 24 = .ok (.ireturn, 1) := by decide +kernel
theorem d_L_multiply_0 : decode b_L_multiply 0 = .ok (.aload 4, 2) := by decide +kernel
theorem d_L_multiply_2 : decode b_L_multiply 2 = .ok (.iconst 0, 1) := by decide +kernel
theorem d_L_multiply_3 : decode b_L_multiply 3 = .ok (.aload_n 0, 1) := by decide +kernel
theorem d_L_multiply_4 : decode b_L_multiply 4 = .ok (.iload_n 1, 1) := by decide +kernel
theorem d_L_multiply_5 : decode b_L_multiply 5 = .ok (.iload_n 2, 1) := by decide +kernel
theorem d_L_multiply_6 : decode b_L_multiply 6 = .ok (.iload_n 3, 1) := by decide +kernel
theorem d_L_multiply_7 : decode b_L_multiply 7 = .ok (.invokevirtual 38, 3) := by decide +kernel
theorem d_L_multiply_10 : decode b_L_multiply 10 = .ok (.i2l, 1) := by decide +kernel
theorem d_L_multiply_11 : decode b_L_multiply 11 = .ok (.lastore, 1) := by decide +kernel
theorem d_L_multiply_12 : decode b_L_multiply 12 = .ok (.goto 11, 3) := by decide +kernel
theorem d_L_multiply_15 : decode b_L_multiply 15 = .ok (.astore 5, 2) := by decide +kernel
theorem d_L_multiply_17 : decode b_L_multiply 17 = .ok (.iconst 1, 1) := by decide +kernel
theorem d_L_multiply_18 : decode b_L_multiply 18 = .ok (.ireturn, 1) := by decide +kernel
theorem d_L_multiply_19 : decode b_L_multiply 19 = .ok (.astore 5, 2) := by decide +kernel
theorem d_L_multiply_21 : decode b_L_multiply 21 = .ok (.iconst 2, 1) := by decide +kernel
theorem d_L_multiply_22 : decode b_L_multiply 22 = .ok (.ireturn, 1) := by decide +kernel
theorem d_L_multiply_23 : decode b_L_multiply 23 = .ok (.iconst 0, 1) := by decide +kernel
theorem d_L_multiply_24 : decode b_L_multiply 24 = .ok (.ireturn, 1) := by decide +kernel
theorem d_L_addProduct_0 : decode b_L_addProduct 0 = .ok (.aload 5, 2) := by decide +kernel
theorem d_L_addProduct_2 : decode b_L_addProduct 2 = .ok (.iconst 0, 1) := by decide +kernel
theorem d_L_addProduct_3 : decode b_L_addProduct 3 = .ok (.aload_n 0, 1) := by decide +kernel
theorem d_L_addProduct_4 : decode b_L_addProduct 4 = .ok (.iload_n 1, 1) := by decide +kernel
theorem d_L_addProduct_5 : decode b_L_addProduct 5 = .ok (.iload_n 2, 1) := by decide +kernel
theorem d_L_addProduct_6 : decode b_L_addProduct 6 = .ok (.iload_n 3, 1) := by decide +kernel
theorem d_L_addProduct_7 : decode b_L_addProduct 7 = .ok (.iload 4, 2) := by decide +kernel
theorem d_L_addProduct_9 : decode b_L_addProduct 9 = .ok (.invokevirtual 41, 3) := by decide +kernel
theorem d_L_addProduct_12 : decode b_L_addProduct 12 = .ok (.i2l, 1) := by decide +kernel
theorem d_L_addProduct_13 : decode b_L_addProduct 13 = .ok (.lastore, 1) := by decide +kernel
theorem d_L_addProduct_14 : decode b_L_addProduct 14 = .ok (.goto 11, 3) := by decide +kernel
theorem d_L_addProduct_17 : decode b_L_addProduct 17 = .ok (.astore 6, 2) := by decide +kernel
theorem d_L_addProduct_19 : decode b_L_addProduct 19 = .ok (.iconst 1, 1) := by decide +kernel
theorem d_L_addProduct_20 : decode b_L_addProduct 20 = .ok (.ireturn, 1) := by decide +kernel
theorem d_L_addProduct_21 : decode b_L_addProduct 21 = .ok (.astore 6, 2) := by decide +kernel
theorem d_L_addProduct_23 : decode b_L_addProduct 23 = .ok (.iconst 2, 1) := by decide +kernel
theorem d_L_addProduct_24 : decode b_L_addProduct 24 = .ok (.ireturn, 1) := by decide +kernel
theorem d_L_addProduct_25 : decode b_L_addProduct 25 = .ok (.iconst 0, 1) := by decide +kernel
theorem d_L_addProduct_26 : decode b_L_addProduct 26 = .ok (.ireturn, 1) := by decide +kernel
theorem d_L_divide_0 : decode b_L_divide 0 = .ok (.aload 5, 2) := by decide +kernel
theorem d_L_divide_2 : decode b_L_divide 2 = .ok (.iconst 0, 1) := by decide +kernel
theorem d_L_divide_3 : decode b_L_divide 3 = .ok (.aload_n 0, 1) := by decide +kernel
theorem d_L_divide_4 : decode b_L_divide 4 = .ok (.iload_n 1, 1) := by decide +kernel
theorem d_L_divide_5 : decode b_L_divide 5 = .ok (.iload_n 2, 1) := by decide +kernel
theorem d_L_divide_6 : decode b_L_divide 6 = .ok (.iload_n 3, 1) := by decide +kernel
theorem d_L_divide_7 : decode b_L_divide 7 = .ok (.iload 4, 2) := by decide +kernel
theorem d_L_divide_9 : decode b_L_divide 9 = .ok (.invokevirtual 45, 3) := by decide +kernel
theorem d_L_divide_12 : decode b_L_divide 12 = .ok (.i2l, 1) := by decide +kernel
theorem d_L_divide_13 : decode b_L_divide 13 = .ok (.lastore, 1) := by decide +kernel
theorem d_L_divide_14 : decode b_L_divide 14 = .ok (.goto 15, 3) := by decide +kernel
theorem d_L_divide_17 : decode b_L_divide 17 = .ok (.astore 6, 2) := by decide +kernel
theorem d_L_divide_19 : decode b_L_divide 19 = .ok (.iconst 1, 1) := by decide +kernel
theorem d_L_divide_20 : decode b_L_divide 20 = .ok (.ireturn, 1) := by decide +kernel
theorem d_L_divide_21 : decode b_L_divide 21 = .ok (.astore 6, 2) := by decide +kernel
theorem d_L_divide_23 : decode b_L_divide 23 = .ok (.iconst 2, 1) := by decide +kernel
theorem d_L_divide_24 : decode b_L_divide 24 = .ok (.ireturn, 1) := by decide +kernel
theorem d_L_divide_25 : decode b_L_divide 25 = .ok (.astore 6, 2) := by decide +kernel
theorem d_L_divide_27 : decode b_L_divide 27 = .ok (.iconst 3, 1) := by decide +kernel
theorem d_L_divide_28 : decode b_L_divide 28 = .ok (.ireturn, 1) := by decide +kernel
theorem d_L_divide_29 : decode b_L_divide 29 = .ok (.iconst 0, 1) := by decide +kernel
theorem d_L_divide_30 : decode b_L_divide 30 = .ok (.ireturn, 1) := by decide +kernel
theorem d_L_exact_0 : decode b_L_exact 0 = .ok (.aload 4, 2) := by decide +kernel
theorem d_L_exact_2 : decode b_L_exact 2 = .ok (.iconst 0, 1) := by decide +kernel
theorem d_L_exact_3 : decode b_L_exact 3 = .ok (.aload_n 0, 1) := by decide +kernel
theorem d_L_exact_4 : decode b_L_exact 4 = .ok (.iload_n 1, 1) := by decide +kernel
theorem d_L_exact_5 : decode b_L_exact 5 = .ok (.iload_n 2, 1) := by decide +kernel
theorem d_L_exact_6 : decode b_L_exact 6 = .ok (.iload_n 3, 1) := by decide +kernel
theorem d_L_exact_7 : decode b_L_exact 7 = .ok (.invokevirtual 53, 3) := by decide +kernel
theorem d_L_exact_10 : decode b_L_exact 10 = .ok (.i2l, 1) := by decide +kernel
theorem d_L_exact_11 : decode b_L_exact 11 = .ok (.lastore, 1) := by decide +kernel
theorem d_L_exact_12 : decode b_L_exact 12 = .ok (.goto 11, 3) := by decide +kernel
theorem d_L_exact_15 : decode b_L_exact 15 = .ok (.astore 5, 2) := by decide +kernel
theorem d_L_exact_17 : decode b_L_exact 17 = .ok (.iconst 1, 1) := by decide +kernel
theorem d_L_exact_18 : decode b_L_exact 18 = .ok (.ireturn, 1) := by decide +kernel
theorem d_L_exact_19 : decode b_L_exact 19 = .ok (.astore 5, 2) := by decide +kernel
theorem d_L_exact_21 : decode b_L_exact 21 = .ok (.iconst 2, 1) := by decide +kernel
theorem d_L_exact_22 : decode b_L_exact 22 = .ok (.ireturn, 1) := by decide +kernel
theorem d_L_exact_23 : decode b_L_exact 23 = .ok (.iconst 0, 1) := by decide +kernel
theorem d_L_exact_24 : decode b_L_exact 24 = .ok (.ireturn, 1) := by decide +kernel
theorem d_L_nearest_0 : decode b_L_nearest 0 = .ok (.aload 4, 2) := by decide +kernel
theorem d_L_nearest_2 : decode b_L_nearest 2 = .ok (.iconst 0, 1) := by decide +kernel
theorem d_L_nearest_3 : decode b_L_nearest 3 = .ok (.aload_n 0, 1) := by decide +kernel
theorem d_L_nearest_4 : decode b_L_nearest 4 = .ok (.iload_n 1, 1) := by decide +kernel
theorem d_L_nearest_5 : decode b_L_nearest 5 = .ok (.iload_n 2, 1) := by decide +kernel
theorem d_L_nearest_6 : decode b_L_nearest 6 = .ok (.iload_n 3, 1) := by decide +kernel
theorem d_L_nearest_7 : decode b_L_nearest 7 = .ok (.invokevirtual 56, 3) := by decide +kernel
theorem d_L_nearest_10 : decode b_L_nearest 10 = .ok (.i2l, 1) := by decide +kernel
theorem d_L_nearest_11 : decode b_L_nearest 11 = .ok (.lastore, 1) := by decide +kernel
theorem d_L_nearest_12 : decode b_L_nearest 12 = .ok (.goto 11, 3) := by decide +kernel
theorem d_L_nearest_15 : decode b_L_nearest 15 = .ok (.astore 5, 2) := by decide +kernel
theorem d_L_nearest_17 : decode b_L_nearest 17 = .ok (.iconst 1, 1) := by decide +kernel
theorem d_L_nearest_18 : decode b_L_nearest 18 = .ok (.ireturn, 1) := by decide +kernel
theorem d_L_nearest_19 : decode b_L_nearest 19 = .ok (.astore 5, 2) := by decide +kernel
theorem d_L_nearest_21 : decode b_L_nearest 21 = .ok (.iconst 2, 1) := by decide +kernel
theorem d_L_nearest_22 : decode b_L_nearest 22 = .ok (.ireturn, 1) := by decide +kernel
theorem d_L_nearest_23 : decode b_L_nearest 23 = .ok (.iconst 0, 1) := by decide +kernel
theorem d_L_nearest_24 : decode b_L_nearest 24 = .ok (.ireturn, 1) := by decide +kernel
theorem d_L_gcd_0 : decode b_L_gcd 0 = .ok (.aload 4, 2) := by decide +kernel
theorem d_L_gcd_2 : decode b_L_gcd 2 = .ok (.iconst 0, 1) := by decide +kernel
theorem d_L_gcd_3 : decode b_L_gcd 3 = .ok (.aload_n 0, 1) := by decide +kernel
theorem d_L_gcd_4 : decode b_L_gcd 4 = .ok (.iload_n 1, 1) := by decide +kernel
theorem d_L_gcd_5 : decode b_L_gcd 5 = .ok (.iload_n 2, 1) := by decide +kernel
theorem d_L_gcd_6 : decode b_L_gcd 6 = .ok (.iload_n 3, 1) := by decide +kernel
theorem d_L_gcd_7 : decode b_L_gcd 7 = .ok (.invokevirtual 59, 3) := by decide +kernel
theorem d_L_gcd_10 : decode b_L_gcd 10 = .ok (.i2l, 1) := by decide +kernel
theorem d_L_gcd_11 : decode b_L_gcd 11 = .ok (.lastore, 1) := by decide +kernel
theorem d_L_gcd_12 : decode b_L_gcd 12 = .ok (.goto 7, 3) := by decide +kernel
theorem d_L_gcd_15 : decode b_L_gcd 15 = .ok (.astore 5, 2) := by decide +kernel
theorem d_L_gcd_17 : decode b_L_gcd 17 = .ok (.iconst 1, 1) := by decide +kernel
theorem d_L_gcd_18 : decode b_L_gcd 18 = .ok (.ireturn, 1) := by decide +kernel
theorem d_L_gcd_19 : decode b_L_gcd 19 = .ok (.iconst 0, 1) := by decide +kernel
theorem d_L_gcd_20 : decode b_L_gcd 20 = .ok (.ireturn, 1) := by decide +kernel
theorem d_L_compare_0 : decode b_L_compare 0 = .ok (.aload_n 3, 1) := by decide +kernel
theorem d_L_compare_1 : decode b_L_compare 1 = .ok (.iconst 0, 1) := by decide +kernel
theorem d_L_compare_2 : decode b_L_compare 2 = .ok (.aload_n 0, 1) := by decide +kernel
theorem d_L_compare_3 : decode b_L_compare 3 = .ok (.iload_n 1, 1) := by decide +kernel
theorem d_L_compare_4 : decode b_L_compare 4 = .ok (.iload_n 2, 1) := by decide +kernel
theorem d_L_compare_5 : decode b_L_compare 5 = .ok (.invokevirtual 62, 3) := by decide +kernel
theorem d_L_compare_8 : decode b_L_compare 8 = .ok (.i2l, 1) := by decide +kernel
theorem d_L_compare_9 : decode b_L_compare 9 = .ok (.lastore, 1) := by decide +kernel
theorem d_L_compare_10 : decode b_L_compare 10 = .ok (.goto 7, 3) := by decide +kernel
theorem d_L_compare_13 : decode b_L_compare 13 = .ok (.astore 4, 2) := by decide +kernel
theorem d_L_compare_15 : decode b_L_compare 15 = .ok (.iconst 1, 1) := by decide +kernel
theorem d_L_compare_16 : decode b_L_compare 16 = .ok (.ireturn, 1) := by decide +kernel
theorem d_L_compare_17 : decode b_L_compare 17 = .ok (.iconst 0, 1) := by decide +kernel
theorem d_L_compare_18 : decode b_L_compare 18 = .ok (.ireturn, 1) := by decide +kernel
theorem d_L_sign_0 : decode b_L_sign 0 = .ok (.aload_n 2, 1) := by decide +kernel
theorem d_L_sign_1 : decode b_L_sign 1 = .ok (.iconst 0, 1) := by decide +kernel
theorem d_L_sign_2 : decode b_L_sign 2 = .ok (.aload_n 0, 1) := by decide +kernel
theorem d_L_sign_3 : decode b_L_sign 3 = .ok (.iload_n 1, 1) := by decide +kernel
theorem d_L_sign_4 : decode b_L_sign 4 = .ok (.invokevirtual 65, 3) := by decide +kernel
theorem d_L_sign_7 : decode b_L_sign 7 = .ok (.i2l, 1) := by decide +kernel
theorem d_L_sign_8 : decode b_L_sign 8 = .ok (.lastore, 1) := by decide +kernel
theorem d_L_sign_9 : decode b_L_sign 9 = .ok (.goto 6, 3) := by decide +kernel
theorem d_L_sign_12 : decode b_L_sign 12 = .ok (.astore_n 3, 1) := by decide +kernel
theorem d_L_sign_13 : decode b_L_sign 13 = .ok (.iconst 1, 1) := by decide +kernel
theorem d_L_sign_14 : decode b_L_sign 14 = .ok (.ireturn, 1) := by decide +kernel
theorem d_L_sign_15 : decode b_L_sign 15 = .ok (.iconst 0, 1) := by decide +kernel
theorem d_L_sign_16 : decode b_L_sign 16 = .ok (.ireturn, 1) := by decide +kernel
theorem d_L_length_0 : decode b_L_length 0 = .ok (.aload_n 2, 1) := by decide +kernel
theorem d_L_length_1 : decode b_L_length 1 = .ok (.iconst 0, 1) := by decide +kernel
theorem d_L_length_2 : decode b_L_length 2 = .ok (.aload_n 0, 1) := by decide +kernel
theorem d_L_length_3 : decode b_L_length 3 = .ok (.iload_n 1, 1) := by decide +kernel
theorem d_L_length_4 : decode b_L_length 4 = .ok (.invokevirtual 68, 3) := by decide +kernel
theorem d_L_length_7 : decode b_L_length 7 = .ok (.i2l, 1) := by decide +kernel
theorem d_L_length_8 : decode b_L_length 8 = .ok (.lastore, 1) := by decide +kernel
theorem d_L_length_9 : decode b_L_length 9 = .ok (.goto 6, 3) := by decide +kernel
theorem d_L_length_12 : decode b_L_length 12 = .ok (.astore_n 3, 1) := by decide +kernel
theorem d_L_length_13 : decode b_L_length 13 = .ok (.iconst 1, 1) := by decide +kernel
theorem d_L_length_14 : decode b_L_length 14 = .ok (.ireturn, 1) := by decide +kernel
theorem d_L_length_15 : decode b_L_length 15 = .ok (.iconst 0, 1) := by decide +kernel
theorem d_L_length_16 : decode b_L_length 16 = .ok (.ireturn, 1) := by decide +kernel
theorem d_L_limb_0 : decode b_L_limb 0 = .ok (.aload_n 3, 1) := by decide +kernel
theorem d_L_limb_1 : decode b_L_limb 1 = .ok (.iconst 0, 1) := by decide +kernel
theorem d_L_limb_2 : decode b_L_limb 2 = .ok (.aload_n 0, 1) := by decide +kernel
theorem d_L_limb_3 : decode b_L_limb 3 = .ok (.iload_n 1, 1) := by decide +kernel
theorem d_L_limb_4 : decode b_L_limb 4 = .ok (.iload_n 2, 1) := by decide +kernel
theorem d_L_limb_5 : decode b_L_limb 5 = .ok (.invokevirtual 71, 3) := by decide +kernel
theorem d_L_limb_8 : decode b_L_limb 8 = .ok (.i2l, 1) := by decide +kernel
theorem d_L_limb_9 : decode b_L_limb 9 = .ok (.lastore, 1) := by decide +kernel
theorem d_L_limb_10 : decode b_L_limb 10 = .ok (.goto 7, 3) := by decide +kernel
theorem d_L_limb_13 : decode b_L_limb 13 = .ok (.astore 4, 2) := by decide +kernel
theorem d_L_limb_15 : decode b_L_limb 15 = .ok (.iconst 1, 1) := by decide +kernel
theorem d_L_limb_16 : decode b_L_limb 16 = .ok (.ireturn, 1) := by decide +kernel
theorem d_L_limb_17 : decode b_L_limb 17 = .ok (.iconst 0, 1) := by decide +kernel
theorem d_L_limb_18 : decode b_L_limb 18 = .ok (.ireturn, 1) := by decide +kernel
theorem d_L_rest_0 : decode b_L_rest 0 = .ok (.aload_n 3, 1) := by decide +kernel
theorem d_L_rest_1 : decode b_L_rest 1 = .ok (.iconst 0, 1) := by decide +kernel
theorem d_L_rest_2 : decode b_L_rest 2 = .ok (.aload_n 0, 1) := by decide +kernel
theorem d_L_rest_3 : decode b_L_rest 3 = .ok (.iload_n 1, 1) := by decide +kernel
theorem d_L_rest_4 : decode b_L_rest 4 = .ok (.iload_n 2, 1) := by decide +kernel
theorem d_L_rest_5 : decode b_L_rest 5 = .ok (.invokevirtual 74, 3) := by decide +kernel
theorem d_L_rest_8 : decode b_L_rest 8 = .ok (.i2l, 1) := by decide +kernel
theorem d_L_rest_9 : decode b_L_rest 9 = .ok (.lastore, 1) := by decide +kernel
theorem d_L_rest_10 : decode b_L_rest 10 = .ok (.goto 11, 3) := by decide +kernel
theorem d_L_rest_13 : decode b_L_rest 13 = .ok (.astore 4, 2) := by decide +kernel
theorem d_L_rest_15 : decode b_L_rest 15 = .ok (.iconst 1, 1) := by decide +kernel
theorem d_L_rest_16 : decode b_L_rest 16 = .ok (.ireturn, 1) := by decide +kernel
theorem d_L_rest_17 : decode b_L_rest 17 = .ok (.astore 4, 2) := by decide +kernel
theorem d_L_rest_19 : decode b_L_rest 19 = .ok (.iconst 2, 1) := by decide +kernel
theorem d_L_rest_20 : decode b_L_rest 20 = .ok (.ireturn, 1) := by decide +kernel
theorem d_L_rest_21 : decode b_L_rest 21 = .ok (.iconst 0, 1) := by decide +kernel
theorem d_L_rest_22 : decode b_L_rest 22 = .ok (.ireturn, 1) := by decide +kernel
theorem d_L_print_0 : decode b_L_print 0 = .ok (.aload_n 2, 1) := by decide +kernel
theorem d_L_print_1 : decode b_L_print 1 = .ok (.iconst 0, 1) := by decide +kernel
theorem d_L_print_2 : decode b_L_print 2 = .ok (.aload_n 0, 1) := by decide +kernel
theorem d_L_print_3 : decode b_L_print 3 = .ok (.iload_n 1, 1) := by decide +kernel
theorem d_L_print_4 : decode b_L_print 4 = .ok (.invokevirtual 77, 3) := by decide +kernel
theorem d_L_print_7 : decode b_L_print 7 = .ok (.i2l, 1) := by decide +kernel
theorem d_L_print_8 : decode b_L_print 8 = .ok (.lastore, 1) := by decide +kernel
theorem d_L_print_9 : decode b_L_print 9 = .ok (.goto 6, 3) := by decide +kernel
theorem d_L_print_12 : decode b_L_print 12 = .ok (.astore_n 3, 1) := by decide +kernel
theorem d_L_print_13 : decode b_L_print 13 = .ok (.iconst 1, 1) := by decide +kernel
theorem d_L_print_14 : decode b_L_print 14 = .ok (.ireturn, 1) := by decide +kernel
theorem d_L_print_15 : decode b_L_print 15 = .ok (.iconst 0, 1) := by decide +kernel
theorem d_L_print_16 : decode b_L_print 16 = .ok (.ireturn, 1) := by decide +kernel
theorem d_L_law_0 : decode b_L_law 0 = .ok (.new 8, 3) := by decide +kernel
theorem d_L_law_3 : decode b_L_law 3 = .ok (.dup, 1) := by decide +kernel
theorem d_L_law_4 : decode b_L_law 4 = .ok (.invokespecial 80, 3) := by decide +kernel
theorem d_L_law_7 : decode b_L_law 7 = .ok (.astore_n 1, 1) := by decide +kernel
theorem d_L_law_8 : decode b_L_law 8 = .ok (.new 81, 3) := by decide +kernel
theorem d_L_law_11 : decode b_L_law 11 = .ok (.dup, 1) := by decide +kernel
theorem d_L_law_12 : decode b_L_law 12 = .ok (.invokespecial 83, 3) := by decide +kernel
theorem d_L_law_15 : decode b_L_law 15 = .ok (.astore_n 2, 1) := by decide +kernel
theorem d_L_law_16 : decode b_L_law 16 = .ok (.iconst 1, 1) := by decide +kernel
theorem d_L_law_17 : decode b_L_law 17 = .ok (.newarray .long, 2) := by decide +kernel
theorem d_L_law_19 : decode b_L_law 19 = .ok (.astore_n 3, 1) := by decide +kernel
theorem d_L_law_20 : decode b_L_law 20 = .ok (.iconst 0, 1) := by decide +kernel
theorem d_L_law_21 : decode b_L_law 21 = .ok (.istore 4, 2) := by decide +kernel
theorem d_L_law_23 : decode b_L_law 23 = .ok (.iload 4, 2) := by decide +kernel
theorem d_L_law_25 : decode b_L_law 25 = .ok (.aload_n 0, 1) := by decide +kernel
theorem d_L_law_26 : decode b_L_law 26 = .ok (.arraylength, 1) := by decide +kernel
theorem d_L_law_27 : decode b_L_law 27 = .ok (.iconst 5, 1) := by decide +kernel
theorem d_L_law_28 : decode b_L_law 28 = .ok (.isub, 1) := by decide +kernel
theorem d_L_law_29 : decode b_L_law 29 = .ok (.if_icmp .gt 1546, 3) := by decide +kernel
theorem d_L_law_32 : decode b_L_law 32 = .ok (.aload_n 0, 1) := by decide +kernel
theorem d_L_law_33 : decode b_L_law 33 = .ok (.iload 4, 2) := by decide +kernel
theorem d_L_law_35 : decode b_L_law 35 = .ok (.iaload, 1) := by decide +kernel
theorem d_L_law_36 : decode b_L_law 36 = .ok (.bipush 31, 2) := by decide +kernel
theorem d_L_law_38 : decode b_L_law 38 = .ok (.iand, 1) := by decide +kernel
theorem d_L_law_39 : decode b_L_law 39 = .ok (.tableswitch 1530 0 19 #[93, 193, 261, 329, 397, 453, 533, 613, 693, 801, 893, 973, 1053, 1133, 1201, 1257, 1313, 1381, 1449, 1505], 93) := by decide +kernel
theorem d_L_law_132 : decode b_L_law 132 = .ok (.aload_n 1, 1) := by decide +kernel
theorem d_L_law_133 : decode b_L_law 133 = .ok (.aload_n 0, 1) := by decide +kernel
theorem d_L_law_134 : decode b_L_law 134 = .ok (.iload 4, 2) := by decide +kernel
theorem d_L_law_136 : decode b_L_law 136 = .ok (.iconst 1, 1) := by decide +kernel
theorem d_L_law_137 : decode b_L_law 137 = .ok (.iadd, 1) := by decide +kernel
theorem d_L_law_138 : decode b_L_law 138 = .ok (.iaload, 1) := by decide +kernel
theorem d_L_law_139 : decode b_L_law 139 = .ok (.aload_n 0, 1) := by decide +kernel
theorem d_L_law_140 : decode b_L_law 140 = .ok (.iload 4, 2) := by decide +kernel
theorem d_L_law_142 : decode b_L_law 142 = .ok (.iconst 2, 1) := by decide +kernel
theorem d_L_law_143 : decode b_L_law 143 = .ok (.iadd, 1) := by decide +kernel
theorem d_L_law_144 : decode b_L_law 144 = .ok (.iaload, 1) := by decide +kernel
theorem d_L_law_145 : decode b_L_law 145 = .ok (.i2l, 1) := by decide +kernel
theorem d_L_law_146 : decode b_L_law 146 = .ok (.bipush 32, 2) := by decide +kernel
theorem d_L_law_148 : decode b_L_law 148 = .ok (.lshl, 1) := by decide +kernel
theorem d_L_law_149 : decode b_L_law 149 = .ok (.aload_n 0, 1) := by decide +kernel
theorem d_L_law_150 : decode b_L_law 150 = .ok (.iload 4, 2) := by decide +kernel
theorem d_L_law_152 : decode b_L_law 152 = .ok (.iconst 3, 1) := by decide +kernel
theorem d_L_law_153 : decode b_L_law 153 = .ok (.iadd, 1) := by decide +kernel
theorem d_L_law_154 : decode b_L_law 154 = .ok (.iaload, 1) := by decide +kernel
theorem d_L_law_155 : decode b_L_law 155 = .ok (.i2l, 1) := by decide +kernel
theorem d_L_law_156 : decode b_L_law 156 = .ok (.ldc2_w 84, 3) := by decide +kernel
theorem d_L_law_159 : decode b_L_law 159 = .ok (.land, 1) := by decide +kernel
theorem d_L_law_160 : decode b_L_law 160 = .ok (.lor, 1) := by decide +kernel
theorem d_L_law_161 : decode b_L_law 161 = .ok (.aload_n 3, 1) := by decide +kernel
theorem d_L_law_162 : decode b_L_law 162 = .ok (.invokestatic 86, 3) := by decide +kernel
theorem d_L_law_165 : decode b_L_law 165 = .ok (.istore 5, 2) := by decide +kernel
theorem d_L_law_167 : decode b_L_law 167 = .ok (.aload_n 2, 1) := by decide +kernel
theorem d_L_law_168 : decode b_L_law 168 = .ok (.aload_n 0, 1) := by decide +kernel
theorem d_L_law_169 : decode b_L_law 169 = .ok (.iload 4, 2) := by decide +kernel
theorem d_L_law_171 : decode b_L_law 171 = .ok (.iconst 1, 1) := by decide +kernel
theorem d_L_law_172 : decode b_L_law 172 = .ok (.iadd, 1) := by decide +kernel
theorem d_L_law_173 : decode b_L_law 173 = .ok (.iaload, 1) := by decide +kernel
theorem d_L_law_174 : decode b_L_law 174 = .ok (.aload_n 0, 1) := by decide +kernel
theorem d_L_law_175 : decode b_L_law 175 = .ok (.iload 4, 2) := by decide +kernel
theorem d_L_law_177 : decode b_L_law 177 = .ok (.iconst 2, 1) := by decide +kernel
theorem d_L_law_178 : decode b_L_law 178 = .ok (.iadd, 1) := by decide +kernel
theorem d_L_law_179 : decode b_L_law 179 = .ok (.iaload, 1) := by decide +kernel
theorem d_L_law_180 : decode b_L_law 180 = .ok (.i2l, 1) := by decide +kernel
theorem d_L_law_181 : decode b_L_law 181 = .ok (.bipush 32, 2) := by decide +kernel
theorem d_L_law_183 : decode b_L_law 183 = .ok (.lshl, 1) := by decide +kernel
theorem d_L_law_184 : decode b_L_law 184 = .ok (.aload_n 0, 1) := by decide +kernel
theorem d_L_law_185 : decode b_L_law 185 = .ok (.iload 4, 2) := by decide +kernel
theorem d_L_law_187 : decode b_L_law 187 = .ok (.iconst 3, 1) := by decide +kernel
theorem d_L_law_188 : decode b_L_law 188 = .ok (.iadd, 1) := by decide +kernel
theorem d_L_law_189 : decode b_L_law 189 = .ok (.iaload, 1) := by decide +kernel
theorem d_L_law_190 : decode b_L_law 190 = .ok (.i2l, 1) := by decide +kernel
theorem d_L_law_191 : decode b_L_law 191 = .ok (.ldc2_w 84, 3) := by decide +kernel
theorem d_L_law_194 : decode b_L_law 194 = .ok (.land, 1) := by decide +kernel
theorem d_L_law_195 : decode b_L_law 195 = .ok (.lor, 1) := by decide +kernel
theorem d_L_law_196 : decode b_L_law 196 = .ok (.invokevirtual 91, 3) := by decide +kernel
theorem d_L_law_199 : decode b_L_law 199 = .ok (.istore 6, 2) := by decide +kernel
theorem d_L_law_201 : decode b_L_law 201 = .ok (.aload_n 2, 1) := by decide +kernel
theorem d_L_law_202 : decode b_L_law 202 = .ok (.invokevirtual 92, 3) := by decide +kernel
theorem d_L_law_205 : decode b_L_law 205 = .ok (.iload 5, 2) := by decide +kernel
theorem d_L_law_207 : decode b_L_law 207 = .ok (.if_icmp .eq 5, 3) := by decide +kernel
theorem d_L_law_210 : decode b_L_law 210 = .ok (.iconst 0, 1) := by decide +kernel
theorem d_L_law_211 : decode b_L_law 211 = .ok (.ireturn, 1) := by decide +kernel
theorem d_L_law_212 : decode b_L_law 212 = .ok (.iload 5, 2) := by decide +kernel
theorem d_L_law_214 : decode b_L_law 214 = .ok (.ifCond .ne 15, 3) := by decide +kernel
theorem d_L_law_217 : decode b_L_law 217 = .ok (.aload_n 3, 1) := by decide +kernel
theorem d_L_law_218 : decode b_L_law 218 = .ok (.iconst 0, 1) := by decide +kernel
theorem d_L_law_219 : decode b_L_law 219 = .ok (.laload, 1) := by decide +kernel
theorem d_L_law_220 : decode b_L_law 220 = .ok (.iload 6, 2) := by decide +kernel
theorem d_L_law_222 : decode b_L_law 222 = .ok (.i2l, 1) := by decide +kernel
theorem d_L_law_223 : decode b_L_law 223 = .ok (.lcmp, 1) := by decide +kernel
theorem d_L_law_224 : decode b_L_law 224 = .ok (.ifCond .eq 5, 3) := by decide +kernel
theorem d_L_law_227 : decode b_L_law 227 = .ok (.iconst 0, 1) := by decide +kernel
theorem d_L_law_228 : decode b_L_law 228 = .ok (.ireturn, 1) := by decide +kernel
theorem d_L_law_229 : decode b_L_law 229 = .ok (.goto 1340, 3) := by decide +kernel
theorem d_L_law_232 : decode b_L_law 232 = .ok (.aload_n 1, 1) := by decide +kernel
theorem d_L_law_233 : decode b_L_law 233 = .ok (.aload_n 0, 1) := by decide +kernel
theorem d_L_law_234 : decode b_L_law 234 = .ok (.iload 4, 2) := by decide +kernel
theorem d_L_law_236 : decode b_L_law 236 = .ok (.iconst 1, 1) := by decide +kernel
theorem d_L_law_237 : decode b_L_law 237 = .ok (.iadd, 1) := by decide +kernel
theorem d_L_law_238 : decode b_L_law 238 = .ok (.iaload, 1) := by decide +kernel
theorem d_L_law_239 : decode b_L_law 239 = .ok (.aload_n 0, 1) := by decide +kernel
theorem d_L_law_240 : decode b_L_law 240 = .ok (.iload 4, 2) := by decide +kernel
theorem d_L_law_242 : decode b_L_law 242 = .ok (.iconst 2, 1) := by decide +kernel
theorem d_L_law_243 : decode b_L_law 243 = .ok (.iadd, 1) := by decide +kernel
theorem d_L_law_244 : decode b_L_law 244 = .ok (.iaload, 1) := by decide +kernel
theorem d_L_law_245 : decode b_L_law 245 = .ok (.aload_n 3, 1) := by decide +kernel
theorem d_L_law_246 : decode b_L_law 246 = .ok (.invokestatic 96, 3) := by decide +kernel
theorem d_L_law_249 : decode b_L_law 249 = .ok (.istore 5, 2) := by decide +kernel
theorem d_L_law_251 : decode b_L_law 251 = .ok (.aload_n 2, 1) := by decide +kernel
theorem d_L_law_252 : decode b_L_law 252 = .ok (.aload_n 0, 1) := by decide +kernel
theorem d_L_law_253 : decode b_L_law 253 = .ok (.iload 4, 2) := by decide +kernel
theorem d_L_law_255 : decode b_L_law 255 = .ok (.iconst 1, 1) := by decide +kernel
theorem d_L_law_256 : decode b_L_law 256 = .ok (.iadd, 1) := by decide +kernel
theorem d_L_law_257 : decode b_L_law 257 = .ok (.iaload, 1) := by decide +kernel
theorem d_L_law_258 : decode b_L_law 258 = .ok (.aload_n 0, 1) := by decide +kernel
theorem d_L_law_259 : decode b_L_law 259 = .ok (.iload 4, 2) := by decide +kernel
theorem d_L_law_261 : decode b_L_law 261 = .ok (.iconst 2, 1) := by decide +kernel
theorem d_L_law_262 : decode b_L_law 262 = .ok (.iadd, 1) := by decide +kernel
theorem d_L_law_263 : decode b_L_law 263 = .ok (.iaload, 1) := by decide +kernel
theorem d_L_law_264 : decode b_L_law 264 = .ok (.invokevirtual 99, 3) := by decide +kernel
theorem d_L_law_267 : decode b_L_law 267 = .ok (.istore 6, 2) := by decide +kernel
theorem d_L_law_269 : decode b_L_law 269 = .ok (.aload_n 2, 1) := by decide +kernel
theorem d_L_law_270 : decode b_L_law 270 = .ok (.invokevirtual 92, 3) := by decide +kernel
theorem d_L_law_273 : decode b_L_law 273 = .ok (.iload 5, 2) := by decide +kernel
theorem d_L_law_275 : decode b_L_law 275 = .ok (.if_icmp .eq 5, 3) := by decide +kernel
theorem d_L_law_278 : decode b_L_law 278 = .ok (.iconst 0, 1) := by decide +kernel
theorem d_L_law_279 : decode b_L_law 279 = .ok (.ireturn, 1) := by decide +kernel
theorem d_L_law_280 : decode b_L_law 280 = .ok (.iload 5, 2) := by decide +kernel
theorem d_L_law_282 : decode b_L_law 282 = .ok (.ifCond .ne 15, 3) := by decide +kernel
theorem d_L_law_285 : decode b_L_law 285 = .ok (.aload_n 3, 1) := by decide +kernel
theorem d_L_law_286 : decode b_L_law 286 = .ok (.iconst 0, 1) := by decide +kernel
theorem d_L_law_287 : decode b_L_law 287 = .ok (.laload, 1) := by decide +kernel
theorem d_L_law_288 : decode b_L_law 288 = .ok (.iload 6, 2) := by decide +kernel
theorem d_L_law_290 : decode b_L_law 290 = .ok (.i2l, 1) := by decide +kernel
theorem d_L_law_291 : decode b_L_law 291 = .ok (.lcmp, 1) := by decide +kernel
theorem d_L_law_292 : decode b_L_law 292 = .ok (.ifCond .eq 5, 3) := by decide +kernel
theorem d_L_law_295 : decode b_L_law 295 = .ok (.iconst 0, 1) := by decide +kernel
theorem d_L_law_296 : decode b_L_law 296 = .ok (.ireturn, 1) := by decide +kernel
theorem d_L_law_297 : decode b_L_law 297 = .ok (.goto 1272, 3) := by decide +kernel
theorem d_L_law_300 : decode b_L_law 300 = .ok (.aload_n 1, 1) := by decide +kernel
theorem d_L_law_301 : decode b_L_law 301 = .ok (.aload_n 0, 1) := by decide +kernel
theorem d_L_law_302 : decode b_L_law 302 = .ok (.iload 4, 2) := by decide +kernel
theorem d_L_law_304 : decode b_L_law 304 = .ok (.iconst 1, 1) := by decide +kernel
theorem d_L_law_305 : decode b_L_law 305 = .ok (.iadd, 1) := by decide +kernel
theorem d_L_law_306 : decode b_L_law 306 = .ok (.iaload, 1) := by decide +kernel
theorem d_L_law_307 : decode b_L_law 307 = .ok (.aload_n 0, 1) := by decide +kernel
theorem d_L_law_308 : decode b_L_law 308 = .ok (.iload 4, 2) := by decide +kernel
theorem d_L_law_310 : decode b_L_law 310 = .ok (.iconst 2, 1) := by decide +kernel
theorem d_L_law_311 : decode b_L_law 311 = .ok (.iadd, 1) := by decide +kernel
theorem d_L_law_312 : decode b_L_law 312 = .ok (.iaload, 1) := by decide +kernel
theorem d_L_law_313 : decode b_L_law 313 = .ok (.aload_n 3, 1) := by decide +kernel
theorem d_L_law_314 : decode b_L_law 314 = .ok (.invokestatic 100, 3) := by decide +kernel
theorem d_L_law_317 : decode b_L_law 317 = .ok (.istore 5, 2) := by decide +kernel
theorem d_L_law_319 : decode b_L_law 319 = .ok (.aload_n 2, 1) := by decide +kernel
theorem d_L_law_320 : decode b_L_law 320 = .ok (.aload_n 0, 1) := by decide +kernel
theorem d_L_law_321 : decode b_L_law 321 = .ok (.iload 4, 2) := by decide +kernel
theorem d_L_law_323 : decode b_L_law 323 = .ok (.iconst 1, 1) := by decide +kernel
theorem d_L_law_324 : decode b_L_law 324 = .ok (.iadd, 1) := by decide +kernel
theorem d_L_law_325 : decode b_L_law 325 = .ok (.iaload, 1) := by decide +kernel
theorem d_L_law_326 : decode b_L_law 326 = .ok (.aload_n 0, 1) := by decide +kernel
theorem d_L_law_327 : decode b_L_law 327 = .ok (.iload 4, 2) := by decide +kernel
theorem d_L_law_329 : decode b_L_law 329 = .ok (.iconst 2, 1) := by decide +kernel
theorem d_L_law_330 : decode b_L_law 330 = .ok (.iadd, 1) := by decide +kernel
theorem d_L_law_331 : decode b_L_law 331 = .ok (.iaload, 1) := by decide +kernel
theorem d_L_law_332 : decode b_L_law 332 = .ok (.invokevirtual 102, 3) := by decide +kernel
theorem d_L_law_335 : decode b_L_law 335 = .ok (.istore 6, 2) := by decide +kernel
theorem d_L_law_337 : decode b_L_law 337 = .ok (.aload_n 2, 1) := by decide +kernel
theorem d_L_law_338 : decode b_L_law 338 = .ok (.invokevirtual 92, 3) := by decide +kernel
theorem d_L_law_341 : decode b_L_law 341 = .ok (.iload 5, 2) := by decide +kernel
theorem d_L_law_343 : decode b_L_law 343 = .ok (.if_icmp .eq 5, 3) := by decide +kernel
theorem d_L_law_346 : decode b_L_law 346 = .ok (.iconst 0, 1) := by decide +kernel
theorem d_L_law_347 : decode b_L_law 347 = .ok (.ireturn, 1) := by decide +kernel
theorem d_L_law_348 : decode b_L_law 348 = .ok (.iload 5, 2) := by decide +kernel
theorem d_L_law_350 : decode b_L_law 350 = .ok (.ifCond .ne 15, 3) := by decide +kernel
theorem d_L_law_353 : decode b_L_law 353 = .ok (.aload_n 3, 1) := by decide +kernel
theorem d_L_law_354 : decode b_L_law 354 = .ok (.iconst 0, 1) := by decide +kernel
theorem d_L_law_355 : decode b_L_law 355 = .ok (.laload, 1) := by decide +kernel
theorem d_L_law_356 : decode b_L_law 356 = .ok (.iload 6, 2) := by decide +kernel
theorem d_L_law_358 : decode b_L_law 358 = .ok (.i2l, 1) := by decide +kernel
theorem d_L_law_359 : decode b_L_law 359 = .ok (.lcmp, 1) := by decide +kernel
theorem d_L_law_360 : decode b_L_law 360 = .ok (.ifCond .eq 5, 3) := by decide +kernel
theorem d_L_law_363 : decode b_L_law 363 = .ok (.iconst 0, 1) := by decide +kernel
theorem d_L_law_364 : decode b_L_law 364 = .ok (.ireturn, 1) := by decide +kernel
theorem d_L_law_365 : decode b_L_law 365 = .ok (.goto 1204, 3) := by decide +kernel
theorem d_L_law_368 : decode b_L_law 368 = .ok (.aload_n 1, 1) := by decide +kernel
theorem d_L_law_369 : decode b_L_law 369 = .ok (.aload_n 0, 1) := by decide +kernel
theorem d_L_law_370 : decode b_L_law 370 = .ok (.iload 4, 2) := by decide +kernel
theorem d_L_law_372 : decode b_L_law 372 = .ok (.iconst 1, 1) := by decide +kernel
theorem d_L_law_373 : decode b_L_law 373 = .ok (.iadd, 1) := by decide +kernel
theorem d_L_law_374 : decode b_L_law 374 = .ok (.iaload, 1) := by decide +kernel
theorem d_L_law_375 : decode b_L_law 375 = .ok (.aload_n 0, 1) := by decide +kernel
theorem d_L_law_376 : decode b_L_law 376 = .ok (.iload 4, 2) := by decide +kernel
theorem d_L_law_378 : decode b_L_law 378 = .ok (.iconst 2, 1) := by decide +kernel
theorem d_L_law_379 : decode b_L_law 379 = .ok (.iadd, 1) := by decide +kernel
theorem d_L_law_380 : decode b_L_law 380 = .ok (.iaload, 1) := by decide +kernel
theorem d_L_law_381 : decode b_L_law 381 = .ok (.aload_n 3, 1) := by decide +kernel
theorem d_L_law_382 : decode b_L_law 382 = .ok (.invokestatic 103, 3) := by decide +kernel
theorem d_L_law_385 : decode b_L_law 385 = .ok (.istore 5, 2) := by decide +kernel
theorem d_L_law_387 : decode b_L_law 387 = .ok (.aload_n 2, 1) := by decide +kernel
theorem d_L_law_388 : decode b_L_law 388 = .ok (.aload_n 0, 1) := by decide +kernel
theorem d_L_law_389 : decode b_L_law 389 = .ok (.iload 4, 2) := by decide +kernel
theorem d_L_law_391 : decode b_L_law 391 = .ok (.iconst 1, 1) := by decide +kernel
theorem d_L_law_392 : decode b_L_law 392 = .ok (.iadd, 1) := by decide +kernel
theorem d_L_law_393 : decode b_L_law 393 = .ok (.iaload, 1) := by decide +kernel
theorem d_L_law_394 : decode b_L_law 394 = .ok (.aload_n 0, 1) := by decide +kernel
theorem d_L_law_395 : decode b_L_law 395 = .ok (.iload 4, 2) := by decide +kernel
theorem d_L_law_397 : decode b_L_law 397 = .ok (.iconst 2, 1) := by decide +kernel
theorem d_L_law_398 : decode b_L_law 398 = .ok (.iadd, 1) := by decide +kernel
theorem d_L_law_399 : decode b_L_law 399 = .ok (.iaload, 1) := by decide +kernel
theorem d_L_law_400 : decode b_L_law 400 = .ok (.invokevirtual 105, 3) := by decide +kernel
theorem d_L_law_403 : decode b_L_law 403 = .ok (.istore 6, 2) := by decide +kernel
theorem d_L_law_405 : decode b_L_law 405 = .ok (.aload_n 2, 1) := by decide +kernel
theorem d_L_law_406 : decode b_L_law 406 = .ok (.invokevirtual 92, 3) := by decide +kernel
theorem d_L_law_409 : decode b_L_law 409 = .ok (.iload 5, 2) := by decide +kernel
theorem d_L_law_411 : decode b_L_law 411 = .ok (.if_icmp .eq 5, 3) := by decide +kernel
theorem d_L_law_414 : decode b_L_law 414 = .ok (.iconst 0, 1) := by decide +kernel
theorem d_L_law_415 : decode b_L_law 415 = .ok (.ireturn, 1) := by decide +kernel
theorem d_L_law_416 : decode b_L_law 416 = .ok (.iload 5, 2) := by decide +kernel
theorem d_L_law_418 : decode b_L_law 418 = .ok (.ifCond .ne 15, 3) := by decide +kernel
theorem d_L_law_421 : decode b_L_law 421 = .ok (.aload_n 3, 1) := by decide +kernel
theorem d_L_law_422 : decode b_L_law 422 = .ok (.iconst 0, 1) := by decide +kernel
theorem d_L_law_423 : decode b_L_law 423 = .ok (.laload, 1) := by decide +kernel
theorem d_L_law_424 : decode b_L_law 424 = .ok (.iload 6, 2) := by decide +kernel
theorem d_L_law_426 : decode b_L_law 426 = .ok (.i2l, 1) := by decide +kernel
theorem d_L_law_427 : decode b_L_law 427 = .ok (.lcmp, 1) := by decide +kernel
theorem d_L_law_428 : decode b_L_law 428 = .ok (.ifCond .eq 5, 3) := by decide +kernel
theorem d_L_law_431 : decode b_L_law 431 = .ok (.iconst 0, 1) := by decide +kernel
theorem d_L_law_432 : decode b_L_law 432 = .ok (.ireturn, 1) := by decide +kernel
theorem d_L_law_433 : decode b_L_law 433 = .ok (.goto 1136, 3) := by decide +kernel
theorem d_L_law_436 : decode b_L_law 436 = .ok (.aload_n 1, 1) := by decide +kernel
theorem d_L_law_437 : decode b_L_law 437 = .ok (.aload_n 0, 1) := by decide +kernel
theorem d_L_law_438 : decode b_L_law 438 = .ok (.iload 4, 2) := by decide +kernel
theorem d_L_law_440 : decode b_L_law 440 = .ok (.iconst 1, 1) := by decide +kernel
theorem d_L_law_441 : decode b_L_law 441 = .ok (.iadd, 1) := by decide +kernel
theorem d_L_law_442 : decode b_L_law 442 = .ok (.iaload, 1) := by decide +kernel
theorem d_L_law_443 : decode b_L_law 443 = .ok (.aload_n 3, 1) := by decide +kernel
theorem d_L_law_444 : decode b_L_law 444 = .ok (.invokestatic 106, 3) := by decide +kernel
theorem d_L_law_447 : decode b_L_law 447 = .ok (.istore 5, 2) := by decide +kernel
theorem d_L_law_449 : decode b_L_law 449 = .ok (.aload_n 2, 1) := by decide +kernel
theorem d_L_law_450 : decode b_L_law 450 = .ok (.aload_n 0, 1) := by decide +kernel
theorem d_L_law_451 : decode b_L_law 451 = .ok (.iload 4, 2) := by decide +kernel
theorem d_L_law_453 : decode b_L_law 453 = .ok (.iconst 1, 1) := by decide +kernel
theorem d_L_law_454 : decode b_L_law 454 = .ok (.iadd, 1) := by decide +kernel
theorem d_L_law_455 : decode b_L_law 455 = .ok (.iaload, 1) := by decide +kernel
theorem d_L_law_456 : decode b_L_law 456 = .ok (.invokevirtual 109, 3) := by decide +kernel
theorem d_L_law_459 : decode b_L_law 459 = .ok (.istore 6, 2) := by decide +kernel
theorem d_L_law_461 : decode b_L_law 461 = .ok (.aload_n 2, 1) := by decide +kernel
theorem d_L_law_462 : decode b_L_law 462 = .ok (.invokevirtual 92, 3) := by decide +kernel
theorem d_L_law_465 : decode b_L_law 465 = .ok (.iload 5, 2) := by decide +kernel
theorem d_L_law_467 : decode b_L_law 467 = .ok (.if_icmp .eq 5, 3) := by decide +kernel
theorem d_L_law_470 : decode b_L_law 470 = .ok (.iconst 0, 1) := by decide +kernel
theorem d_L_law_471 : decode b_L_law 471 = .ok (.ireturn, 1) := by decide +kernel
theorem d_L_law_472 : decode b_L_law 472 = .ok (.iload 5, 2) := by decide +kernel
theorem d_L_law_474 : decode b_L_law 474 = .ok (.ifCond .ne 15, 3) := by decide +kernel
theorem d_L_law_477 : decode b_L_law 477 = .ok (.aload_n 3, 1) := by decide +kernel
theorem d_L_law_478 : decode b_L_law 478 = .ok (.iconst 0, 1) := by decide +kernel
theorem d_L_law_479 : decode b_L_law 479 = .ok (.laload, 1) := by decide +kernel
theorem d_L_law_480 : decode b_L_law 480 = .ok (.iload 6, 2) := by decide +kernel
theorem d_L_law_482 : decode b_L_law 482 = .ok (.i2l, 1) := by decide +kernel
theorem d_L_law_483 : decode b_L_law 483 = .ok (.lcmp, 1) := by decide +kernel
theorem d_L_law_484 : decode b_L_law 484 = .ok (.ifCond .eq 5, 3) := by decide +kernel
theorem d_L_law_487 : decode b_L_law 487 = .ok (.iconst 0, 1) := by decide +kernel
theorem d_L_law_488 : decode b_L_law 488 = .ok (.ireturn, 1) := by decide +kernel
theorem d_L_law_489 : decode b_L_law 489 = .ok (.goto 1080, 3) := by decide +kernel
theorem d_L_law_492 : decode b_L_law 492 = .ok (.aload_n 1, 1) := by decide +kernel
theorem d_L_law_493 : decode b_L_law 493 = .ok (.aload_n 0, 1) := by decide +kernel
theorem d_L_law_494 : decode b_L_law 494 = .ok (.iload 4, 2) := by decide +kernel
theorem d_L_law_496 : decode b_L_law 496 = .ok (.iconst 1, 1) := by decide +kernel
theorem d_L_law_497 : decode b_L_law 497 = .ok (.iadd, 1) := by decide +kernel
theorem d_L_law_498 : decode b_L_law 498 = .ok (.iaload, 1) := by decide +kernel
theorem d_L_law_499 : decode b_L_law 499 = .ok (.aload_n 0, 1) := by decide +kernel
theorem d_L_law_500 : decode b_L_law 500 = .ok (.iload 4, 2) := by decide +kernel
theorem d_L_law_502 : decode b_L_law 502 = .ok (.iconst 2, 1) := by decide +kernel
theorem d_L_law_503 : decode b_L_law 503 = .ok (.iadd, 1) := by decide +kernel
theorem d_L_law_504 : decode b_L_law 504 = .ok (.iaload, 1) := by decide +kernel
theorem d_L_law_505 : decode b_L_law 505 = .ok (.aload_n 0, 1) := by decide +kernel
theorem d_L_law_506 : decode b_L_law 506 = .ok (.iload 4, 2) := by decide +kernel
theorem d_L_law_508 : decode b_L_law 508 = .ok (.iconst 3, 1) := by decide +kernel
theorem d_L_law_509 : decode b_L_law 509 = .ok (.iadd, 1) := by decide +kernel
theorem d_L_law_510 : decode b_L_law 510 = .ok (.iaload, 1) := by decide +kernel
theorem d_L_law_511 : decode b_L_law 511 = .ok (.aload_n 3, 1) := by decide +kernel
theorem d_L_law_512 : decode b_L_law 512 = .ok (.invokestatic 110, 3) := by decide +kernel
theorem d_L_law_515 : decode b_L_law 515 = .ok (.istore 5, 2) := by decide +kernel
theorem d_L_law_517 : decode b_L_law 517 = .ok (.aload_n 2, 1) := by decide +kernel
theorem d_L_law_518 : decode b_L_law 518 = .ok (.aload_n 0, 1) := by decide +kernel
theorem d_L_law_519 : decode b_L_law 519 = .ok (.iload 4, 2) := by decide +kernel
theorem d_L_law_521 : decode b_L_law 521 = .ok (.iconst 1, 1) := by decide +kernel
theorem d_L_law_522 : decode b_L_law 522 = .ok (.iadd, 1) := by decide +kernel
theorem d_L_law_523 : decode b_L_law 523 = .ok (.iaload, 1) := by decide +kernel
theorem d_L_law_524 : decode b_L_law 524 = .ok (.aload_n 0, 1) := by decide +kernel
theorem d_L_law_525 : decode b_L_law 525 = .ok (.iload 4, 2) := by decide +kernel
theorem d_L_law_527 : decode b_L_law 527 = .ok (.iconst 2, 1) := by decide +kernel
theorem d_L_law_528 : decode b_L_law 528 = .ok (.iadd, 1) := by decide +kernel
theorem d_L_law_529 : decode b_L_law 529 = .ok (.iaload, 1) := by decide +kernel
theorem d_L_law_530 : decode b_L_law 530 = .ok (.aload_n 0, 1) := by decide +kernel
theorem d_L_law_531 : decode b_L_law 531 = .ok (.iload 4, 2) := by decide +kernel
theorem d_L_law_533 : decode b_L_law 533 = .ok (.iconst 3, 1) := by decide +kernel
theorem d_L_law_534 : decode b_L_law 534 = .ok (.iadd, 1) := by decide +kernel
theorem d_L_law_535 : decode b_L_law 535 = .ok (.iaload, 1) := by decide +kernel
theorem d_L_law_536 : decode b_L_law 536 = .ok (.invokevirtual 113, 3) := by decide +kernel
theorem d_L_law_539 : decode b_L_law 539 = .ok (.istore 6, 2) := by decide +kernel
theorem d_L_law_541 : decode b_L_law 541 = .ok (.aload_n 2, 1) := by decide +kernel
theorem d_L_law_542 : decode b_L_law 542 = .ok (.invokevirtual 92, 3) := by decide +kernel
theorem d_L_law_545 : decode b_L_law 545 = .ok (.iload 5, 2) := by decide +kernel
theorem d_L_law_547 : decode b_L_law 547 = .ok (.if_icmp .eq 5, 3) := by decide +kernel
theorem d_L_law_550 : decode b_L_law 550 = .ok (.iconst 0, 1) := by decide +kernel
theorem d_L_law_551 : decode b_L_law 551 = .ok (.ireturn, 1) := by decide +kernel
theorem d_L_law_552 : decode b_L_law 552 = .ok (.iload 5, 2) := by decide +kernel
theorem d_L_law_554 : decode b_L_law 554 = .ok (.ifCond .ne 15, 3) := by decide +kernel
theorem d_L_law_557 : decode b_L_law 557 = .ok (.aload_n 3, 1) := by decide +kernel
theorem d_L_law_558 : decode b_L_law 558 = .ok (.iconst 0, 1) := by decide +kernel
theorem d_L_law_559 : decode b_L_law 559 = .ok (.laload, 1) := by decide +kernel
theorem d_L_law_560 : decode b_L_law 560 = .ok (.iload 6, 2) := by decide +kernel
theorem d_L_law_562 : decode b_L_law 562 = .ok (.i2l, 1) := by decide +kernel
theorem d_L_law_563 : decode b_L_law 563 = .ok (.lcmp, 1) := by decide +kernel
theorem d_L_law_564 : decode b_L_law 564 = .ok (.ifCond .eq 5, 3) := by decide +kernel
theorem d_L_law_567 : decode b_L_law 567 = .ok (.iconst 0, 1) := by decide +kernel
theorem d_L_law_568 : decode b_L_law 568 = .ok (.ireturn, 1) := by decide +kernel
theorem d_L_law_569 : decode b_L_law 569 = .ok (.goto 1000, 3) := by decide +kernel
theorem d_L_law_572 : decode b_L_law 572 = .ok (.aload_n 1, 1) := by decide +kernel
theorem d_L_law_573 : decode b_L_law 573 = .ok (.aload_n 0, 1) := by decide +kernel
theorem d_L_law_574 : decode b_L_law 574 = .ok (.iload 4, 2) := by decide +kernel
theorem d_L_law_576 : decode b_L_law 576 = .ok (.iconst 1, 1) := by decide +kernel
theorem d_L_law_577 : decode b_L_law 577 = .ok (.iadd, 1) := by decide +kernel
theorem d_L_law_578 : decode b_L_law 578 = .ok (.iaload, 1) := by decide +kernel
theorem d_L_law_579 : decode b_L_law 579 = .ok (.aload_n 0, 1) := by decide +kernel
theorem d_L_law_580 : decode b_L_law 580 = .ok (.iload 4, 2) := by decide +kernel
theorem d_L_law_582 : decode b_L_law 582 = .ok (.iconst 2, 1) := by decide +kernel
theorem d_L_law_583 : decode b_L_law 583 = .ok (.iadd, 1) := by decide +kernel
theorem d_L_law_584 : decode b_L_law 584 = .ok (.iaload, 1) := by decide +kernel
theorem d_L_law_585 : decode b_L_law 585 = .ok (.aload_n 0, 1) := by decide +kernel
theorem d_L_law_586 : decode b_L_law 586 = .ok (.iload 4, 2) := by decide +kernel
theorem d_L_law_588 : decode b_L_law 588 = .ok (.iconst 3, 1) := by decide +kernel
theorem d_L_law_589 : decode b_L_law 589 = .ok (.iadd, 1) := by decide +kernel
theorem d_L_law_590 : decode b_L_law 590 = .ok (.iaload, 1) := by decide +kernel
theorem d_L_law_591 : decode b_L_law 591 = .ok (.aload_n 3, 1) := by decide +kernel
theorem d_L_law_592 : decode b_L_law 592 = .ok (.invokestatic 114, 3) := by decide +kernel
theorem d_L_law_595 : decode b_L_law 595 = .ok (.istore 5, 2) := by decide +kernel
theorem d_L_law_597 : decode b_L_law 597 = .ok (.aload_n 2, 1) := by decide +kernel
theorem d_L_law_598 : decode b_L_law 598 = .ok (.aload_n 0, 1) := by decide +kernel
theorem d_L_law_599 : decode b_L_law 599 = .ok (.iload 4, 2) := by decide +kernel
theorem d_L_law_601 : decode b_L_law 601 = .ok (.iconst 1, 1) := by decide +kernel
theorem d_L_law_602 : decode b_L_law 602 = .ok (.iadd, 1) := by decide +kernel
theorem d_L_law_603 : decode b_L_law 603 = .ok (.iaload, 1) := by decide +kernel
theorem d_L_law_604 : decode b_L_law 604 = .ok (.aload_n 0, 1) := by decide +kernel
theorem d_L_law_605 : decode b_L_law 605 = .ok (.iload 4, 2) := by decide +kernel
theorem d_L_law_607 : decode b_L_law 607 = .ok (.iconst 2, 1) := by decide +kernel
theorem d_L_law_608 : decode b_L_law 608 = .ok (.iadd, 1) := by decide +kernel
theorem d_L_law_609 : decode b_L_law 609 = .ok (.iaload, 1) := by decide +kernel
theorem d_L_law_610 : decode b_L_law 610 = .ok (.aload_n 0, 1) := by decide +kernel
theorem d_L_law_611 : decode b_L_law 611 = .ok (.iload 4, 2) := by decide +kernel
theorem d_L_law_613 : decode b_L_law 613 = .ok (.iconst 3, 1) := by decide +kernel
theorem d_L_law_614 : decode b_L_law 614 = .ok (.iadd, 1) := by decide +kernel
theorem d_L_law_615 : decode b_L_law 615 = .ok (.iaload, 1) := by decide +kernel
theorem d_L_law_616 : decode b_L_law 616 = .ok (.invokevirtual 116, 3) := by decide +kernel
theorem d_L_law_619 : decode b_L_law 619 = .ok (.istore 6, 2) := by decide +kernel
theorem d_L_law_621 : decode b_L_law 621 = .ok (.aload_n 2, 1) := by decide +kernel
theorem d_L_law_622 : decode b_L_law 622 = .ok (.invokevirtual 92, 3) := by decide +kernel
theorem d_L_law_625 : decode b_L_law 625 = .ok (.iload 5, 2) := by decide +kernel
theorem d_L_law_627 : decode b_L_law 627 = .ok (.if_icmp .eq 5, 3) := by decide +kernel
theorem d_L_law_630 : decode b_L_law 630 = .ok (.iconst 0, 1) := by decide +kernel
theorem d_L_law_631 : decode b_L_law 631 = .ok (.ireturn, 1) := by decide +kernel
theorem d_L_law_632 : decode b_L_law 632 = .ok (.iload 5, 2) := by decide +kernel
theorem d_L_law_634 : decode b_L_law 634 = .ok (.ifCond .ne 15, 3) := by decide +kernel
theorem d_L_law_637 : decode b_L_law 637 = .ok (.aload_n 3, 1) := by decide +kernel
theorem d_L_law_638 : decode b_L_law 638 = .ok (.iconst 0, 1) := by decide +kernel
theorem d_L_law_639 : decode b_L_law 639 = .ok (.laload, 1) := by decide +kernel
theorem d_L_law_640 : decode b_L_law 640 = .ok (.iload 6, 2) := by decide +kernel
theorem d_L_law_642 : decode b_L_law 642 = .ok (.i2l, 1) := by decide +kernel
theorem d_L_law_643 : decode b_L_law 643 = .ok (.lcmp, 1) := by decide +kernel
theorem d_L_law_644 : decode b_L_law 644 = .ok (.ifCond .eq 5, 3) := by decide +kernel
theorem d_L_law_647 : decode b_L_law 647 = .ok (.iconst 0, 1) := by decide +kernel
theorem d_L_law_648 : decode b_L_law 648 = .ok (.ireturn, 1) := by decide +kernel
theorem d_L_law_649 : decode b_L_law 649 = .ok (.goto 920, 3) := by decide +kernel
theorem d_L_law_652 : decode b_L_law 652 = .ok (.aload_n 1, 1) := by decide +kernel
theorem d_L_law_653 : decode b_L_law 653 = .ok (.aload_n 0, 1) := by decide +kernel
theorem d_L_law_654 : decode b_L_law 654 = .ok (.iload 4, 2) := by decide +kernel
theorem d_L_law_656 : decode b_L_law 656 = .ok (.iconst 1, 1) := by decide +kernel
theorem d_L_law_657 : decode b_L_law 657 = .ok (.iadd, 1) := by decide +kernel
theorem d_L_law_658 : decode b_L_law 658 = .ok (.iaload, 1) := by decide +kernel
theorem d_L_law_659 : decode b_L_law 659 = .ok (.aload_n 0, 1) := by decide +kernel
theorem d_L_law_660 : decode b_L_law 660 = .ok (.iload 4, 2) := by decide +kernel
theorem d_L_law_662 : decode b_L_law 662 = .ok (.iconst 2, 1) := by decide +kernel
theorem d_L_law_663 : decode b_L_law 663 = .ok (.iadd, 1) := by decide +kernel
theorem d_L_law_664 : decode b_L_law 664 = .ok (.iaload, 1) := by decide +kernel
theorem d_L_law_665 : decode b_L_law 665 = .ok (.aload_n 0, 1) := by decide +kernel
theorem d_L_law_666 : decode b_L_law 666 = .ok (.iload 4, 2) := by decide +kernel
theorem d_L_law_668 : decode b_L_law 668 = .ok (.iconst 3, 1) := by decide +kernel
theorem d_L_law_669 : decode b_L_law 669 = .ok (.iadd, 1) := by decide +kernel
theorem d_L_law_670 : decode b_L_law 670 = .ok (.iaload, 1) := by decide +kernel
theorem d_L_law_671 : decode b_L_law 671 = .ok (.aload_n 3, 1) := by decide +kernel
theorem d_L_law_672 : decode b_L_law 672 = .ok (.invokestatic 117, 3) := by decide +kernel
theorem d_L_law_675 : decode b_L_law 675 = .ok (.istore 5, 2) := by decide +kernel
theorem d_L_law_677 : decode b_L_law 677 = .ok (.aload_n 2, 1) := by decide +kernel
theorem d_L_law_678 : decode b_L_law 678 = .ok (.aload_n 0, 1) := by decide +kernel
theorem d_L_law_679 : decode b_L_law 679 = .ok (.iload 4, 2) := by decide +kernel
theorem d_L_law_681 : decode b_L_law 681 = .ok (.iconst 1, 1) := by decide +kernel
theorem d_L_law_682 : decode b_L_law 682 = .ok (.iadd, 1) := by decide +kernel
end
section
theorem d_L_law_683 : decode b_L_law 683 = .ok (.iaload, 1) := by decide +kernel
theorem d_L_law_684 : decode b_L_law 684 = .ok (.aload_n 0, 1) := by decide +kernel
theorem d_L_law_685 : decode b_L_law 685 = .ok (.iload 4, 2) := by decide +kernel
theorem d_L_law_687 : decode b_L_law 687 = .ok (.iconst 2, 1) := by decide +kernel
theorem d_L_law_688 : decode b_L_law 688 = .ok (.iadd, 1) := by decide +kernel
theorem d_L_law_689 : decode b_L_law 689 = .ok (.iaload, 1) := by decide +kernel
theorem d_L_law_690 : decode b_L_law 690 = .ok (.aload_n 0, 1) := by decide +kernel
theorem d_L_law_691 : decode b_L_law 691 = .ok (.iload 4, 2) := by decide +kernel
theorem d_L_law_693 : decode b_L_law 693 = .ok (.iconst 3, 1) := by decide +kernel
theorem d_L_law_694 : decode b_L_law 694 = .ok (.iadd, 1) := by decide +kernel
theorem d_L_law_695 : decode b_L_law 695 = .ok (.iaload, 1) := by decide +kernel
theorem d_L_law_696 : decode b_L_law 696 = .ok (.invokevirtual 119, 3) := by decide +kernel
theorem d_L_law_699 : decode b_L_law 699 = .ok (.istore 6, 2) := by decide +kernel
theorem d_L_law_701 : decode b_L_law 701 = .ok (.aload_n 2, 1) := by decide +kernel
theorem d_L_law_702 : decode b_L_law 702 = .ok (.invokevirtual 92, 3) := by decide +kernel
theorem d_L_law_705 : decode b_L_law 705 = .ok (.iload 5, 2) := by decide +kernel
theorem d_L_law_707 : decode b_L_law 707 = .ok (.if_icmp .eq 5, 3) := by decide +kernel
theorem d_L_law_710 : decode b_L_law 710 = .ok (.iconst 0, 1) := by decide +kernel
theorem d_L_law_711 : decode b_L_law 711 = .ok (.ireturn, 1) := by decide +kernel
theorem d_L_law_712 : decode b_L_law 712 = .ok (.iload 5, 2) := by decide +kernel
theorem d_L_law_714 : decode b_L_law 714 = .ok (.ifCond .ne 15, 3) := by decide +kernel
theorem d_L_law_717 : decode b_L_law 717 = .ok (.aload_n 3, 1) := by decide +kernel
theorem d_L_law_718 : decode b_L_law 718 = .ok (.iconst 0, 1) := by decide +kernel
theorem d_L_law_719 : decode b_L_law 719 = .ok (.laload, 1) := by decide +kernel
theorem d_L_law_720 : decode b_L_law 720 = .ok (.iload 6, 2) := by decide +kernel
theorem d_L_law_722 : decode b_L_law 722 = .ok (.i2l, 1) := by decide +kernel
theorem d_L_law_723 : decode b_L_law 723 = .ok (.lcmp, 1) := by decide +kernel
theorem d_L_law_724 : decode b_L_law 724 = .ok (.ifCond .eq 5, 3) := by decide +kernel
theorem d_L_law_727 : decode b_L_law 727 = .ok (.iconst 0, 1) := by decide +kernel
theorem d_L_law_728 : decode b_L_law 728 = .ok (.ireturn, 1) := by decide +kernel
theorem d_L_law_729 : decode b_L_law 729 = .ok (.goto 840, 3) := by decide +kernel
theorem d_L_law_732 : decode b_L_law 732 = .ok (.aload_n 1, 1) := by decide +kernel
theorem d_L_law_733 : decode b_L_law 733 = .ok (.aload_n 0, 1) := by decide +kernel
theorem d_L_law_734 : decode b_L_law 734 = .ok (.iload 4, 2) := by decide +kernel
theorem d_L_law_736 : decode b_L_law 736 = .ok (.iconst 1, 1) := by decide +kernel
theorem d_L_law_737 : decode b_L_law 737 = .ok (.iadd, 1) := by decide +kernel
theorem d_L_law_738 : decode b_L_law 738 = .ok (.iaload, 1) := by decide +kernel
theorem d_L_law_739 : decode b_L_law 739 = .ok (.aload_n 0, 1) := by decide +kernel
theorem d_L_law_740 : decode b_L_law 740 = .ok (.iload 4, 2) := by decide +kernel
theorem d_L_law_742 : decode b_L_law 742 = .ok (.iconst 2, 1) := by decide +kernel
theorem d_L_law_743 : decode b_L_law 743 = .ok (.iadd, 1) := by decide +kernel
theorem d_L_law_744 : decode b_L_law 744 = .ok (.iaload, 1) := by decide +kernel
theorem d_L_law_745 : decode b_L_law 745 = .ok (.aload_n 0, 1) := by decide +kernel
theorem d_L_law_746 : decode b_L_law 746 = .ok (.iload 4, 2) := by decide +kernel
theorem d_L_law_748 : decode b_L_law 748 = .ok (.iconst 3, 1) := by decide +kernel
theorem d_L_law_749 : decode b_L_law 749 = .ok (.iadd, 1) := by decide +kernel
theorem d_L_law_750 : decode b_L_law 750 = .ok (.iaload, 1) := by decide +kernel
theorem d_L_law_751 : decode b_L_law 751 = .ok (.aload_n 0, 1) := by decide +kernel
theorem d_L_law_752 : decode b_L_law 752 = .ok (.iload 4, 2) := by decide +kernel
theorem d_L_law_754 : decode b_L_law 754 = .ok (.iconst 4, 1) := by decide +kernel
theorem d_L_law_755 : decode b_L_law 755 = .ok (.iadd, 1) := by decide +kernel
theorem d_L_law_756 : decode b_L_law 756 = .ok (.iaload, 1) := by decide +kernel
theorem d_L_law_757 : decode b_L_law 757 = .ok (.ifCond .eq 7, 3) := by decide +kernel
theorem d_L_law_760 : decode b_L_law 760 = .ok (.iconst 1, 1) := by decide +kernel
theorem d_L_law_761 : decode b_L_law 761 = .ok (.goto 4, 3) := by decide +kernel
theorem d_L_law_764 : decode b_L_law 764 = .ok (.iconst 0, 1) := by decide +kernel
theorem d_L_law_765 : decode b_L_law 765 = .ok (.aload_n 3, 1) := by decide +kernel
theorem d_L_law_766 : decode b_L_law 766 = .ok (.invokestatic 120, 3) := by decide +kernel
theorem d_L_law_769 : decode b_L_law 769 = .ok (.istore 5, 2) := by decide +kernel
theorem d_L_law_771 : decode b_L_law 771 = .ok (.aload_n 2, 1) := by decide +kernel
theorem d_L_law_772 : decode b_L_law 772 = .ok (.aload_n 0, 1) := by decide +kernel
theorem d_L_law_773 : decode b_L_law 773 = .ok (.iload 4, 2) := by decide +kernel
theorem d_L_law_775 : decode b_L_law 775 = .ok (.iconst 1, 1) := by decide +kernel
theorem d_L_law_776 : decode b_L_law 776 = .ok (.iadd, 1) := by decide +kernel
theorem d_L_law_777 : decode b_L_law 777 = .ok (.iaload, 1) := by decide +kernel
theorem d_L_law_778 : decode b_L_law 778 = .ok (.aload_n 0, 1) := by decide +kernel
theorem d_L_law_779 : decode b_L_law 779 = .ok (.iload 4, 2) := by decide +kernel
theorem d_L_law_781 : decode b_L_law 781 = .ok (.iconst 2, 1) := by decide +kernel
theorem d_L_law_782 : decode b_L_law 782 = .ok (.iadd, 1) := by decide +kernel
theorem d_L_law_783 : decode b_L_law 783 = .ok (.iaload, 1) := by decide +kernel
theorem d_L_law_784 : decode b_L_law 784 = .ok (.aload_n 0, 1) := by decide +kernel
theorem d_L_law_785 : decode b_L_law 785 = .ok (.iload 4, 2) := by decide +kernel
theorem d_L_law_787 : decode b_L_law 787 = .ok (.iconst 3, 1) := by decide +kernel
theorem d_L_law_788 : decode b_L_law 788 = .ok (.iadd, 1) := by decide +kernel
theorem d_L_law_789 : decode b_L_law 789 = .ok (.iaload, 1) := by decide +kernel
theorem d_L_law_790 : decode b_L_law 790 = .ok (.aload_n 0, 1) := by decide +kernel
theorem d_L_law_791 : decode b_L_law 791 = .ok (.iload 4, 2) := by decide +kernel
theorem d_L_law_793 : decode b_L_law 793 = .ok (.iconst 4, 1) := by decide +kernel
theorem d_L_law_794 : decode b_L_law 794 = .ok (.iadd, 1) := by decide +kernel
theorem d_L_law_795 : decode b_L_law 795 = .ok (.iaload, 1) := by decide +kernel
theorem d_L_law_796 : decode b_L_law 796 = .ok (.ifCond .eq 7, 3) := by decide +kernel
theorem d_L_law_799 : decode b_L_law 799 = .ok (.iconst 1, 1) := by decide +kernel
theorem d_L_law_800 : decode b_L_law 800 = .ok (.goto 4, 3) := by decide +kernel
theorem d_L_law_803 : decode b_L_law 803 = .ok (.iconst 0, 1) := by decide +kernel
theorem d_L_law_804 : decode b_L_law 804 = .ok (.invokevirtual 123, 3) := by decide +kernel
theorem d_L_law_807 : decode b_L_law 807 = .ok (.istore 6, 2) := by decide +kernel
theorem d_L_law_809 : decode b_L_law 809 = .ok (.aload_n 2, 1) := by decide +kernel
theorem d_L_law_810 : decode b_L_law 810 = .ok (.invokevirtual 92, 3) := by decide +kernel
theorem d_L_law_813 : decode b_L_law 813 = .ok (.iload 5, 2) := by decide +kernel
theorem d_L_law_815 : decode b_L_law 815 = .ok (.if_icmp .eq 5, 3) := by decide +kernel
theorem d_L_law_818 : decode b_L_law 818 = .ok (.iconst 0, 1) := by decide +kernel
theorem d_L_law_819 : decode b_L_law 819 = .ok (.ireturn, 1) := by decide +kernel
theorem d_L_law_820 : decode b_L_law 820 = .ok (.iload 5, 2) := by decide +kernel
theorem d_L_law_822 : decode b_L_law 822 = .ok (.ifCond .ne 15, 3) := by decide +kernel
theorem d_L_law_825 : decode b_L_law 825 = .ok (.aload_n 3, 1) := by decide +kernel
theorem d_L_law_826 : decode b_L_law 826 = .ok (.iconst 0, 1) := by decide +kernel
theorem d_L_law_827 : decode b_L_law 827 = .ok (.laload, 1) := by decide +kernel
theorem d_L_law_828 : decode b_L_law 828 = .ok (.iload 6, 2) := by decide +kernel
theorem d_L_law_830 : decode b_L_law 830 = .ok (.i2l, 1) := by decide +kernel
theorem d_L_law_831 : decode b_L_law 831 = .ok (.lcmp, 1) := by decide +kernel
theorem d_L_law_832 : decode b_L_law 832 = .ok (.ifCond .eq 5, 3) := by decide +kernel
theorem d_L_law_835 : decode b_L_law 835 = .ok (.iconst 0, 1) := by decide +kernel
theorem d_L_law_836 : decode b_L_law 836 = .ok (.ireturn, 1) := by decide +kernel
theorem d_L_law_837 : decode b_L_law 837 = .ok (.goto 732, 3) := by decide +kernel
theorem d_L_law_840 : decode b_L_law 840 = .ok (.aload_n 1, 1) := by decide +kernel
theorem d_L_law_841 : decode b_L_law 841 = .ok (.aload_n 0, 1) := by decide +kernel
theorem d_L_law_842 : decode b_L_law 842 = .ok (.iload 4, 2) := by decide +kernel
theorem d_L_law_844 : decode b_L_law 844 = .ok (.iconst 1, 1) := by decide +kernel
theorem d_L_law_845 : decode b_L_law 845 = .ok (.iadd, 1) := by decide +kernel
theorem d_L_law_846 : decode b_L_law 846 = .ok (.iaload, 1) := by decide +kernel
theorem d_L_law_847 : decode b_L_law 847 = .ok (.aload_n 0, 1) := by decide +kernel
theorem d_L_law_848 : decode b_L_law 848 = .ok (.iload 4, 2) := by decide +kernel
theorem d_L_law_850 : decode b_L_law 850 = .ok (.iconst 2, 1) := by decide +kernel
theorem d_L_law_851 : decode b_L_law 851 = .ok (.iadd, 1) := by decide +kernel
theorem d_L_law_852 : decode b_L_law 852 = .ok (.iaload, 1) := by decide +kernel
theorem d_L_law_853 : decode b_L_law 853 = .ok (.aload_n 0, 1) := by decide +kernel
theorem d_L_law_854 : decode b_L_law 854 = .ok (.iload 4, 2) := by decide +kernel
theorem d_L_law_856 : decode b_L_law 856 = .ok (.iconst 3, 1) := by decide +kernel
theorem d_L_law_857 : decode b_L_law 857 = .ok (.iadd, 1) := by decide +kernel
theorem d_L_law_858 : decode b_L_law 858 = .ok (.iaload, 1) := by decide +kernel
theorem d_L_law_859 : decode b_L_law 859 = .ok (.aload_n 0, 1) := by decide +kernel
theorem d_L_law_860 : decode b_L_law 860 = .ok (.iload 4, 2) := by decide +kernel
theorem d_L_law_862 : decode b_L_law 862 = .ok (.iconst 4, 1) := by decide +kernel
theorem d_L_law_863 : decode b_L_law 863 = .ok (.iadd, 1) := by decide +kernel
theorem d_L_law_864 : decode b_L_law 864 = .ok (.iaload, 1) := by decide +kernel
theorem d_L_law_865 : decode b_L_law 865 = .ok (.aload_n 3, 1) := by decide +kernel
theorem d_L_law_866 : decode b_L_law 866 = .ok (.invokestatic 124, 3) := by decide +kernel
theorem d_L_law_869 : decode b_L_law 869 = .ok (.istore 5, 2) := by decide +kernel
theorem d_L_law_871 : decode b_L_law 871 = .ok (.aload_n 2, 1) := by decide +kernel
theorem d_L_law_872 : decode b_L_law 872 = .ok (.aload_n 0, 1) := by decide +kernel
theorem d_L_law_873 : decode b_L_law 873 = .ok (.iload 4, 2) := by decide +kernel
theorem d_L_law_875 : decode b_L_law 875 = .ok (.iconst 1, 1) := by decide +kernel
theorem d_L_law_876 : decode b_L_law 876 = .ok (.iadd, 1) := by decide +kernel
theorem d_L_law_877 : decode b_L_law 877 = .ok (.iaload, 1) := by decide +kernel
theorem d_L_law_878 : decode b_L_law 878 = .ok (.aload_n 0, 1) := by decide +kernel
theorem d_L_law_879 : decode b_L_law 879 = .ok (.iload 4, 2) := by decide +kernel
theorem d_L_law_881 : decode b_L_law 881 = .ok (.iconst 2, 1) := by decide +kernel
theorem d_L_law_882 : decode b_L_law 882 = .ok (.iadd, 1) := by decide +kernel
theorem d_L_law_883 : decode b_L_law 883 = .ok (.iaload, 1) := by decide +kernel
theorem d_L_law_884 : decode b_L_law 884 = .ok (.aload_n 0, 1) := by decide +kernel
theorem d_L_law_885 : decode b_L_law 885 = .ok (.iload 4, 2) := by decide +kernel
theorem d_L_law_887 : decode b_L_law 887 = .ok (.iconst 3, 1) := by decide +kernel
theorem d_L_law_888 : decode b_L_law 888 = .ok (.iadd, 1) := by decide +kernel
theorem d_L_law_889 : decode b_L_law 889 = .ok (.iaload, 1) := by decide +kernel
theorem d_L_law_890 : decode b_L_law 890 = .ok (.aload_n 0, 1) := by decide +kernel
theorem d_L_law_891 : decode b_L_law 891 = .ok (.iload 4, 2) := by decide +kernel
theorem d_L_law_893 : decode b_L_law 893 = .ok (.iconst 4, 1) := by decide +kernel
theorem d_L_law_894 : decode b_L_law 894 = .ok (.iadd, 1) := by decide +kernel
theorem d_L_law_895 : decode b_L_law 895 = .ok (.iaload, 1) := by decide +kernel
theorem d_L_law_896 : decode b_L_law 896 = .ok (.invokevirtual 127, 3) := by decide +kernel
theorem d_L_law_899 : decode b_L_law 899 = .ok (.istore 6, 2) := by decide +kernel
theorem d_L_law_901 : decode b_L_law 901 = .ok (.aload_n 2, 1) := by decide +kernel
theorem d_L_law_902 : decode b_L_law 902 = .ok (.invokevirtual 92, 3) := by decide +kernel
theorem d_L_law_905 : decode b_L_law 905 = .ok (.iload 5, 2) := by decide +kernel
theorem d_L_law_907 : decode b_L_law 907 = .ok (.if_icmp .eq 5, 3) := by decide +kernel
theorem d_L_law_910 : decode b_L_law 910 = .ok (.iconst 0, 1) := by decide +kernel
theorem d_L_law_911 : decode b_L_law 911 = .ok (.ireturn, 1) := by decide +kernel
theorem d_L_law_912 : decode b_L_law 912 = .ok (.iload 5, 2) := by decide +kernel
theorem d_L_law_914 : decode b_L_law 914 = .ok (.ifCond .ne 15, 3) := by decide +kernel
theorem d_L_law_917 : decode b_L_law 917 = .ok (.aload_n 3, 1) := by decide +kernel
theorem d_L_law_918 : decode b_L_law 918 = .ok (.iconst 0, 1) := by decide +kernel
theorem d_L_law_919 : decode b_L_law 919 = .ok (.laload, 1) := by decide +kernel
theorem d_L_law_920 : decode b_L_law 920 = .ok (.iload 6, 2) := by decide +kernel
theorem d_L_law_922 : decode b_L_law 922 = .ok (.i2l, 1) := by decide +kernel
theorem d_L_law_923 : decode b_L_law 923 = .ok (.lcmp, 1) := by decide +kernel
theorem d_L_law_924 : decode b_L_law 924 = .ok (.ifCond .eq 5, 3) := by decide +kernel
theorem d_L_law_927 : decode b_L_law 927 = .ok (.iconst 0, 1) := by decide +kernel
theorem d_L_law_928 : decode b_L_law 928 = .ok (.ireturn, 1) := by decide +kernel
theorem d_L_law_929 : decode b_L_law 929 = .ok (.goto 640, 3) := by decide +kernel
theorem d_L_law_932 : decode b_L_law 932 = .ok (.aload_n 1, 1) := by decide +kernel
theorem d_L_law_933 : decode b_L_law 933 = .ok (.aload_n 0, 1) := by decide +kernel
theorem d_L_law_934 : decode b_L_law 934 = .ok (.iload 4, 2) := by decide +kernel
theorem d_L_law_936 : decode b_L_law 936 = .ok (.iconst 1, 1) := by decide +kernel
theorem d_L_law_937 : decode b_L_law 937 = .ok (.iadd, 1) := by decide +kernel
theorem d_L_law_938 : decode b_L_law 938 = .ok (.iaload, 1) := by decide +kernel
theorem d_L_law_939 : decode b_L_law 939 = .ok (.aload_n 0, 1) := by decide +kernel
theorem d_L_law_940 : decode b_L_law 940 = .ok (.iload 4, 2) := by decide +kernel
theorem d_L_law_942 : decode b_L_law 942 = .ok (.iconst 2, 1) := by decide +kernel
theorem d_L_law_943 : decode b_L_law 943 = .ok (.iadd, 1) := by decide +kernel
theorem d_L_law_944 : decode b_L_law 944 = .ok (.iaload, 1) := by decide +kernel
theorem d_L_law_945 : decode b_L_law 945 = .ok (.aload_n 0, 1) := by decide +kernel
theorem d_L_law_946 : decode b_L_law 946 = .ok (.iload 4, 2) := by decide +kernel
theorem d_L_law_948 : decode b_L_law 948 = .ok (.iconst 3, 1) := by decide +kernel
theorem d_L_law_949 : decode b_L_law 949 = .ok (.iadd, 1) := by decide +kernel
theorem d_L_law_950 : decode b_L_law 950 = .ok (.iaload, 1) := by decide +kernel
theorem d_L_law_951 : decode b_L_law 951 = .ok (.aload_n 3, 1) := by decide +kernel
theorem d_L_law_952 : decode b_L_law 952 = .ok (.invokestatic 128, 3) := by decide +kernel
theorem d_L_law_955 : decode b_L_law 955 = .ok (.istore 5, 2) := by decide +kernel
theorem d_L_law_957 : decode b_L_law 957 = .ok (.aload_n 2, 1) := by decide +kernel
theorem d_L_law_958 : decode b_L_law 958 = .ok (.aload_n 0, 1) := by decide +kernel
theorem d_L_law_959 : decode b_L_law 959 = .ok (.iload 4, 2) := by decide +kernel
theorem d_L_law_961 : decode b_L_law 961 = .ok (.iconst 1, 1) := by decide +kernel
theorem d_L_law_962 : decode b_L_law 962 = .ok (.iadd, 1) := by decide +kernel
theorem d_L_law_963 : decode b_L_law 963 = .ok (.iaload, 1) := by decide +kernel
theorem d_L_law_964 : decode b_L_law 964 = .ok (.aload_n 0, 1) := by decide +kernel
theorem d_L_law_965 : decode b_L_law 965 = .ok (.iload 4, 2) := by decide +kernel
theorem d_L_law_967 : decode b_L_law 967 = .ok (.iconst 2, 1) := by decide +kernel
theorem d_L_law_968 : decode b_L_law 968 = .ok (.iadd, 1) := by decide +kernel
theorem d_L_law_969 : decode b_L_law 969 = .ok (.iaload, 1) := by decide +kernel
theorem d_L_law_970 : decode b_L_law 970 = .ok (.aload_n 0, 1) := by decide +kernel
theorem d_L_law_971 : decode b_L_law 971 = .ok (.iload 4, 2) := by decide +kernel
theorem d_L_law_973 : decode b_L_law 973 = .ok (.iconst 3, 1) := by decide +kernel
theorem d_L_law_974 : decode b_L_law 974 = .ok (.iadd, 1) := by decide +kernel
theorem d_L_law_975 : decode b_L_law 975 = .ok (.iaload, 1) := by decide +kernel
theorem d_L_law_976 : decode b_L_law 976 = .ok (.invokevirtual 130, 3) := by decide +kernel
theorem d_L_law_979 : decode b_L_law 979 = .ok (.istore 6, 2) := by decide +kernel
theorem d_L_law_981 : decode b_L_law 981 = .ok (.aload_n 2, 1) := by decide +kernel
theorem d_L_law_982 : decode b_L_law 982 = .ok (.invokevirtual 92, 3) := by decide +kernel
theorem d_L_law_985 : decode b_L_law 985 = .ok (.iload 5, 2) := by decide +kernel
theorem d_L_law_987 : decode b_L_law 987 = .ok (.if_icmp .eq 5, 3) := by decide +kernel
theorem d_L_law_990 : decode b_L_law 990 = .ok (.iconst 0, 1) := by decide +kernel
theorem d_L_law_991 : decode b_L_law 991 = .ok (.ireturn, 1) := by decide +kernel
theorem d_L_law_992 : decode b_L_law 992 = .ok (.iload 5, 2) := by decide +kernel
theorem d_L_law_994 : decode b_L_law 994 = .ok (.ifCond .ne 15, 3) := by decide +kernel
theorem d_L_law_997 : decode b_L_law 997 = .ok (.aload_n 3, 1) := by decide +kernel
theorem d_L_law_998 : decode b_L_law 998 = .ok (.iconst 0, 1) := by decide +kernel
theorem d_L_law_999 : decode b_L_law 999 = .ok (.laload, 1) := by decide +kernel
theorem d_L_law_1000 : decode b_L_law 1000 = .ok (.iload 6, 2) := by decide +kernel
theorem d_L_law_1002 : decode b_L_law 1002 = .ok (.i2l, 1) := by decide +kernel
theorem d_L_law_1003 : decode b_L_law 1003 = .ok (.lcmp, 1) := by decide +kernel
theorem d_L_law_1004 : decode b_L_law 1004 = .ok (.ifCond .eq 5, 3) := by decide +kernel
theorem d_L_law_1007 : decode b_L_law 1007 = .ok (.iconst 0, 1) := by decide +kernel
theorem d_L_law_1008 : decode b_L_law 1008 = .ok (.ireturn, 1) := by decide +kernel
theorem d_L_law_1009 : decode b_L_law 1009 = .ok (.goto 560, 3) := by decide +kernel
theorem d_L_law_1012 : decode b_L_law 1012 = .ok (.aload_n 1, 1) := by decide +kernel
theorem d_L_law_1013 : decode b_L_law 1013 = .ok (.aload_n 0, 1) := by decide +kernel
theorem d_L_law_1014 : decode b_L_law 1014 = .ok (.iload 4, 2) := by decide +kernel
theorem d_L_law_1016 : decode b_L_law 1016 = .ok (.iconst 1, 1) := by decide +kernel
theorem d_L_law_1017 : decode b_L_law 1017 = .ok (.iadd, 1) := by decide +kernel
theorem d_L_law_1018 : decode b_L_law 1018 = .ok (.iaload, 1) := by decide +kernel
theorem d_L_law_1019 : decode b_L_law 1019 = .ok (.aload_n 0, 1) := by decide +kernel
theorem d_L_law_1020 : decode b_L_law 1020 = .ok (.iload 4, 2) := by decide +kernel
theorem d_L_law_1022 : decode b_L_law 1022 = .ok (.iconst 2, 1) := by decide +kernel
theorem d_L_law_1023 : decode b_L_law 1023 = .ok (.iadd, 1) := by decide +kernel
theorem d_L_law_1024 : decode b_L_law 1024 = .ok (.iaload, 1) := by decide +kernel
theorem d_L_law_1025 : decode b_L_law 1025 = .ok (.aload_n 0, 1) := by decide +kernel
theorem d_L_law_1026 : decode b_L_law 1026 = .ok (.iload 4, 2) := by decide +kernel
theorem d_L_law_1028 : decode b_L_law 1028 = .ok (.iconst 3, 1) := by decide +kernel
theorem d_L_law_1029 : decode b_L_law 1029 = .ok (.iadd, 1) := by decide +kernel
theorem d_L_law_1030 : decode b_L_law 1030 = .ok (.iaload, 1) := by decide +kernel
theorem d_L_law_1031 : decode b_L_law 1031 = .ok (.aload_n 3, 1) := by decide +kernel
theorem d_L_law_1032 : decode b_L_law 1032 = .ok (.invokestatic 131, 3) := by decide +kernel
theorem d_L_law_1035 : decode b_L_law 1035 = .ok (.istore 5, 2) := by decide +kernel
theorem d_L_law_1037 : decode b_L_law 1037 = .ok (.aload_n 2, 1) := by decide +kernel
theorem d_L_law_1038 : decode b_L_law 1038 = .ok (.aload_n 0, 1) := by decide +kernel
theorem d_L_law_1039 : decode b_L_law 1039 = .ok (.iload 4, 2) := by decide +kernel
theorem d_L_law_1041 : decode b_L_law 1041 = .ok (.iconst 1, 1) := by decide +kernel
theorem d_L_law_1042 : decode b_L_law 1042 = .ok (.iadd, 1) := by decide +kernel
theorem d_L_law_1043 : decode b_L_law 1043 = .ok (.iaload, 1) := by decide +kernel
theorem d_L_law_1044 : decode b_L_law 1044 = .ok (.aload_n 0, 1) := by decide +kernel
theorem d_L_law_1045 : decode b_L_law 1045 = .ok (.iload 4, 2) := by decide +kernel
theorem d_L_law_1047 : decode b_L_law 1047 = .ok (.iconst 2, 1) := by decide +kernel
theorem d_L_law_1048 : decode b_L_law 1048 = .ok (.iadd, 1) := by decide +kernel
theorem d_L_law_1049 : decode b_L_law 1049 = .ok (.iaload, 1) := by decide +kernel
theorem d_L_law_1050 : decode b_L_law 1050 = .ok (.aload_n 0, 1) := by decide +kernel
theorem d_L_law_1051 : decode b_L_law 1051 = .ok (.iload 4, 2) := by decide +kernel
theorem d_L_law_1053 : decode b_L_law 1053 = .ok (.iconst 3, 1) := by decide +kernel
theorem d_L_law_1054 : decode b_L_law 1054 = .ok (.iadd, 1) := by decide +kernel
theorem d_L_law_1055 : decode b_L_law 1055 = .ok (.iaload, 1) := by decide +kernel
theorem d_L_law_1056 : decode b_L_law 1056 = .ok (.invokevirtual 133, 3) := by decide +kernel
theorem d_L_law_1059 : decode b_L_law 1059 = .ok (.istore 6, 2) := by decide +kernel
theorem d_L_law_1061 : decode b_L_law 1061 = .ok (.aload_n 2, 1) := by decide +kernel
theorem d_L_law_1062 : decode b_L_law 1062 = .ok (.invokevirtual 92, 3) := by decide +kernel
theorem d_L_law_1065 : decode b_L_law 1065 = .ok (.iload 5, 2) := by decide +kernel
theorem d_L_law_1067 : decode b_L_law 1067 = .ok (.if_icmp .eq 5, 3) := by decide +kernel
theorem d_L_law_1070 : decode b_L_law 1070 = .ok (.iconst 0, 1) := by decide +kernel
theorem d_L_law_1071 : decode b_L_law 1071 = .ok (.ireturn, 1) := by decide +kernel
theorem d_L_law_1072 : decode b_L_law 1072 = .ok (.iload 5, 2) := by decide +kernel
theorem d_L_law_1074 : decode b_L_law 1074 = .ok (.ifCond .ne 15, 3) := by decide +kernel
theorem d_L_law_1077 : decode b_L_law 1077 = .ok (.aload_n 3, 1) := by decide +kernel
theorem d_L_law_1078 : decode b_L_law 1078 = .ok (.iconst 0, 1) := by decide +kernel
theorem d_L_law_1079 : decode b_L_law 1079 = .ok (.laload, 1) := by decide +kernel
theorem d_L_law_1080 : decode b_L_law 1080 = .ok (.iload 6, 2) := by decide +kernel
theorem d_L_law_1082 : decode b_L_law 1082 = .ok (.i2l, 1) := by decide +kernel
theorem d_L_law_1083 : decode b_L_law 1083 = .ok (.lcmp, 1) := by decide +kernel
theorem d_L_law_1084 : decode b_L_law 1084 = .ok (.ifCond .eq 5, 3) := by decide +kernel
theorem d_L_law_1087 : decode b_L_law 1087 = .ok (.iconst 0, 1) := by decide +kernel
theorem d_L_law_1088 : decode b_L_law 1088 = .ok (.ireturn, 1) := by decide +kernel
theorem d_L_law_1089 : decode b_L_law 1089 = .ok (.goto 480, 3) := by decide +kernel
theorem d_L_law_1092 : decode b_L_law 1092 = .ok (.aload_n 1, 1) := by decide +kernel
theorem d_L_law_1093 : decode b_L_law 1093 = .ok (.aload_n 0, 1) := by decide +kernel
theorem d_L_law_1094 : decode b_L_law 1094 = .ok (.iload 4, 2) := by decide +kernel
theorem d_L_law_1096 : decode b_L_law 1096 = .ok (.iconst 1, 1) := by decide +kernel
theorem d_L_law_1097 : decode b_L_law 1097 = .ok (.iadd, 1) := by decide +kernel
theorem d_L_law_1098 : decode b_L_law 1098 = .ok (.iaload, 1) := by decide +kernel
theorem d_L_law_1099 : decode b_L_law 1099 = .ok (.aload_n 0, 1) := by decide +kernel
theorem d_L_law_1100 : decode b_L_law 1100 = .ok (.iload 4, 2) := by decide +kernel
theorem d_L_law_1102 : decode b_L_law 1102 = .ok (.iconst 2, 1) := by decide +kernel
theorem d_L_law_1103 : decode b_L_law 1103 = .ok (.iadd, 1) := by decide +kernel
theorem d_L_law_1104 : decode b_L_law 1104 = .ok (.iaload, 1) := by decide +kernel
theorem d_L_law_1105 : decode b_L_law 1105 = .ok (.aload_n 0, 1) := by decide +kernel
theorem d_L_law_1106 : decode b_L_law 1106 = .ok (.iload 4, 2) := by decide +kernel
theorem d_L_law_1108 : decode b_L_law 1108 = .ok (.iconst 3, 1) := by decide +kernel
theorem d_L_law_1109 : decode b_L_law 1109 = .ok (.iadd, 1) := by decide +kernel
theorem d_L_law_1110 : decode b_L_law 1110 = .ok (.iaload, 1) := by decide +kernel
theorem d_L_law_1111 : decode b_L_law 1111 = .ok (.aload_n 3, 1) := by decide +kernel
theorem d_L_law_1112 : decode b_L_law 1112 = .ok (.invokestatic 134, 3) := by decide +kernel
theorem d_L_law_1115 : decode b_L_law 1115 = .ok (.istore 5, 2) := by decide +kernel
theorem d_L_law_1117 : decode b_L_law 1117 = .ok (.aload_n 2, 1) := by decide +kernel
theorem d_L_law_1118 : decode b_L_law 1118 = .ok (.aload_n 0, 1) := by decide +kernel
theorem d_L_law_1119 : decode b_L_law 1119 = .ok (.iload 4, 2) := by decide +kernel
theorem d_L_law_1121 : decode b_L_law 1121 = .ok (.iconst 1, 1) := by decide +kernel
theorem d_L_law_1122 : decode b_L_law 1122 = .ok (.iadd, 1) := by decide +kernel
theorem d_L_law_1123 : decode b_L_law 1123 = .ok (.iaload, 1) := by decide +kernel
theorem d_L_law_1124 : decode b_L_law 1124 = .ok (.aload_n 0, 1) := by decide +kernel
theorem d_L_law_1125 : decode b_L_law 1125 = .ok (.iload 4, 2) := by decide +kernel
theorem d_L_law_1127 : decode b_L_law 1127 = .ok (.iconst 2, 1) := by decide +kernel
theorem d_L_law_1128 : decode b_L_law 1128 = .ok (.iadd, 1) := by decide +kernel
theorem d_L_law_1129 : decode b_L_law 1129 = .ok (.iaload, 1) := by decide +kernel
theorem d_L_law_1130 : decode b_L_law 1130 = .ok (.aload_n 0, 1) := by decide +kernel
theorem d_L_law_1131 : decode b_L_law 1131 = .ok (.iload 4, 2) := by decide +kernel
theorem d_L_law_1133 : decode b_L_law 1133 = .ok (.iconst 3, 1) := by decide +kernel
theorem d_L_law_1134 : decode b_L_law 1134 = .ok (.iadd, 1) := by decide +kernel
theorem d_L_law_1135 : decode b_L_law 1135 = .ok (.iaload, 1) := by decide +kernel
theorem d_L_law_1136 : decode b_L_law 1136 = .ok (.invokevirtual 136, 3) := by decide +kernel
theorem d_L_law_1139 : decode b_L_law 1139 = .ok (.istore 6, 2) := by decide +kernel
theorem d_L_law_1141 : decode b_L_law 1141 = .ok (.aload_n 2, 1) := by decide +kernel
theorem d_L_law_1142 : decode b_L_law 1142 = .ok (.invokevirtual 92, 3) := by decide +kernel
theorem d_L_law_1145 : decode b_L_law 1145 = .ok (.iload 5, 2) := by decide +kernel
theorem d_L_law_1147 : decode b_L_law 1147 = .ok (.if_icmp .eq 5, 3) := by decide +kernel
theorem d_L_law_1150 : decode b_L_law 1150 = .ok (.iconst 0, 1) := by decide +kernel
theorem d_L_law_1151 : decode b_L_law 1151 = .ok (.ireturn, 1) := by decide +kernel
theorem d_L_law_1152 : decode b_L_law 1152 = .ok (.iload 5, 2) := by decide +kernel
theorem d_L_law_1154 : decode b_L_law 1154 = .ok (.ifCond .ne 15, 3) := by decide +kernel
theorem d_L_law_1157 : decode b_L_law 1157 = .ok (.aload_n 3, 1) := by decide +kernel
theorem d_L_law_1158 : decode b_L_law 1158 = .ok (.iconst 0, 1) := by decide +kernel
theorem d_L_law_1159 : decode b_L_law 1159 = .ok (.laload, 1) := by decide +kernel
theorem d_L_law_1160 : decode b_L_law 1160 = .ok (.iload 6, 2) := by decide +kernel
theorem d_L_law_1162 : decode b_L_law 1162 = .ok (.i2l, 1) := by decide +kernel
theorem d_L_law_1163 : decode b_L_law 1163 = .ok (.lcmp, 1) := by decide +kernel
theorem d_L_law_1164 : decode b_L_law 1164 = .ok (.ifCond .eq 5, 3) := by decide +kernel
theorem d_L_law_1167 : decode b_L_law 1167 = .ok (.iconst 0, 1) := by decide +kernel
theorem d_L_law_1168 : decode b_L_law 1168 = .ok (.ireturn, 1) := by decide +kernel
theorem d_L_law_1169 : decode b_L_law 1169 = .ok (.goto 400, 3) := by decide +kernel
theorem d_L_law_1172 : decode b_L_law 1172 = .ok (.aload_n 1, 1) := by decide +kernel
theorem d_L_law_1173 : decode b_L_law 1173 = .ok (.aload_n 0, 1) := by decide +kernel
theorem d_L_law_1174 : decode b_L_law 1174 = .ok (.iload 4, 2) := by decide +kernel
theorem d_L_law_1176 : decode b_L_law 1176 = .ok (.iconst 1, 1) := by decide +kernel
theorem d_L_law_1177 : decode b_L_law 1177 = .ok (.iadd, 1) := by decide +kernel
theorem d_L_law_1178 : decode b_L_law 1178 = .ok (.iaload, 1) := by decide +kernel
theorem d_L_law_1179 : decode b_L_law 1179 = .ok (.aload_n 0, 1) := by decide +kernel
theorem d_L_law_1180 : decode b_L_law 1180 = .ok (.iload 4, 2) := by decide +kernel
theorem d_L_law_1182 : decode b_L_law 1182 = .ok (.iconst 2, 1) := by decide +kernel
theorem d_L_law_1183 : decode b_L_law 1183 = .ok (.iadd, 1) := by decide +kernel
theorem d_L_law_1184 : decode b_L_law 1184 = .ok (.iaload, 1) := by decide +kernel
theorem d_L_law_1185 : decode b_L_law 1185 = .ok (.aload_n 3, 1) := by decide +kernel
theorem d_L_law_1186 : decode b_L_law 1186 = .ok (.invokestatic 137, 3) := by decide +kernel
theorem d_L_law_1189 : decode b_L_law 1189 = .ok (.istore 5, 2) := by decide +kernel
theorem d_L_law_1191 : decode b_L_law 1191 = .ok (.aload_n 2, 1) := by decide +kernel
theorem d_L_law_1192 : decode b_L_law 1192 = .ok (.aload_n 0, 1) := by decide +kernel
theorem d_L_law_1193 : decode b_L_law 1193 = .ok (.iload 4, 2) := by decide +kernel
theorem d_L_law_1195 : decode b_L_law 1195 = .ok (.iconst 1, 1) := by decide +kernel
theorem d_L_law_1196 : decode b_L_law 1196 = .ok (.iadd, 1) := by decide +kernel
theorem d_L_law_1197 : decode b_L_law 1197 = .ok (.iaload, 1) := by decide +kernel
theorem d_L_law_1198 : decode b_L_law 1198 = .ok (.aload_n 0, 1) := by decide +kernel
theorem d_L_law_1199 : decode b_L_law 1199 = .ok (.iload 4, 2) := by decide +kernel
theorem d_L_law_1201 : decode b_L_law 1201 = .ok (.iconst 2, 1) := by decide +kernel
theorem d_L_law_1202 : decode b_L_law 1202 = .ok (.iadd, 1) := by decide +kernel
theorem d_L_law_1203 : decode b_L_law 1203 = .ok (.iaload, 1) := by decide +kernel
theorem d_L_law_1204 : decode b_L_law 1204 = .ok (.invokevirtual 139, 3) := by decide +kernel
theorem d_L_law_1207 : decode b_L_law 1207 = .ok (.istore 6, 2) := by decide +kernel
theorem d_L_law_1209 : decode b_L_law 1209 = .ok (.aload_n 2, 1) := by decide +kernel
theorem d_L_law_1210 : decode b_L_law 1210 = .ok (.invokevirtual 92, 3) := by decide +kernel
theorem d_L_law_1213 : decode b_L_law 1213 = .ok (.iload 5, 2) := by decide +kernel
theorem d_L_law_1215 : decode b_L_law 1215 = .ok (.if_icmp .eq 5, 3) := by decide +kernel
theorem d_L_law_1218 : decode b_L_law 1218 = .ok (.iconst 0, 1) := by decide +kernel
theorem d_L_law_1219 : decode b_L_law 1219 = .ok (.ireturn, 1) := by decide +kernel
theorem d_L_law_1220 : decode b_L_law 1220 = .ok (.iload 5, 2) := by decide +kernel
theorem d_L_law_1222 : decode b_L_law 1222 = .ok (.ifCond .ne 15, 3) := by decide +kernel
theorem d_L_law_1225 : decode b_L_law 1225 = .ok (.aload_n 3, 1) := by decide +kernel
theorem d_L_law_1226 : decode b_L_law 1226 = .ok (.iconst 0, 1) := by decide +kernel
theorem d_L_law_1227 : decode b_L_law 1227 = .ok (.laload, 1) := by decide +kernel
theorem d_L_law_1228 : decode b_L_law 1228 = .ok (.iload 6, 2) := by decide +kernel
theorem d_L_law_1230 : decode b_L_law 1230 = .ok (.i2l, 1) := by decide +kernel
theorem d_L_law_1231 : decode b_L_law 1231 = .ok (.lcmp, 1) := by decide +kernel
theorem d_L_law_1232 : decode b_L_law 1232 = .ok (.ifCond .eq 5, 3) := by decide +kernel
theorem d_L_law_1235 : decode b_L_law 1235 = .ok (.iconst 0, 1) := by decide +kernel
theorem d_L_law_1236 : decode b_L_law 1236 = .ok (.ireturn, 1) := by decide +kernel
theorem d_L_law_1237 : decode b_L_law 1237 = .ok (.goto 332, 3) := by decide +kernel
theorem d_L_law_1240 : decode b_L_law 1240 = .ok (.aload_n 1, 1) := by decide +kernel
theorem d_L_law_1241 : decode b_L_law 1241 = .ok (.aload_n 0, 1) := by decide +kernel
theorem d_L_law_1242 : decode b_L_law 1242 = .ok (.iload 4, 2) := by decide +kernel
theorem d_L_law_1244 : decode b_L_law 1244 = .ok (.iconst 1, 1) := by decide +kernel
theorem d_L_law_1245 : decode b_L_law 1245 = .ok (.iadd, 1) := by decide +kernel
theorem d_L_law_1246 : decode b_L_law 1246 = .ok (.iaload, 1) := by decide +kernel
theorem d_L_law_1247 : decode b_L_law 1247 = .ok (.aload_n 3, 1) := by decide +kernel
theorem d_L_law_1248 : decode b_L_law 1248 = .ok (.invokestatic 140, 3) := by decide +kernel
theorem d_L_law_1251 : decode b_L_law 1251 = .ok (.istore 5, 2) := by decide +kernel
theorem d_L_law_1253 : decode b_L_law 1253 = .ok (.aload_n 2, 1) := by decide +kernel
theorem d_L_law_1254 : decode b_L_law 1254 = .ok (.aload_n 0, 1) := by decide +kernel
theorem d_L_law_1255 : decode b_L_law 1255 = .ok (.iload 4, 2) := by decide +kernel
theorem d_L_law_1257 : decode b_L_law 1257 = .ok (.iconst 1, 1) := by decide +kernel
theorem d_L_law_1258 : decode b_L_law 1258 = .ok (.iadd, 1) := by decide +kernel
theorem d_L_law_1259 : decode b_L_law 1259 = .ok (.iaload, 1) := by decide +kernel
theorem d_L_law_1260 : decode b_L_law 1260 = .ok (.invokevirtual 142, 3) := by decide +kernel
theorem d_L_law_1263 : decode b_L_law 1263 = .ok (.istore 6, 2) := by decide +kernel
theorem d_L_law_1265 : decode b_L_law 1265 = .ok (.aload_n 2, 1) := by decide +kernel
theorem d_L_law_1266 : decode b_L_law 1266 = .ok (.invokevirtual 92, 3) := by decide +kernel
theorem d_L_law_1269 : decode b_L_law 1269 = .ok (.iload 5, 2) := by decide +kernel
theorem d_L_law_1271 : decode b_L_law 1271 = .ok (.if_icmp .eq 5, 3) := by decide +kernel
theorem d_L_law_1274 : decode b_L_law 1274 = .ok (.iconst 0, 1) := by decide +kernel
theorem d_L_law_1275 : decode b_L_law 1275 = .ok (.ireturn, 1) := by decide +kernel
theorem d_L_law_1276 : decode b_L_law 1276 = .ok (.iload 5, 2) := by decide +kernel
theorem d_L_law_1278 : decode b_L_law 1278 = .ok (.ifCond .ne 15, 3) := by decide +kernel
theorem d_L_law_1281 : decode b_L_law 1281 = .ok (.aload_n 3, 1) := by decide +kernel
theorem d_L_law_1282 : decode b_L_law 1282 = .ok (.iconst 0, 1) := by decide +kernel
theorem d_L_law_1283 : decode b_L_law 1283 = .ok (.laload, 1) := by decide +kernel
theorem d_L_law_1284 : decode b_L_law 1284 = .ok (.iload 6, 2) := by decide +kernel
theorem d_L_law_1286 : decode b_L_law 1286 = .ok (.i2l, 1) := by decide +kernel
theorem d_L_law_1287 : decode b_L_law 1287 = .ok (.lcmp, 1) := by decide +kernel
theorem d_L_law_1288 : decode b_L_law 1288 = .ok (.ifCond .eq 5, 3) := by decide +kernel
theorem d_L_law_1291 : decode b_L_law 1291 = .ok (.iconst 0, 1) := by decide +kernel
theorem d_L_law_1292 : decode b_L_law 1292 = .ok (.ireturn, 1) := by decide +kernel
theorem d_L_law_1293 : decode b_L_law 1293 = .ok (.goto 276, 3) := by decide +kernel
theorem d_L_law_1296 : decode b_L_law 1296 = .ok (.aload_n 1, 1) := by decide +kernel
theorem d_L_law_1297 : decode b_L_law 1297 = .ok (.aload_n 0, 1) := by decide +kernel
theorem d_L_law_1298 : decode b_L_law 1298 = .ok (.iload 4, 2) := by decide +kernel
theorem d_L_law_1300 : decode b_L_law 1300 = .ok (.iconst 1, 1) := by decide +kernel
theorem d_L_law_1301 : decode b_L_law 1301 = .ok (.iadd, 1) := by decide +kernel
theorem d_L_law_1302 : decode b_L_law 1302 = .ok (.iaload, 1) := by decide +kernel
theorem d_L_law_1303 : decode b_L_law 1303 = .ok (.aload_n 3, 1) := by decide +kernel
theorem d_L_law_1304 : decode b_L_law 1304 = .ok (.invokestatic 143, 3) := by decide +kernel
theorem d_L_law_1307 : decode b_L_law 1307 = .ok (.istore 5, 2) := by decide +kernel
theorem d_L_law_1309 : decode b_L_law 1309 = .ok (.aload_n 2, 1) := by decide +kernel
theorem d_L_law_1310 : decode b_L_law 1310 = .ok (.aload_n 0, 1) := by decide +kernel
theorem d_L_law_1311 : decode b_L_law 1311 = .ok (.iload 4, 2) := by decide +kernel
theorem d_L_law_1313 : decode b_L_law 1313 = .ok (.iconst 1, 1) := by decide +kernel
theorem d_L_law_1314 : decode b_L_law 1314 = .ok (.iadd, 1) := by decide +kernel
theorem d_L_law_1315 : decode b_L_law 1315 = .ok (.iaload, 1) := by decide +kernel
theorem d_L_law_1316 : decode b_L_law 1316 = .ok (.invokevirtual 145, 3) := by decide +kernel
theorem d_L_law_1319 : decode b_L_law 1319 = .ok (.istore 6, 2) := by decide +kernel
theorem d_L_law_1321 : decode b_L_law 1321 = .ok (.aload_n 2, 1) := by decide +kernel
theorem d_L_law_1322 : decode b_L_law 1322 = .ok (.invokevirtual 92, 3) := by decide +kernel
theorem d_L_law_1325 : decode b_L_law 1325 = .ok (.iload 5, 2) := by decide +kernel
theorem d_L_law_1327 : decode b_L_law 1327 = .ok (.if_icmp .eq 5, 3) := by decide +kernel
theorem d_L_law_1330 : decode b_L_law 1330 = .ok (.iconst 0, 1) := by decide +kernel
theorem d_L_law_1331 : decode b_L_law 1331 = .ok (.ireturn, 1) := by decide +kernel
theorem d_L_law_1332 : decode b_L_law 1332 = .ok (.iload 5, 2) := by decide +kernel
theorem d_L_law_1334 : decode b_L_law 1334 = .ok (.ifCond .ne 15, 3) := by decide +kernel
theorem d_L_law_1337 : decode b_L_law 1337 = .ok (.aload_n 3, 1) := by decide +kernel
theorem d_L_law_1338 : decode b_L_law 1338 = .ok (.iconst 0, 1) := by decide +kernel
theorem d_L_law_1339 : decode b_L_law 1339 = .ok (.laload, 1) := by decide +kernel
theorem d_L_law_1340 : decode b_L_law 1340 = .ok (.iload 6, 2) := by decide +kernel
theorem d_L_law_1342 : decode b_L_law 1342 = .ok (.i2l, 1) := by decide +kernel
theorem d_L_law_1343 : decode b_L_law 1343 = .ok (.lcmp, 1) := by decide +kernel
theorem d_L_law_1344 : decode b_L_law 1344 = .ok (.ifCond .eq 5, 3) := by decide +kernel
theorem d_L_law_1347 : decode b_L_law 1347 = .ok (.iconst 0, 1) := by decide +kernel
theorem d_L_law_1348 : decode b_L_law 1348 = .ok (.ireturn, 1) := by decide +kernel
theorem d_L_law_1349 : decode b_L_law 1349 = .ok (.goto 220, 3) := by decide +kernel
theorem d_L_law_1352 : decode b_L_law 1352 = .ok (.aload_n 1, 1) := by decide +kernel
theorem d_L_law_1353 : decode b_L_law 1353 = .ok (.aload_n 0, 1) := by decide +kernel
theorem d_L_law_1354 : decode b_L_law 1354 = .ok (.iload 4, 2) := by decide +kernel
theorem d_L_law_1356 : decode b_L_law 1356 = .ok (.iconst 1, 1) := by decide +kernel
theorem d_L_law_1357 : decode b_L_law 1357 = .ok (.iadd, 1) := by decide +kernel
theorem d_L_law_1358 : decode b_L_law 1358 = .ok (.iaload, 1) := by decide +kernel
theorem d_L_law_1359 : decode b_L_law 1359 = .ok (.aload_n 0, 1) := by decide +kernel
theorem d_L_law_1360 : decode b_L_law 1360 = .ok (.iload 4, 2) := by decide +kernel
theorem d_L_law_1362 : decode b_L_law 1362 = .ok (.iconst 2, 1) := by decide +kernel
theorem d_L_law_1363 : decode b_L_law 1363 = .ok (.iadd, 1) := by decide +kernel
theorem d_L_law_1364 : decode b_L_law 1364 = .ok (.iaload, 1) := by decide +kernel
theorem d_L_law_1365 : decode b_L_law 1365 = .ok (.aload_n 3, 1) := by decide +kernel
theorem d_L_law_1366 : decode b_L_law 1366 = .ok (.invokestatic 146, 3) := by decide +kernel
theorem d_L_law_1369 : decode b_L_law 1369 = .ok (.istore 5, 2) := by decide +kernel
theorem d_L_law_1371 : decode b_L_law 1371 = .ok (.aload_n 2, 1) := by decide +kernel
theorem d_L_law_1372 : decode b_L_law 1372 = .ok (.aload_n 0, 1) := by decide +kernel
theorem d_L_law_1373 : decode b_L_law 1373 = .ok (.iload 4, 2) := by decide +kernel
theorem d_L_law_1375 : decode b_L_law 1375 = .ok (.iconst 1, 1) := by decide +kernel
theorem d_L_law_1376 : decode b_L_law 1376 = .ok (.iadd, 1) := by decide +kernel
theorem d_L_law_1377 : decode b_L_law 1377 = .ok (.iaload, 1) := by decide +kernel
theorem d_L_law_1378 : decode b_L_law 1378 = .ok (.aload_n 0, 1) := by decide +kernel
theorem d_L_law_1379 : decode b_L_law 1379 = .ok (.iload 4, 2) := by decide +kernel
theorem d_L_law_1381 : decode b_L_law 1381 = .ok (.iconst 2, 1) := by decide +kernel
theorem d_L_law_1382 : decode b_L_law 1382 = .ok (.iadd, 1) := by decide +kernel
theorem d_L_law_1383 : decode b_L_law 1383 = .ok (.iaload, 1) := by decide +kernel
theorem d_L_law_1384 : decode b_L_law 1384 = .ok (.invokevirtual 148, 3) := by decide +kernel
theorem d_L_law_1387 : decode b_L_law 1387 = .ok (.istore 6, 2) := by decide +kernel
theorem d_L_law_1389 : decode b_L_law 1389 = .ok (.aload_n 2, 1) := by decide +kernel
theorem d_L_law_1390 : decode b_L_law 1390 = .ok (.invokevirtual 92, 3) := by decide +kernel
theorem d_L_law_1393 : decode b_L_law 1393 = .ok (.iload 5, 2) := by decide +kernel
theorem d_L_law_1395 : decode b_L_law 1395 = .ok (.if_icmp .eq 5, 3) := by decide +kernel
theorem d_L_law_1398 : decode b_L_law 1398 = .ok (.iconst 0, 1) := by decide +kernel
theorem d_L_law_1399 : decode b_L_law 1399 = .ok (.ireturn, 1) := by decide +kernel
theorem d_L_law_1400 : decode b_L_law 1400 = .ok (.iload 5, 2) := by decide +kernel
theorem d_L_law_1402 : decode b_L_law 1402 = .ok (.ifCond .ne 15, 3) := by decide +kernel
theorem d_L_law_1405 : decode b_L_law 1405 = .ok (.aload_n 3, 1) := by decide +kernel
theorem d_L_law_1406 : decode b_L_law 1406 = .ok (.iconst 0, 1) := by decide +kernel
theorem d_L_law_1407 : decode b_L_law 1407 = .ok (.laload, 1) := by decide +kernel
theorem d_L_law_1408 : decode b_L_law 1408 = .ok (.iload 6, 2) := by decide +kernel
theorem d_L_law_1410 : decode b_L_law 1410 = .ok (.i2l, 1) := by decide +kernel
theorem d_L_law_1411 : decode b_L_law 1411 = .ok (.lcmp, 1) := by decide +kernel
theorem d_L_law_1412 : decode b_L_law 1412 = .ok (.ifCond .eq 5, 3) := by decide +kernel
theorem d_L_law_1415 : decode b_L_law 1415 = .ok (.iconst 0, 1) := by decide +kernel
theorem d_L_law_1416 : decode b_L_law 1416 = .ok (.ireturn, 1) := by decide +kernel
theorem d_L_law_1417 : decode b_L_law 1417 = .ok (.goto 152, 3) := by decide +kernel
theorem d_L_law_1420 : decode b_L_law 1420 = .ok (.aload_n 1, 1) := by decide +kernel
theorem d_L_law_1421 : decode b_L_law 1421 = .ok (.aload_n 0, 1) := by decide +kernel
theorem d_L_law_1422 : decode b_L_law 1422 = .ok (.iload 4, 2) := by decide +kernel
theorem d_L_law_1424 : decode b_L_law 1424 = .ok (.iconst 1, 1) := by decide +kernel
theorem d_L_law_1425 : decode b_L_law 1425 = .ok (.iadd, 1) := by decide +kernel
theorem d_L_law_1426 : decode b_L_law 1426 = .ok (.iaload, 1) := by decide +kernel
theorem d_L_law_1427 : decode b_L_law 1427 = .ok (.aload_n 0, 1) := by decide +kernel
theorem d_L_law_1428 : decode b_L_law 1428 = .ok (.iload 4, 2) := by decide +kernel
theorem d_L_law_1430 : decode b_L_law 1430 = .ok (.iconst 2, 1) := by decide +kernel
theorem d_L_law_1431 : decode b_L_law 1431 = .ok (.iadd, 1) := by decide +kernel
theorem d_L_law_1432 : decode b_L_law 1432 = .ok (.iaload, 1) := by decide +kernel
theorem d_L_law_1433 : decode b_L_law 1433 = .ok (.aload_n 3, 1) := by decide +kernel
theorem d_L_law_1434 : decode b_L_law 1434 = .ok (.invokestatic 149, 3) := by decide +kernel
theorem d_L_law_1437 : decode b_L_law 1437 = .ok (.istore 5, 2) := by decide +kernel
theorem d_L_law_1439 : decode b_L_law 1439 = .ok (.aload_n 2, 1) := by decide +kernel
theorem d_L_law_1440 : decode b_L_law 1440 = .ok (.aload_n 0, 1) := by decide +kernel
theorem d_L_law_1441 : decode b_L_law 1441 = .ok (.iload 4, 2) := by decide +kernel
theorem d_L_law_1443 : decode b_L_law 1443 = .ok (.iconst 1, 1) := by decide +kernel
theorem d_L_law_1444 : decode b_L_law 1444 = .ok (.iadd, 1) := by decide +kernel
theorem d_L_law_1445 : decode b_L_law 1445 = .ok (.iaload, 1) := by decide +kernel
theorem d_L_law_1446 : decode b_L_law 1446 = .ok (.aload_n 0, 1) := by decide +kernel
theorem d_L_law_1447 : decode b_L_law 1447 = .ok (.iload 4, 2) := by decide +kernel
theorem d_L_law_1449 : decode b_L_law 1449 = .ok (.iconst 2, 1) := by decide +kernel
theorem d_L_law_1450 : decode b_L_law 1450 = .ok (.iadd, 1) := by decide +kernel
theorem d_L_law_1451 : decode b_L_law 1451 = .ok (.iaload, 1) := by decide +kernel
theorem d_L_law_1452 : decode b_L_law 1452 = .ok (.invokevirtual 151, 3) := by decide +kernel
theorem d_L_law_1455 : decode b_L_law 1455 = .ok (.istore 6, 2) := by decide +kernel
theorem d_L_law_1457 : decode b_L_law 1457 = .ok (.aload_n 2, 1) := by decide +kernel
theorem d_L_law_1458 : decode b_L_law 1458 = .ok (.invokevirtual 92, 3) := by decide +kernel
theorem d_L_law_1461 : decode b_L_law 1461 = .ok (.iload 5, 2) := by decide +kernel
theorem d_L_law_1463 : decode b_L_law 1463 = .ok (.if_icmp .eq 5, 3) := by decide +kernel
theorem d_L_law_1466 : decode b_L_law 1466 = .ok (.iconst 0, 1) := by decide +kernel
theorem d_L_law_1467 : decode b_L_law 1467 = .ok (.ireturn, 1) := by decide +kernel
theorem d_L_law_1468 : decode b_L_law 1468 = .ok (.iload 5, 2) := by decide +kernel
theorem d_L_law_1470 : decode b_L_law 1470 = .ok (.ifCond .ne 15, 3) := by decide +kernel
theorem d_L_law_1473 : decode b_L_law 1473 = .ok (.aload_n 3, 1) := by decide +kernel
theorem d_L_law_1474 : decode b_L_law 1474 = .ok (.iconst 0, 1) := by decide +kernel
theorem d_L_law_1475 : decode b_L_law 1475 = .ok (.laload, 1) := by decide +kernel
theorem d_L_law_1476 : decode b_L_law 1476 = .ok (.iload 6, 2) := by decide +kernel
theorem d_L_law_1478 : decode b_L_law 1478 = .ok (.i2l, 1) := by decide +kernel
theorem d_L_law_1479 : decode b_L_law 1479 = .ok (.lcmp, 1) := by decide +kernel
theorem d_L_law_1480 : decode b_L_law 1480 = .ok (.ifCond .eq 5, 3) := by decide +kernel
theorem d_L_law_1483 : decode b_L_law 1483 = .ok (.iconst 0, 1) := by decide +kernel
theorem d_L_law_1484 : decode b_L_law 1484 = .ok (.ireturn, 1) := by decide +kernel
theorem d_L_law_1485 : decode b_L_law 1485 = .ok (.goto 84, 3) := by decide +kernel
theorem d_L_law_1488 : decode b_L_law 1488 = .ok (.aload_n 1, 1) := by decide +kernel
theorem d_L_law_1489 : decode b_L_law 1489 = .ok (.aload_n 0, 1) := by decide +kernel
theorem d_L_law_1490 : decode b_L_law 1490 = .ok (.iload 4, 2) := by decide +kernel
theorem d_L_law_1492 : decode b_L_law 1492 = .ok (.iconst 1, 1) := by decide +kernel
theorem d_L_law_1493 : decode b_L_law 1493 = .ok (.iadd, 1) := by decide +kernel
theorem d_L_law_1494 : decode b_L_law 1494 = .ok (.iaload, 1) := by decide +kernel
theorem d_L_law_1495 : decode b_L_law 1495 = .ok (.aload_n 3, 1) := by decide +kernel
theorem d_L_law_1496 : decode b_L_law 1496 = .ok (.invokestatic 152, 3) := by decide +kernel
theorem d_L_law_1499 : decode b_L_law 1499 = .ok (.istore 5, 2) := by decide +kernel
theorem d_L_law_1501 : decode b_L_law 1501 = .ok (.aload_n 2, 1) := by decide +kernel
theorem d_L_law_1502 : decode b_L_law 1502 = .ok (.aload_n 0, 1) := by decide +kernel
theorem d_L_law_1503 : decode b_L_law 1503 = .ok (.iload 4, 2) := by decide +kernel
theorem d_L_law_1505 : decode b_L_law 1505 = .ok (.iconst 1, 1) := by decide +kernel
theorem d_L_law_1506 : decode b_L_law 1506 = .ok (.iadd, 1) := by decide +kernel
theorem d_L_law_1507 : decode b_L_law 1507 = .ok (.iaload, 1) := by decide +kernel
theorem d_L_law_1508 : decode b_L_law 1508 = .ok (.invokevirtual 154, 3) := by decide +kernel
theorem d_L_law_1511 : decode b_L_law 1511 = .ok (.istore 6, 2) := by decide +kernel
theorem d_L_law_1513 : decode b_L_law 1513 = .ok (.aload_n 2, 1) := by decide +kernel
theorem d_L_law_1514 : decode b_L_law 1514 = .ok (.invokevirtual 92, 3) := by decide +kernel
theorem d_L_law_1517 : decode b_L_law 1517 = .ok (.iload 5, 2) := by decide +kernel
theorem d_L_law_1519 : decode b_L_law 1519 = .ok (.if_icmp .eq 5, 3) := by decide +kernel
theorem d_L_law_1522 : decode b_L_law 1522 = .ok (.iconst 0, 1) := by decide +kernel
theorem d_L_law_1523 : decode b_L_law 1523 = .ok (.ireturn, 1) := by decide +kernel
theorem d_L_law_1524 : decode b_L_law 1524 = .ok (.iload 5, 2) := by decide +kernel
theorem d_L_law_1526 : decode b_L_law 1526 = .ok (.ifCond .ne 15, 3) := by decide +kernel
theorem d_L_law_1529 : decode b_L_law 1529 = .ok (.aload_n 3, 1) := by decide +kernel
theorem d_L_law_1530 : decode b_L_law 1530 = .ok (.iconst 0, 1) := by decide +kernel
theorem d_L_law_1531 : decode b_L_law 1531 = .ok (.laload, 1) := by decide +kernel
theorem d_L_law_1532 : decode b_L_law 1532 = .ok (.iload 6, 2) := by decide +kernel
theorem d_L_law_1534 : decode b_L_law 1534 = .ok (.i2l, 1) := by decide +kernel
theorem d_L_law_1535 : decode b_L_law 1535 = .ok (.lcmp, 1) := by decide +kernel
theorem d_L_law_1536 : decode b_L_law 1536 = .ok (.ifCond .eq 5, 3) := by decide +kernel
theorem d_L_law_1539 : decode b_L_law 1539 = .ok (.iconst 0, 1) := by decide +kernel
theorem d_L_law_1540 : decode b_L_law 1540 = .ok (.ireturn, 1) := by decide +kernel
theorem d_L_law_1541 : decode b_L_law 1541 = .ok (.goto 28, 3) := by decide +kernel
theorem d_L_law_1544 : decode b_L_law 1544 = .ok (.aload_n 1, 1) := by decide +kernel
theorem d_L_law_1545 : decode b_L_law 1545 = .ok (.aload_n 0, 1) := by decide +kernel
theorem d_L_law_1546 : decode b_L_law 1546 = .ok (.iload 4, 2) := by decide +kernel
theorem d_L_law_1548 : decode b_L_law 1548 = .ok (.iconst 1, 1) := by decide +kernel
theorem d_L_law_1549 : decode b_L_law 1549 = .ok (.iadd, 1) := by decide +kernel
theorem d_L_law_1550 : decode b_L_law 1550 = .ok (.iaload, 1) := by decide +kernel
theorem d_L_law_1551 : decode b_L_law 1551 = .ok (.invokevirtual 155, 3) := by decide +kernel
theorem d_L_law_1554 : decode b_L_law 1554 = .ok (.aload_n 2, 1) := by decide +kernel
theorem d_L_law_1555 : decode b_L_law 1555 = .ok (.aload_n 0, 1) := by decide +kernel
theorem d_L_law_1556 : decode b_L_law 1556 = .ok (.iload 4, 2) := by decide +kernel
theorem d_L_law_1558 : decode b_L_law 1558 = .ok (.iconst 1, 1) := by decide +kernel
theorem d_L_law_1559 : decode b_L_law 1559 = .ok (.iadd, 1) := by decide +kernel
theorem d_L_law_1560 : decode b_L_law 1560 = .ok (.iaload, 1) := by decide +kernel
theorem d_L_law_1561 : decode b_L_law 1561 = .ok (.invokevirtual 158, 3) := by decide +kernel
theorem d_L_law_1564 : decode b_L_law 1564 = .ok (.if_icmp .eq 5, 3) := by decide +kernel
theorem d_L_law_1567 : decode b_L_law 1567 = .ok (.iconst 0, 1) := by decide +kernel
theorem d_L_law_1568 : decode b_L_law 1568 = .ok (.ireturn, 1) := by decide +kernel
theorem d_L_law_1569 : decode b_L_law 1569 = .ok (.iinc 4 5, 3) := by decide +kernel
theorem d_L_law_1572 : decode b_L_law 1572 = .ok (.goto (-1549), 3) := by decide +kernel
theorem d_L_law_1575 : decode b_L_law 1575 = .ok (.iconst 1, 1) := by decide +kernel
theorem d_L_law_1576 : decode b_L_law 1576 = .ok (.ireturn, 1) := by decide +kernel
end
section
/-! contracts in one form, and calls by them: the callee's cells are cut out, and put beside the rest again -/
abbrev pn_ty (cI cZ cB cJ : ClassId) : List (ClassId × FieldType) := [(cI, .int), (cZ, .boolean), (cB, .byte), (cJ, .long)]
def pn_pre (D : va_G) (tys : List (ClassId × FieldType)) (w : va_W) (sz : Nat) (U : State) : Prop := U.heap.size = sz ∧ va_P D pn_cl w U.heap ∧ va_K D pn_cl tys U ∧ va_D (fun _ => True) w ∧ pn_N U
def pn_post (D : va_G) (A : Nat → Prop) (w : va_W) (t : State) : Prop := va_P D pn_cl w t.heap ∧ va_D A w
theorem pn_blind {D : va_G} {tys : List (ClassId × FieldType)} {w : va_W} {sz : Nat} {As : List Value} : FrameBlind (va_Pc As (pn_pre D tys w sz)) := fun a U g mk q => by
  obtain ⟨q0, q1, qP, qK, qD, qN⟩ := q
  exact ⟨q0, q1, qP, va_K.moved (u := U) (U := U.calling g mk a) (Vm.Alike.refl U.vm) qK, qD, pn_N.same (s := U) (U := U.calling g mk a) rfl qN⟩
/-- contracts: an int answered, a long, nothing; no cell is made -/
abbrev pn_Ci (l : Launch) (D : va_G) (tys : List (ClassId × FieldType)) (y : MethodName) (w : List Cond) (rm : Room) (As : List Value) (w0 : va_W) (sz : Nat) {S : Type} (post : Int32 → S → Prop) (wf : S → va_W) : Prop :=
  Met l y w rm (va_Pc As (pn_pre D tys w0 sz)) (va_Qi post (fun u t => pn_post D (va_A w0 sz) (wf u) t) (va_A w0 sz)) 0 0 (va_A w0 sz)
abbrev pn_Cl (l : Launch) (D : va_G) (tys : List (ClassId × FieldType)) (y : MethodName) (w : List Cond) (rm : Room) (As : List Value) (w0 : va_W) (sz : Nat) {S : Type} (post : Int64 → S → Prop) (wf : S → va_W) : Prop :=
  Met l y w rm (va_Pc As (pn_pre D tys w0 sz)) (va_Ql post (fun u t => pn_post D (va_A w0 sz) (wf u) t) (va_A w0 sz)) 0 0 (va_A w0 sz)
abbrev pn_Cv (l : Launch) (D : va_G) (tys : List (ClassId × FieldType)) (y : MethodName) (w : List Cond) (rm : Room) (As : List Value) (w0 : va_W) (sz : Nat) {S : Type} (post : S → Prop) (wf : S → va_W) : Prop :=
  Met l y w rm (va_Pc As (pn_pre D tys w0 sz)) (va_Qv post (fun u t => pn_post D (va_A w0 sz) (wf u) t) (va_A w0 sz)) 0 0 (va_A w0 sz)
/-- what the tables say of a callee -/
def pn_cal (y : MethodName) (bytes : ByteArray) (maxL : Nat) (ret : Option FieldType) (n : Nat) : Prop := Cond.code y bytes maxL ret ∈ pn_all ∧ Cond.initialized y.cls ∈ pn_all ∧ (y.cls ≠ "java/lang/invoke/MethodHandle" ∧ y.cls ≠ "java/lang/invoke/VarHandle" ∧ (parseMethodDescriptor y.desc).map (fun d => d.parameters.length) = some n)
section PnCalls
variable {p : Program} {l : Launch} {e : Env} {R : Room} {s : State} {m : MethodId} {args : Array Value} {below : List Frame} {meth : Method} {c : Code} {H : Heap} {locs : List Loc} {cells slots : Nat} {Q : State → Prop}
variable {y : MethodName} {bytes cc : ByteArray} {maxL nL n index : Nat} {ret : Option FieldType} {rm : Room} {Qc : Array Value → State → Outcome → State → Prop} {free : Addr → Prop} {own host : String} {b : Addr} {D : va_G} {tys : List (ClassId × FieldType)} {w wc wr : va_W} {A0 : Nat → Prop} {H0 : Heap} {pc : Nat} {ls : Array Slot}
theorem pn_preV (Fx : CallFix p m c cc nL s args pn_all own) (hK : va_K D pn_cl tys s) (hN : pn_N s) (hP : va_P D pn_cl w H) (hD : va_D A0 w) (isC : List Nat) (hC : isC.map (fun i => w[i]?) = wc.map some) (hnC : va_nd isC = true) (As : List Value) :
    PreS s H (va_Pc As (pn_pre D tys wc H.size)) As := by
  have hPc : va_P D pn_cl wc H := by
    intro k q hq
    have h1 : (isC.map (fun i => w[i]?))[k]? = some (some q) := by rw [hC, List.getElem?_map, hq]; rfl
    rw [List.getElem?_map] at h1
    cases hi : isC[k]? with
    | none => rw [hi] at h1; cases h1
    | some i => rw [hi] at h1; exact hP i q (Option.some.inj h1)
  have hDc : va_D A0 wc := hD.sub isC hnC hC
  exact ⟨pn_blind, fun U hU hW => ⟨rfl, by rw [hU], by rw [hU]; exact hPc, va_K.moved hW.alike hK, hDc.weaken (fun _ _ _ _ => trivial), pn_N.warm hW hN⟩⟩
theorem pn_rV (As rest : List Value) (Fx : CallFix p m c cc nL s args pn_all own) (hK : va_K D pn_cl tys s) (hN : pn_N s) (hP : va_P D pn_cl w H) (hD : va_D A0 w) (isC : List Nat) (hC : isC.map (fun i => w[i]?) = wc.map some) (hnC : va_nd isC = true)
    (hM : Met l y (Cond.code y bytes maxL ret :: pn_all) rm (va_Pc (.ref b :: As) (pn_pre D tys wc H.size)) Qc 0 0 free) (kl : Cond.methodLink own index y ∈ pn_all) (cal : pn_cal y bytes maxL ret n) (ki : Cond.instanceMethod y ∈ pn_all) (ks : Cond.selects y.cls y y ∈ pn_all)
    (hR : rm.frames + 1 ≤ R.frames ∧ 8 + (maxL + 11) + rm.locals ≤ R.locals) (hrm : rm.cells = 0 ∧ rm.slots = 0) (q0 : Nat) {ci : Nat} {fs : List Value} (hq : wc[q0]? = some (b, .inr (ci, fs))) {r : vw_C} (hcl : pn_cl[ci]? = some r) (hr : r.1 = y.cls)
    (hn : As.length = n) (hsize : ls.size = nL) (hW : (rest.map fun v => v.category).sum ≤ 8) (hdg : decode cc pc = .ok (.invokevirtual index, 3)) (hf : cells ≤ R.cells ∧ slots ≤ R.slots) :
    va_Run p l e R s m args below meth c H locs cells slots 0 0 (F0 m pc ls (As.reverse ++ .ref b :: rest)) rest (Qc (Value.ref b :: As).toArray) free := by
  have hp := pn_preV Fx hK hN hP hD isC hC hnC (Value.ref b :: As)
  have hPc : va_P D pn_cl wc H := by
    intro k q hq
    have h1 : (isC.map (fun i => w[i]?))[k]? = some (some q) := by rw [hC, List.getElem?_map, hq]; rfl
    rw [List.getElem?_map] at h1
    cases hi : isC[k]? with
    | none => rw [hi] at h1; cases h1
    | some i => rw [hi] at h1; exact hP i q (Option.some.inj h1)
  have hts := Fx.2.2.2.2
  refine va_runV (C := y.cls) (bytes := bytes) (maxL := maxL) (ret := ret) (n := n) Fx hM ⟨callB_of n hts (pn_good cal.1) rfl hrm.1 hrm.2 (hts _ cal.2.1) (hts _ kl) cal.2.2 hR, hts _ ki, hts _ ks⟩ ⟨hp.1, ?_, hp.2⟩ rfl hn hsize rfl ?_ hdg hf
  · rw [← hr]; exact va_recv hK hPc hcl hq
  · have : (F0 m pc ls (As.reverse ++ .ref b :: rest)).monitorRoom = 0 := rfl
    rw [this]; omega
theorem pn_rVN (As rest : List Value) (Fx : CallFix p m c cc nL s args pn_all own) (hK : va_K D pn_cl tys s) (hN : pn_N s) (hP : va_P D pn_cl w H) (hD : va_D A0 w) (isC : List Nat) (hC : isC.map (fun i => w[i]?) = wc.map some) (hnC : va_nd isC = true)
    (hM : Met l y (Cond.code y bytes maxL ret :: pn_all) rm (va_Pc (.ref b :: As) (pn_pre D tys wc H.size)) Qc 0 0 free) (kl : Cond.methodLinkNest own index y host ∈ pn_nest) (cal : pn_cal y bytes maxL ret n) (ki : Cond.instanceMethod y ∈ pn_all) (ks : Cond.selects y.cls y y ∈ pn_all)
    (hR : rm.frames + 1 ≤ R.frames ∧ 8 + (maxL + 11) + rm.locals ≤ R.locals) (hrm : rm.cells = 0 ∧ rm.slots = 0) (q0 : Nat) {ci : Nat} {fs : List Value} (hq : wc[q0]? = some (b, .inr (ci, fs))) {r : vw_C} (hcl : pn_cl[ci]? = some r) (hr : r.1 = y.cls)
    (hn : As.length = n) (hsize : ls.size = nL) (hW : (rest.map fun v => v.category).sum ≤ 8) (hdg : decode cc pc = .ok (.invokevirtual index, 3)) (hf : cells ≤ R.cells ∧ slots ≤ R.slots) :
    va_Run p l e R s m args below meth c H locs cells slots 0 0 (F0 m pc ls (As.reverse ++ .ref b :: rest)) rest (Qc (Value.ref b :: As).toArray) free := by
  have hp := pn_preV Fx hK hN hP hD isC hC hnC (Value.ref b :: As)
  have hPc : va_P D pn_cl wc H := by
    intro k q hq
    have h1 : (isC.map (fun i => w[i]?))[k]? = some (some q) := by rw [hC, List.getElem?_map, hq]; rfl
    rw [List.getElem?_map] at h1
    cases hi : isC[k]? with
    | none => rw [hi] at h1; cases h1
    | some i => rw [hi] at h1; exact hP i q (Option.some.inj h1)
  have hts := Fx.2.2.2.2
  refine va_runVN (C := y.cls) (host := host) (bytes := bytes) (maxL := maxL) (ret := ret) (n := n) Fx hM ⟨va_cnB n hts (pn_good cal.1) rfl hrm.1 hrm.2 (hN _ kl) (hts _ cal.2.1) cal.2.2 hR, hts _ ki, hts _ ks⟩ ⟨hp.1, ?_, hp.2⟩ rfl hn hsize rfl ?_ hdg hf
  · rw [← hr]; exact va_recv hK hPc hcl hq
  · have : (F0 m pc ls (As.reverse ++ .ref b :: rest)).monitorRoom = 0 := rfl
    rw [this]; omega
theorem pn_rS (As rest : List Value) (Fx : CallFix p m c cc nL s args pn_all own) (hK : va_K D pn_cl tys s) (hN : pn_N s) (hP : va_P D pn_cl w H) (hD : va_D A0 w) (isC : List Nat) (hC : isC.map (fun i => w[i]?) = wc.map some) (hnC : va_nd isC = true)
    (hM : Met l y (Cond.code y bytes maxL ret :: pn_all) rm (va_Pc As (pn_pre D tys wc H.size)) Qc 0 0 free) (kl : Cond.methodLink own index y ∈ pn_all) (cal : pn_cal y bytes maxL ret n) (ki : Cond.static y ∈ pn_all)
    (hR : rm.frames + 1 ≤ R.frames ∧ 8 + (maxL + 11) + rm.locals ≤ R.locals) (hrm : rm.cells = 0 ∧ rm.slots = 0)
    (hn : As.length = n) (hsize : ls.size = nL) (hW : (rest.map fun v => v.category).sum ≤ 8) (hdg : decode cc pc = .ok (.invokestatic index, 3)) (hf : cells ≤ R.cells ∧ slots ≤ R.slots) :
    va_Run p l e R s m args below meth c H locs cells slots 0 0 (F0 m pc ls (As.reverse ++ rest)) rest (Qc As.toArray) free := by
  have hp := pn_preV Fx hK hN hP hD isC hC hnC As
  have hts := Fx.2.2.2.2
  refine va_runS (bytes := bytes) (maxL := maxL) (ret := ret) (n := n) Fx hM ⟨callB_of n hts (pn_good cal.1) rfl hrm.1 hrm.2 (hts _ cal.2.1) (hts _ kl) cal.2.2 hR, hts _ ki⟩ hp rfl hn hsize rfl ?_ hdg hf
  have : (F0 m pc ls (As.reverse ++ rest)).monitorRoom = 0 := rfl
  rw [this]; omega
theorem pn_rSN (As rest : List Value) (Fx : CallFix p m c cc nL s args pn_all own) (hK : va_K D pn_cl tys s) (hN : pn_N s) (hP : va_P D pn_cl w H) (hD : va_D A0 w) (isC : List Nat) (hC : isC.map (fun i => w[i]?) = wc.map some) (hnC : va_nd isC = true)
    (hM : Met l y (Cond.code y bytes maxL ret :: pn_all) rm (va_Pc As (pn_pre D tys wc H.size)) Qc 0 0 free) (kl : Cond.methodLinkNest own index y host ∈ pn_nest) (cal : pn_cal y bytes maxL ret n) (ki : Cond.static y ∈ pn_all)
    (hR : rm.frames + 1 ≤ R.frames ∧ 8 + (maxL + 11) + rm.locals ≤ R.locals) (hrm : rm.cells = 0 ∧ rm.slots = 0)
    (hn : As.length = n) (hsize : ls.size = nL) (hW : (rest.map fun v => v.category).sum ≤ 8) (hdg : decode cc pc = .ok (.invokestatic index, 3)) (hf : cells ≤ R.cells ∧ slots ≤ R.slots) :
    va_Run p l e R s m args below meth c H locs cells slots 0 0 (F0 m pc ls (As.reverse ++ rest)) rest (Qc As.toArray) free := by
  have hp := pn_preV Fx hK hN hP hD isC hC hnC As
  have hts := Fx.2.2.2.2
  refine va_runSN (host := host) (bytes := bytes) (maxL := maxL) (ret := ret) (n := n) Fx hM ⟨va_cnB n hts (pn_good cal.1) rfl hrm.1 hrm.2 (hN _ kl) (hts _ cal.2.1) cal.2.2 hR, hts _ ki, trivial⟩ hp rfl hn hsize rfl ?_ hdg hf
  have : (F0 m pc ls (As.reverse ++ rest)).monitorRoom = 0 := rfl
  rw [this]; omega
/-! behind the call -/
theorem pn_bi {S : Type} {post : Int32 → S → Prop} {wf : S → va_W} {a : Array Value} {st0 rest : List Value} (isC isR : List Nat) (hP : va_P D pn_cl w H) (hD : va_D A0 w) (hS : va_S A0 H0 H locs) (hA : ∀ q, H0.size ≤ q → A0 q)
    (hr : va_Run p l e R s m args below meth c H locs cells slots 0 0 (F0 m pc ls st0) rest (va_Qi post (fun u t => pn_post D (va_A wc H.size) (wf u) t) (va_A wc H.size) a) (va_A wc H.size))
    (hC : isC.map (fun i => w[i]?) = wc.map some) (hR : isR.map (fun i => w[i]?) = wr.map some) (hn : va_nd isR = true) (hdis : ∀ i ∈ isR, i ∉ isC)
    (kk : ∀ (r : Int32) (u : S) (H1 : Heap) (locs1 : List Loc), post r u → va_P D pn_cl (wr ++ wf u) H1 → va_D A0 (wr ++ wf u) → va_S A0 H0 H1 locs1 → W p l e R s m args below meth c H1 locs1 cells slots Q (F0 m (pc + 3) ls (.int r :: rest))) :
    W p l e R s m args below meth c H locs cells slots Q (F0 m pc ls st0) := by
  have hF := va_free hD hS hA isC hC
  refine va_calli hr hS (fun q _ h => hF q h) hF (fun r u t H1 locs1 ht hvm hw hB hz hk hS1 => ?_)
  obtain ⟨hP1, hD1⟩ := hB
  rw [ht] at hP1
  obtain ⟨hP2, hD2⟩ := va_join hP hD isC isR hC hR hn hdis hk hF hP1 hD1
  exact kk r u H1 locs1 hw hP2 hD2 hS1
theorem pn_bl {S : Type} {post : Int64 → S → Prop} {wf : S → va_W} {a : Array Value} {st0 rest : List Value} (isC isR : List Nat) (hP : va_P D pn_cl w H) (hD : va_D A0 w) (hS : va_S A0 H0 H locs) (hA : ∀ q, H0.size ≤ q → A0 q)
    (hr : va_Run p l e R s m args below meth c H locs cells slots 0 0 (F0 m pc ls st0) rest (va_Ql post (fun u t => pn_post D (va_A wc H.size) (wf u) t) (va_A wc H.size) a) (va_A wc H.size))
    (hC : isC.map (fun i => w[i]?) = wc.map some) (hR : isR.map (fun i => w[i]?) = wr.map some) (hn : va_nd isR = true) (hdis : ∀ i ∈ isR, i ∉ isC)
    (kk : ∀ (r : Int64) (u : S) (H1 : Heap) (locs1 : List Loc), post r u → va_P D pn_cl (wr ++ wf u) H1 → va_D A0 (wr ++ wf u) → va_S A0 H0 H1 locs1 → W p l e R s m args below meth c H1 locs1 cells slots Q (F0 m (pc + 3) ls (.long r :: rest))) :
    W p l e R s m args below meth c H locs cells slots Q (F0 m pc ls st0) := by
  have hF := va_free hD hS hA isC hC
  refine va_calll hr hS (fun q _ h => hF q h) hF (fun r u t H1 locs1 ht hvm hw hB hz hk hS1 => ?_)
  obtain ⟨hP1, hD1⟩ := hB
  rw [ht] at hP1
  obtain ⟨hP2, hD2⟩ := va_join hP hD isC isR hC hR hn hdis hk hF hP1 hD1
  exact kk r u H1 locs1 hw hP2 hD2 hS1
theorem pn_bv {S : Type} {post : S → Prop} {wf : S → va_W} {a : Array Value} {st0 rest : List Value} (isC isR : List Nat) (hP : va_P D pn_cl w H) (hD : va_D A0 w) (hS : va_S A0 H0 H locs) (hA : ∀ q, H0.size ≤ q → A0 q)
    (hr : va_Run p l e R s m args below meth c H locs cells slots 0 0 (F0 m pc ls st0) rest (va_Qv post (fun u t => pn_post D (va_A wc H.size) (wf u) t) (va_A wc H.size) a) (va_A wc H.size))
    (hC : isC.map (fun i => w[i]?) = wc.map some) (hR : isR.map (fun i => w[i]?) = wr.map some) (hn : va_nd isR = true) (hdis : ∀ i ∈ isR, i ∉ isC)
    (kk : ∀ (u : S) (H1 : Heap) (locs1 : List Loc), post u → va_P D pn_cl (wr ++ wf u) H1 → va_D A0 (wr ++ wf u) → va_S A0 H0 H1 locs1 → W p l e R s m args below meth c H1 locs1 cells slots Q (F0 m (pc + 3) ls rest)) :
    W p l e R s m args below meth c H locs cells slots Q (F0 m pc ls st0) := by
  have hF := va_free hD hS hA isC hC
  refine va_callv hr hS (fun q _ h => hF q h) hF (fun u t H1 locs1 ht hvm hw hB hz hk hS1 => ?_)
  obtain ⟨hP1, hD1⟩ := hB
  rw [ht] at hP1
  obtain ⟨hP2, hD2⟩ := va_join hP hD isC isR hC hR hn hdis hk hF hP1 hD1
  exact kk u H1 locs1 hw hP2 hD2 hS1
end PnCalls
end
section
/-! a walk's head, its fields and arrays, its ends, in the form of the contracts of part 18 -/
def pn_b (x : Bool) : Int32 := if x then 1 else 0
theorem pn_b_eq0 (x : Bool) : pn_b x = 0 ↔ x = false := by cases x <;> decide
theorem pn_b_t : pn_b true = 1 := rfl
theorem pn_b_f : pn_b false = 0 := rfl
theorem pn_b_inj {x y : Bool} : pn_b x = pn_b y ↔ x = y := by cases x <;> cases y <;> decide
theorem pn_b_nar (x : Bool) : narrow .boolean (.int (pn_b x)) = .int (pn_b x) := by cases x <;> rfl
theorem pn_b_fit (x : Bool) : fits .boolean (.int (pn_b x)) = true := by cases x <;> rfl
theorem pn_b_vp (x : Bool) : vp_nar .boolean (pn_b x) = pn_b x := by cases x <;> rfl
def pn_fld (ci : Nat) (C : String) (T : u_T) (N : Nat) (ty0 : Nat → FieldType) : Prop := pn_cl[ci]? = some (C, T, N) ∧ (∀ w ∈ u_ws C T N, w ∈ pn_all) ∧ (∀ k, k < N → parseFieldDescriptor (T k).2.2.1 = some (ty0 k)) ∧ (∀ a, a < N → ∀ b, b < N → a ≠ b → (T a).2.1 ≠ (T b).2.1)
theorem fld_E : pn_fld 0 R_E F_E 4 ft_E := ⟨rfl, in_E, ft_E_ok, n_E⟩
theorem fld_R : pn_fld 1 R_R F_R 3 ft_R := ⟨rfl, in_R, ft_R_ok, n_R⟩
theorem fld_S : pn_fld 2 R_S F_S 5 ft_S := ⟨rfl, in_S, ft_S_ok, n_S⟩
theorem fld_T : pn_fld 3 R_T F_T 2 ft_T := ⟨rfl, in_T, ft_T_ok, n_T⟩
theorem fld_P : pn_fld 4 R_P F_P 7 ft_P := ⟨rfl, in_P, ft_P_ok, n_P⟩
theorem fld_M : pn_fld 5 R_M F_M 9 ft_M := ⟨rfl, in_M, ft_M_ok, n_M⟩
theorem pn_start {l : Launch} {D : va_G} {tys : List (ClassId × FieldType)} {y : MethodName} {bytes : ByteArray} {maxL : Nat} {ret : Option FieldType} {rm : Room} {w0 : va_W} {sz : Nat} {Qc : Array Value → State → Outcome → State → Prop} {As : List Value} (hy : plainName y.cls = true) (hA0 : (lg_sl As).length ≤ maxL)
    (body : ∀ (p : Program) (e : Env) (s : State) (m : MethodId) (below : List Frame) (meth : Method) (c : Code) (A : Nat → Prop) (Q : State → Prop) (ls : Array Slot), Q = MQ below Qc As.toArray s 0 0 (va_A w0 sz) → A = va_A w0 sz → CallFix p m c bytes maxL s As.toArray pn_all y.cls → meth.sig.returnType = ret → meth.locks = false → pn_N s → va_K D pn_cl tys s → va_P D pn_cl w0 s.heap → va_D A w0 → va_S A s.heap s.heap [] → (∀ q : Nat, s.heap.size ≤ q → A q) → lv_has ls maxL (lv_args 0 As) →
      W p l e rm s m As.toArray below meth c s.heap [] 0 0 Q (F0 m 0 ls [])) : Met l y (Cond.code y bytes maxL ret :: pn_all) rm (va_Pc As (pn_pre D tys w0 sz)) Qc 0 0 (va_A w0 sz) := by
  refine Met.ofW (cc := bytes) (maxL := maxL) (ret := ret) hy rfl ?_
  intro p e s m args below meth c s₁ B hml hv
  obtain ⟨rfl, hsz, hP, hK, hD0, hN⟩ := hv
  have hts := atoms_spec (ws := Cond.code y bytes maxL ret :: pn_all) B.pre
  have hown : s.vm.findClass y.cls = some m.cls := findClass_of_methodNamed B.named
  subst hsz
  have hl := lv_entry As (n := maxL) hA0
  rw [lg_entry_eq]
  generalize (lg_sl As ++ List.replicate (maxL - (lg_sl As).length) Slot.unset).toArray = ls at hl ⊢
  exact body p e s m below meth c _ _ ls rfl rfl ⟨B.exec, B.bytes, hml, hown, fun w h => hts w (List.mem_cons_of_mem _ h)⟩ B.returns B.notSynchronized hN hK hP (hD0.self (sz := s.heap.size)) va_S.rf (fun q h => Or.inr h) hl
section PnWalk
variable {p : Program} {l : Launch} {e : Env} {R : Room} {s : State} {m : MethodId} {args : Array Value} {below : List Frame} {meth : Method} {c : Code} {H : Heap} {locs : List Loc} {cells slots : Nat} {Q : State → Prop}
variable {cc : ByteArray} {pc nL index : Nat} {ls : Array Slot} {rest : List Value} {own host : String} {a : Nat} {D : va_G} {tys : List (ClassId × FieldType)} {w w' : va_W} {A : Nat → Prop} {H0 : Heap}
theorem pn_topi {x : Int32} (y : Int32) (h : x = y) (k : W p l e R s m args below meth c H locs cells slots Q (F0 m pc ls (.int y :: rest))) : W p l e R s m args below meth c H locs cells slots Q (F0 m pc ls (.int x :: rest)) := by rw [h]; exact k
theorem pn_topl {x : Int64} (y : Int64) (h : x = y) (k : W p l e R s m args below meth c H locs cells slots Q (F0 m pc ls (.long y :: rest))) : W p l e R s m args below meth c H locs cells slots Q (F0 m pc ls (.long x :: rest)) := by rw [h]; exact k
theorem pw_get (Fx : CallFix p m c cc nL s args pn_all own) (hK : va_K D pn_cl tys s) (hP : va_P D pn_cl w H) {ci : Nat} {C : String} {T : u_T} {N : Nat} {ty0 : Nat → FieldType} (F : pn_fld ci C T N ty0) (q0 : Nat) {fs : List Value} (he : w[q0]? = some (a, .inr (ci, fs))) (k : Nat) (hk : k < N) (kl : Cond.fieldLink own index (T k).1 (T k).2.1 (T k).2.2.1 ∈ pn_all) {v : Value} (hv : fs[k]? = some v) (hdg : decode cc pc = .ok (.getfield index, 3))
    (kk : W p l e R s m args below meth c H locs cells slots Q (F0 m (pc + 3) ls (v :: rest))) : W p l e R s m args below meth c H locs cells slots Q (F0 m pc ls (.ref a :: rest)) :=
  va_get Fx.1 Fx.2.1 Fx.2.2.2.2 F.2.1 Fx.2.2.2.1 hK hP q0 he F.1 k hk (Fx.2.2.2.2 _ kl) (fun _ h => h) hv hdg kk
theorem pw_getN (Fx : CallFix p m c cc nL s args pn_all own) (hN : pn_N s) (hK : va_K D pn_cl tys s) (hP : va_P D pn_cl w H) {ci : Nat} {C : String} {T : u_T} {N : Nat} {ty0 : Nat → FieldType} (F : pn_fld ci C T N ty0) (q0 : Nat) {fs : List Value} (he : w[q0]? = some (a, .inr (ci, fs))) (k : Nat) (hk : k < N) (kl : Cond.fieldLinkNest own index (T k).1 (T k).2.1 (T k).2.2.1 host ∈ pn_nest) {v : Value} (hv : fs[k]? = some v) (hdg : decode cc pc = .ok (.getfield index, 3))
    (kk : W p l e R s m args below meth c H locs cells slots Q (F0 m (pc + 3) ls (v :: rest))) : W p l e R s m args below meth c H locs cells slots Q (F0 m pc ls (.ref a :: rest)) :=
  va_getN Fx.1 Fx.2.1 Fx.2.2.2.2 F.2.1 Fx.2.2.2.1 hK hP q0 he F.1 k hk (va_Nw.use rfl (hN _ kl)) (fun _ h => h) hv hdg kk
theorem pw_put (Fx : CallFix p m c cc nL s args pn_all own) (hK : va_K D pn_cl tys s) (hP : va_P D pn_cl w H) (hD : va_D A w) (hS : va_S A H0 H locs) {ci : Nat} {C : String} {T : u_T} {N : Nat} {ty0 : Nat → FieldType} (F : pn_fld ci C T N ty0) (q0 : Nat) {fs : List Value} (he : w[q0]? = some (a, .inr (ci, fs))) (k : Nat) (hk : k < N) (kl : Cond.fieldLink own index (T k).1 (T k).2.1 (T k).2.2.1 ∈ pn_all) (hfin : (T k).2.2.2 = false) {v : Value} (hn : narrow (ty0 k) v = v) (hfit : fits (ty0 k) v = true) (hl : k < fs.length) (hw : w.set q0 (a, .inr (ci, fs.set k v)) = w') (hdg : decode cc pc = .ok (.putfield index, 3))
    (kk : ∀ (H1 : Heap) (locs1 : List Loc), va_P D pn_cl w' H1 → va_D A w' → va_S A H0 H1 locs1 → W p l e R s m args below meth c H1 locs1 cells slots Q (F0 m (pc + 3) ls rest)) : W p l e R s m args below meth c H locs cells slots Q (F0 m pc ls (v :: .ref a :: rest)) := by
  subst hw
  exact va_put Fx.1 Fx.2.1 Fx.2.2.2.2 F.2.1 ty0 F.2.2.1 F.2.2.2 Fx.2.2.2.1 hK hP hD hS q0 he F.1 k hk (Fx.2.2.2.2 _ kl) (fun _ h => h) hfin (F.2.2.1 k hk) hn hfit hl hdg kk
theorem pw_putN (Fx : CallFix p m c cc nL s args pn_all own) (hN : pn_N s) (hK : va_K D pn_cl tys s) (hP : va_P D pn_cl w H) (hD : va_D A w) (hS : va_S A H0 H locs) {ci : Nat} {C : String} {T : u_T} {N : Nat} {ty0 : Nat → FieldType} (F : pn_fld ci C T N ty0) (q0 : Nat) {fs : List Value} (he : w[q0]? = some (a, .inr (ci, fs))) (k : Nat) (hk : k < N) (kl : Cond.fieldLinkNest own index (T k).1 (T k).2.1 (T k).2.2.1 host ∈ pn_nest) (hfin : (T k).2.2.2 = false) {v : Value} (hn : narrow (ty0 k) v = v) (hfit : fits (ty0 k) v = true) (hl : k < fs.length) (hw : w.set q0 (a, .inr (ci, fs.set k v)) = w') (hdg : decode cc pc = .ok (.putfield index, 3))
    (kk : ∀ (H1 : Heap) (locs1 : List Loc), va_P D pn_cl w' H1 → va_D A w' → va_S A H0 H1 locs1 → W p l e R s m args below meth c H1 locs1 cells slots Q (F0 m (pc + 3) ls rest)) : W p l e R s m args below meth c H locs cells slots Q (F0 m pc ls (v :: .ref a :: rest)) := by
  subst hw
  exact va_putN Fx.1 Fx.2.1 Fx.2.2.2.2 F.2.1 ty0 F.2.2.1 F.2.2.2 Fx.2.2.2.1 hK hP hD hS q0 he F.1 k hk (va_Nw.use rfl (hN _ kl)) (fun _ h => h) hfin (F.2.2.1 k hk) hn hfit hl hdg kk
theorem pw_iald (Fx : CallFix p m c cc nL s args pn_all own) (hK : va_K D pn_cl tys s) (hP : va_P D pn_cl w H) (q0 t0 : Nat) {cA : ClassId} {n : Nat} {f : Nat → Int32} (ha : w[q0]? = some (a, .inl (cA, n, .inl f))) (ht : tys[t0]? = some (cA, .int)) {k : Nat} (hk : k < n) (hn : n < 2 ^ 31) (hdg : decode cc pc = .ok (.iaload, 1))
    (kk : W p l e R s m args below meth c H locs cells slots Q (F0 m (pc + 1) ls (.int (f k) :: rest))) : W p l e R s m args below meth c H locs cells slots Q (F0 m pc ls (.int (nI k) :: .ref a :: rest)) :=
  va_iald Fx.1 Fx.2.1 hK hP q0 t0 ha ht (vp_in_nI hk hn) hdg (by rw [nI_clamp (by omega)]; exact kk)
theorem pw_zald (Fx : CallFix p m c cc nL s args pn_all own) (hK : va_K D pn_cl tys s) (hP : va_P D pn_cl w H) (q0 t0 : Nat) {cA : ClassId} {n : Nat} {f : Nat → Int32} (ha : w[q0]? = some (a, .inl (cA, n, .inl f))) (ht : tys[t0]? = some (cA, .boolean)) {k : Nat} (hk : k < n) (hn : n < 2 ^ 31) (hdg : decode cc pc = .ok (.baload, 1))
    (kk : W p l e R s m args below meth c H locs cells slots Q (F0 m (pc + 1) ls (.int (f k) :: rest))) : W p l e R s m args below meth c H locs cells slots Q (F0 m pc ls (.int (nI k) :: .ref a :: rest)) :=
  va_zald Fx.1 Fx.2.1 hK hP q0 t0 ha ht (vp_in_nI hk hn) hdg (by rw [nI_clamp (by omega)]; exact kk)
theorem pw_bald (Fx : CallFix p m c cc nL s args pn_all own) (hK : va_K D pn_cl tys s) (hP : va_P D pn_cl w H) (q0 t0 : Nat) {cA : ClassId} {n : Nat} {f : Nat → Int32} (ha : w[q0]? = some (a, .inl (cA, n, .inl f))) (ht : tys[t0]? = some (cA, .byte)) {k : Nat} (hk : k < n) (hn : n < 2 ^ 31) (hdg : decode cc pc = .ok (.baload, 1))
    (kk : W p l e R s m args below meth c H locs cells slots Q (F0 m (pc + 1) ls (.int (f k) :: rest))) : W p l e R s m args below meth c H locs cells slots Q (F0 m pc ls (.int (nI k) :: .ref a :: rest)) :=
  va_bald Fx.1 Fx.2.1 hK hP q0 t0 ha ht (vp_in_nI hk hn) hdg (by rw [nI_clamp (by omega)]; exact kk)
theorem pw_iast (Fx : CallFix p m c cc nL s args pn_all own) (hK : va_K D pn_cl tys s) (hP : va_P D pn_cl w H) (hD : va_D A w) (hS : va_S A H0 H locs) (q0 t0 : Nat) {cA : ClassId} {n : Nat} {f : Nat → Int32} (ha : w[q0]? = some (a, .inl (cA, n, .inl f))) (ht : tys[t0]? = some (cA, .int)) {k : Nat} {x : Int32} (hk : k < n) (hn : n < 2 ^ 31) (hw : w.set q0 (a, .inl (cA, n, .inl (upd f k x))) = w') (hdg : decode cc pc = .ok (.iastore, 1))
    (kk : ∀ (H1 : Heap) (locs1 : List Loc), va_P D pn_cl w' H1 → va_D A w' → va_S A H0 H1 locs1 → W p l e R s m args below meth c H1 locs1 cells slots Q (F0 m (pc + 1) ls rest)) : W p l e R s m args below meth c H locs cells slots Q (F0 m pc ls (.int x :: .int (nI k) :: .ref a :: rest)) := by
  subst hw
  refine va_iast Fx.1 Fx.2.1 hK hP hD hS q0 t0 ha ht (vp_in_nI hk hn) hdg ?_
  rw [nI_clamp (by omega)]
  exact kk
theorem pw_bast (Fx : CallFix p m c cc nL s args pn_all own) (hK : va_K D pn_cl tys s) (hP : va_P D pn_cl w H) (hD : va_D A w) (hS : va_S A H0 H locs) (q0 t0 : Nat) {cA : ClassId} {n : Nat} {f : Nat → Int32} (ha : w[q0]? = some (a, .inl (cA, n, .inl f))) (ht : tys[t0]? = some (cA, .byte)) {k : Nat} {x : Int32} (hk : k < n) (hn : n < 2 ^ 31) (hw : w.set q0 (a, .inl (cA, n, .inl (upd f k (vp_nar .byte x)))) = w') (hdg : decode cc pc = .ok (.bastore, 1))
    (kk : ∀ (H1 : Heap) (locs1 : List Loc), va_P D pn_cl w' H1 → va_D A w' → va_S A H0 H1 locs1 → W p l e R s m args below meth c H1 locs1 cells slots Q (F0 m (pc + 1) ls rest)) : W p l e R s m args below meth c H locs cells slots Q (F0 m pc ls (.int x :: .int (nI k) :: .ref a :: rest)) := by
  subst hw
  refine va_bast Fx.1 Fx.2.1 hK hP hD hS q0 t0 ha ht (vp_in_nI hk hn) hdg ?_
  rw [nI_clamp (by omega)]
  exact kk
theorem pw_zast (Fx : CallFix p m c cc nL s args pn_all own) (hK : va_K D pn_cl tys s) (hP : va_P D pn_cl w H) (hD : va_D A w) (hS : va_S A H0 H locs) (q0 t0 : Nat) {cA : ClassId} {n : Nat} {f : Nat → Int32} (ha : w[q0]? = some (a, .inl (cA, n, .inl f))) (ht : tys[t0]? = some (cA, .boolean)) {k : Nat} {x : Bool} (hk : k < n) (hn : n < 2 ^ 31) (hw : w.set q0 (a, .inl (cA, n, .inl (upd f k (pn_b x)))) = w') (hdg : decode cc pc = .ok (.bastore, 1))
    (kk : ∀ (H1 : Heap) (locs1 : List Loc), va_P D pn_cl w' H1 → va_D A w' → va_S A H0 H1 locs1 → W p l e R s m args below meth c H1 locs1 cells slots Q (F0 m (pc + 1) ls rest)) : W p l e R s m args below meth c H locs cells slots Q (F0 m pc ls (.int (pn_b x) :: .int (nI k) :: .ref a :: rest)) := by
  subst hw
  refine va_zast Fx.1 Fx.2.1 hK hP hD hS q0 t0 ha ht (vp_in_nI hk hn) hdg ?_
  rw [nI_clamp (by omega), pn_b_vp]
  exact kk
/-! branches on booleans, on longs -/
theorem pw_ifb_eq (hexec : p.tables.exec = Jvm.exec) (hb : c.code = cc) {x : Bool} {off : Int} {tgt : Nat} (hdg : decode cc pc = .ok (.ifCond .eq off, 3)) (ht : (pc : Int) + off = (tgt : Int)) (kt : x = false → W p l e R s m args below meth c H locs cells slots Q (F0 m tgt ls rest)) (kf : x = true → W p l e R s m args below meth c H locs cells slots Q (F0 m (pc + 3) ls rest)) : W p l e R s m args below meth c H locs cells slots Q (F0 m pc ls (.int (pn_b x) :: rest)) :=
  lv_if_eq hexec hb hdg ht (fun z => kt ((pn_b_eq0 x).mp z)) (fun z => kf (by cases x with | false => exact absurd rfl z | true => rfl))
theorem pw_ifb_ne (hexec : p.tables.exec = Jvm.exec) (hb : c.code = cc) {x : Bool} {off : Int} {tgt : Nat} (hdg : decode cc pc = .ok (.ifCond .ne off, 3)) (ht : (pc : Int) + off = (tgt : Int)) (kt : x = true → W p l e R s m args below meth c H locs cells slots Q (F0 m tgt ls rest)) (kf : x = false → W p l e R s m args below meth c H locs cells slots Q (F0 m (pc + 3) ls rest)) : W p l e R s m args below meth c H locs cells slots Q (F0 m pc ls (.int (pn_b x) :: rest)) :=
  lv_if_ne hexec hb hdg ht (fun z => kt (by cases x with | false => exact absurd rfl z | true => rfl)) (fun z => kf ((pn_b_eq0 x).mp z))
theorem pw_icmpb_eq (hexec : p.tables.exec = Jvm.exec) (hb : c.code = cc) {x y : Bool} {off : Int} {tgt : Nat} (hdg : decode cc pc = .ok (.if_icmp .eq off, 3)) (ht : (pc : Int) + off = (tgt : Int)) (kt : x = y → W p l e R s m args below meth c H locs cells slots Q (F0 m tgt ls rest)) (kf : x ≠ y → W p l e R s m args below meth c H locs cells slots Q (F0 m (pc + 3) ls rest)) : W p l e R s m args below meth c H locs cells slots Q (F0 m pc ls (.int (pn_b y) :: .int (pn_b x) :: rest)) :=
  lv_icmp_eq hexec hb hdg ht (fun z => kt (pn_b_inj.mp z)) (fun z => kf (fun h => z (by rw [h])))
theorem pw_icmpb_ne (hexec : p.tables.exec = Jvm.exec) (hb : c.code = cc) {x y : Bool} {off : Int} {tgt : Nat} (hdg : decode cc pc = .ok (.if_icmp .ne off, 3)) (ht : (pc : Int) + off = (tgt : Int)) (kt : x ≠ y → W p l e R s m args below meth c H locs cells slots Q (F0 m tgt ls rest)) (kf : x = y → W p l e R s m args below meth c H locs cells slots Q (F0 m (pc + 3) ls rest)) : W p l e R s m args below meth c H locs cells slots Q (F0 m pc ls (.int (pn_b y) :: .int (pn_b x) :: rest)) :=
  lv_icmp_ne hexec hb hdg ht (fun z => kt (fun h => z (by rw [h]))) (fun z => kf (pn_b_inj.mp z))
/-! ends -/
theorem pn_reti {S : Type} {post : Int32 → S → Prop} {wf : S → va_W} {w0 : va_W} {sz : Nat} {v : Int32} (u : S) (Fx : CallFix p m c cc nL s args pn_all own) (hr : meth.sig.returnType = some .int) (hlocks : meth.locks = false) (hQ : Q = MQ below (va_Qi post (fun u t => pn_post D (va_A w0 sz) (wf u) t) (va_A w0 sz)) args s 0 0 (va_A w0 sz)) (hAe : A = va_A w0 sz) (hP : va_P D pn_cl (wf u) H) (hD : va_D A (wf u)) (hS : va_S A s.heap H locs) (hp : post v u) (hdg : decode cc pc = .ok (.ireturn, 1)) :
    W p l e R s m args below meth c H locs 0 0 Q (F0 m pc ls [.int v]) := by
  subst hQ; subst hAe
  exact W.iret Fx.1 Fx.2.1 hr (fun t ht hW => ⟨⟨v, u, rfl, hp, by rw [ht]; exact hP, hD⟩, hS.F ht⟩) hS.2.2 hdg hlocks
theorem pn_retz {S : Type} {post : Int32 → S → Prop} {wf : S → va_W} {w0 : va_W} {sz : Nat} {v : Int32} {ty : FieldType} (u : S) (Fx : CallFix p m c cc nL s args pn_all own) (hr : meth.sig.returnType = some ty) (hn : narrow ty (.int v) = .int v) (hlocks : meth.locks = false) (hQ : Q = MQ below (va_Qi post (fun u t => pn_post D (va_A w0 sz) (wf u) t) (va_A w0 sz)) args s 0 0 (va_A w0 sz)) (hAe : A = va_A w0 sz) (hP : va_P D pn_cl (wf u) H) (hD : va_D A (wf u)) (hS : va_S A s.heap H locs) (hp : post v u) (hdg : decode cc pc = .ok (.ireturn, 1)) :
    W p l e R s m args below meth c H locs 0 0 Q (F0 m pc ls [.int v]) := by
  subst hQ; subst hAe
  exact W.zret Fx.1 Fx.2.1 hr hn (fun t ht hW => ⟨⟨v, u, rfl, hp, by rw [ht]; exact hP, hD⟩, hS.F ht⟩) hS.2.2 hdg hlocks
theorem pn_retl {S : Type} {post : Int64 → S → Prop} {wf : S → va_W} {w0 : va_W} {sz : Nat} {v : Int64} (u : S) (Fx : CallFix p m c cc nL s args pn_all own) (hr : meth.sig.returnType = some .long) (hlocks : meth.locks = false) (hQ : Q = MQ below (va_Ql post (fun u t => pn_post D (va_A w0 sz) (wf u) t) (va_A w0 sz)) args s 0 0 (va_A w0 sz)) (hAe : A = va_A w0 sz) (hP : va_P D pn_cl (wf u) H) (hD : va_D A (wf u)) (hS : va_S A s.heap H locs) (hp : post v u) (hdg : decode cc pc = .ok (.lreturn, 1)) :
    W p l e R s m args below meth c H locs 0 0 Q (F0 m pc ls [.long v]) := by
  subst hQ; subst hAe
  exact W.lret Fx.1 Fx.2.1 hr (fun t ht hW => ⟨⟨v, u, rfl, hp, by rw [ht]; exact hP, hD⟩, hS.F ht⟩) hS.2.2 hdg hlocks
theorem pn_retv {S : Type} {post : S → Prop} {wf : S → va_W} {w0 : va_W} {sz : Nat} (u : S) (Fx : CallFix p m c cc nL s args pn_all own) (hr : meth.sig.returnType = none) (hlocks : meth.locks = false) (hQ : Q = MQ below (va_Qv post (fun u t => pn_post D (va_A w0 sz) (wf u) t) (va_A w0 sz)) args s 0 0 (va_A w0 sz)) (hAe : A = va_A w0 sz) (hP : va_P D pn_cl (wf u) H) (hD : va_D A (wf u)) (hS : va_S A s.heap H locs) (hp : post u) (hdg : decode cc pc = .ok (.return_, 1)) :
    W p l e R s m args below meth c H locs 0 0 Q (F0 m pc ls []) := by
  subst hQ; subst hAe
  exact W.vret Fx.1 Fx.2.1 hr (fun t ht hW => ⟨⟨u, rfl, hp, by rw [ht]; exact hP, hD⟩, hS.F ht⟩) hS.2.2 hdg hlocks
end PnWalk
end
section
theorem cal_P_init : pn_cal y_P_init b_P_init 1 none 0 := ⟨q_P_init, kw_1, by decide, by decide, by decide +kernel⟩
theorem inst_P_init : Cond.instanceMethod y_P_init ∈ pn_all := kw_21
-- no selects word: P_init
theorem cal_P_set : pn_cal y_P_set b_P_set 4 (some (.int)) 2 := ⟨q_P_set, kw_1, by decide, by decide, by decide +kernel⟩
theorem inst_P_set : Cond.instanceMethod y_P_set ∈ pn_all := kw_147
theorem sel_P_set : Cond.selects (y_P_set).cls y_P_set y_P_set ∈ pn_all := kw_148
theorem cal_P_push : pn_cal y_P_push b_P_push 3 (some (.int)) 2 := ⟨q_P_push, kw_1, by decide, by decide, by decide +kernel⟩
theorem inst_P_push : Cond.instanceMethod y_P_push ∈ pn_all := kw_282
theorem sel_P_push : Cond.selects (y_P_push).cls y_P_push y_P_push ∈ pn_all := kw_283
theorem cal_P_copy : pn_cal y_P_copy b_P_copy 3 (some (.int)) 2 := ⟨q_P_copy, kw_1, by decide, by decide, by decide +kernel⟩
theorem inst_P_copy : Cond.instanceMethod y_P_copy ∈ pn_all := kw_302
theorem sel_P_copy : Cond.selects (y_P_copy).cls y_P_copy y_P_copy ∈ pn_all := kw_303
theorem cal_P_swap : pn_cal y_P_swap b_P_swap 3 (some (.int)) 2 := ⟨q_P_swap, kw_1, by decide, by decide, by decide +kernel⟩
theorem inst_P_swap : Cond.instanceMethod y_P_swap ∈ pn_all := kw_313
theorem sel_P_swap : Cond.selects (y_P_swap).cls y_P_swap y_P_swap ∈ pn_all := kw_314
theorem cal_P_negate : pn_cal y_P_negate b_P_negate 2 (some (.int)) 1 := ⟨q_P_negate, kw_1, by decide, by decide, by decide +kernel⟩
theorem inst_P_negate : Cond.instanceMethod y_P_negate ∈ pn_all := kw_328
theorem sel_P_negate : Cond.selects (y_P_negate).cls y_P_negate y_P_negate ∈ pn_all := kw_329
theorem cal_P_add : pn_cal y_P_add b_P_add 4 (some (.int)) 3 := ⟨q_P_add, kw_1, by decide, by decide, by decide +kernel⟩
theorem inst_P_add : Cond.instanceMethod y_P_add ∈ pn_all := kw_339
theorem sel_P_add : Cond.selects (y_P_add).cls y_P_add y_P_add ∈ pn_all := kw_340
theorem cal_P_subtract : pn_cal y_P_subtract b_P_subtract 4 (some (.int)) 3 := ⟨q_P_subtract, kw_1, by decide, by decide, by decide +kernel⟩
theorem inst_P_subtract : Cond.instanceMethod y_P_subtract ∈ pn_all := kw_378
theorem sel_P_subtract : Cond.selects (y_P_subtract).cls y_P_subtract y_P_subtract ∈ pn_all := kw_379
theorem cal_P_multiply : pn_cal y_P_multiply b_P_multiply 4 (some (.int)) 3 := ⟨q_P_multiply, kw_1, by decide, by decide, by decide +kernel⟩
theorem inst_P_multiply : Cond.instanceMethod y_P_multiply ∈ pn_all := kw_385
theorem sel_P_multiply : Cond.selects (y_P_multiply).cls y_P_multiply y_P_multiply ∈ pn_all := kw_386
theorem cal_P_addProduct : pn_cal y_P_addProduct b_P_addProduct 5 (some (.int)) 4 := ⟨q_P_addProduct, kw_1, by decide, by decide, by decide +kernel⟩
theorem inst_P_addProduct : Cond.instanceMethod y_P_addProduct ∈ pn_all := kw_408
theorem sel_P_addProduct : Cond.selects (y_P_addProduct).cls y_P_addProduct y_P_addProduct ∈ pn_all := kw_409
theorem cal_P_divide : pn_cal y_P_divide b_P_divide 6 (some (.int)) 4 := ⟨q_P_divide, kw_1, by decide, by decide, by decide +kernel⟩
theorem inst_P_divide : Cond.instanceMethod y_P_divide ∈ pn_all := kw_417
theorem sel_P_divide : Cond.selects (y_P_divide).cls y_P_divide y_P_divide ∈ pn_all := kw_418
theorem cal_P_exact : pn_cal y_P_exact b_P_exact 5 (some (.int)) 3 := ⟨q_P_exact, kw_1, by decide, by decide, by decide +kernel⟩
theorem inst_P_exact : Cond.instanceMethod y_P_exact ∈ pn_all := kw_513
theorem sel_P_exact : Cond.selects (y_P_exact).cls y_P_exact y_P_exact ∈ pn_all := kw_514
theorem cal_P_nearest : pn_cal y_P_nearest b_P_nearest 6 (some (.int)) 3 := ⟨q_P_nearest, kw_1, by decide, by decide, by decide +kernel⟩
theorem inst_P_nearest : Cond.instanceMethod y_P_nearest ∈ pn_all := kw_522
theorem sel_P_nearest : Cond.selects (y_P_nearest).cls y_P_nearest y_P_nearest ∈ pn_all := kw_523
theorem cal_P_gcd : pn_cal y_P_gcd b_P_gcd 4 (some (.int)) 3 := ⟨q_P_gcd, kw_1, by decide, by decide, by decide +kernel⟩
theorem inst_P_gcd : Cond.instanceMethod y_P_gcd ∈ pn_all := kw_535
theorem sel_P_gcd : Cond.selects (y_P_gcd).cls y_P_gcd y_P_gcd ∈ pn_all := kw_536
theorem cal_P_compare : pn_cal y_P_compare b_P_compare 4 (some (.int)) 2 := ⟨q_P_compare, kw_1, by decide, by decide, by decide +kernel⟩
theorem inst_P_compare : Cond.instanceMethod y_P_compare ∈ pn_all := kw_570
theorem sel_P_compare : Cond.selects (y_P_compare).cls y_P_compare y_P_compare ∈ pn_all := kw_571
theorem cal_P_sign : pn_cal y_P_sign b_P_sign 2 (some (.int)) 1 := ⟨q_P_sign, kw_1, by decide, by decide, by decide +kernel⟩
theorem inst_P_sign : Cond.instanceMethod y_P_sign ∈ pn_all := kw_577
theorem sel_P_sign : Cond.selects (y_P_sign).cls y_P_sign y_P_sign ∈ pn_all := kw_578
theorem cal_P_length : pn_cal y_P_length b_P_length 2 (some (.int)) 1 := ⟨q_P_length, kw_1, by decide, by decide, by decide +kernel⟩
theorem inst_P_length : Cond.instanceMethod y_P_length ∈ pn_all := kw_321
theorem sel_P_length : Cond.selects (y_P_length).cls y_P_length y_P_length ∈ pn_all := kw_322
theorem cal_P_limb : pn_cal y_P_limb b_P_limb 3 (some (.int)) 2 := ⟨q_P_limb, kw_1, by decide, by decide, by decide +kernel⟩
theorem inst_P_limb : Cond.instanceMethod y_P_limb ∈ pn_all := kw_588
theorem sel_P_limb : Cond.selects (y_P_limb).cls y_P_limb y_P_limb ∈ pn_all := kw_589
theorem cal_P_rest : pn_cal y_P_rest b_P_rest 5 (some (.int)) 2 := ⟨q_P_rest, kw_1, by decide, by decide, by decide +kernel⟩
theorem inst_P_rest : Cond.instanceMethod y_P_rest ∈ pn_all := kw_597
theorem sel_P_rest : Cond.selects (y_P_rest).cls y_P_rest y_P_rest ∈ pn_all := kw_598
theorem cal_P_print : pn_cal y_P_print b_P_print 2 (some (.int)) 1 := ⟨q_P_print, kw_1, by decide, by decide, by decide +kernel⟩
theorem inst_P_print : Cond.instanceMethod y_P_print ∈ pn_all := kw_606
theorem sel_P_print : Cond.selects (y_P_print).cls y_P_print y_P_print ∈ pn_all := kw_607
theorem cal_P_character : pn_cal y_P_character b_P_character 2 (some (.int)) 1 := ⟨q_P_character, kw_1, by decide, by decide, by decide +kernel⟩
theorem inst_P_character : Cond.instanceMethod y_P_character ∈ pn_all := kw_135
theorem sel_P_character : Cond.selects (y_P_character).cls y_P_character y_P_character ∈ pn_all := kw_136
theorem cal_P_needRegister : pn_cal y_P_needRegister b_P_needRegister 2 none 1 := ⟨q_P_needRegister, kw_1, by decide, by decide, by decide +kernel⟩
theorem inst_P_needRegister : Cond.instanceMethod y_P_needRegister ∈ pn_all := kw_152
theorem sel_P_needRegister : Cond.selects (y_P_needRegister).cls y_P_needRegister y_P_needRegister ∈ pn_all := ks_1
theorem cal_P_needRegisters : pn_cal y_P_needRegisters b_P_needRegisters 3 none 2 := ⟨q_P_needRegisters, kw_1, by decide, by decide, by decide +kernel⟩
theorem inst_P_needRegisters : Cond.instanceMethod y_P_needRegisters ∈ pn_all := kw_307
theorem sel_P_needRegisters : Cond.selects (y_P_needRegisters).cls y_P_needRegisters y_P_needRegisters ∈ pn_all := ks_14
theorem cal_P_needLength : pn_cal y_P_needLength b_P_needLength 2 none 1 := ⟨q_P_needLength, kw_1, by decide, by decide, by decide +kernel⟩
theorem inst_P_needLength : Cond.instanceMethod y_P_needLength ∈ pn_all := kw_244
theorem sel_P_needLength : Cond.selects (y_P_needLength).cls y_P_needLength y_P_needLength ∈ pn_all := ks_7
theorem cal_P_needDivisorAboveZero : pn_cal y_P_needDivisorAboveZero b_P_needDivisorAboveZero 1 none 0 := ⟨q_P_needDivisorAboveZero, kw_1, by decide, by decide, by decide +kernel⟩
theorem inst_P_needDivisorAboveZero : Cond.instanceMethod y_P_needDivisorAboveZero ∈ pn_all := kw_438
theorem sel_P_needDivisorAboveZero : Cond.selects (y_P_needDivisorAboveZero).cls y_P_needDivisorAboveZero y_P_needDivisorAboveZero ∈ pn_all := ks_28
theorem cal_P_readBoth : pn_cal y_P_readBoth b_P_readBoth 3 none 2 := ⟨q_P_readBoth, kw_1, by decide, by decide, by decide +kernel⟩
theorem inst_P_readBoth : Cond.instanceMethod y_P_readBoth ∈ pn_all := kw_348
theorem sel_P_readBoth : Cond.selects (y_P_readBoth).cls y_P_readBoth y_P_readBoth ∈ pn_all := ks_18
theorem cal_P_leastProductBits : pn_cal y_P_leastProductBits b_P_leastProductBits 1 (some (.int)) 0 := ⟨q_P_leastProductBits, kw_1, by decide, by decide, by decide +kernel⟩
theorem inst_P_leastProductBits : Cond.instanceMethod y_P_leastProductBits ∈ pn_all := kw_390
theorem sel_P_leastProductBits : Cond.selects (y_P_leastProductBits).cls y_P_leastProductBits y_P_leastProductBits ∈ pn_all := ks_24
theorem cal_P_keepSum : pn_cal y_P_keepSum b_P_keepSum 5 (some (.int)) 4 := ⟨q_P_keepSum, kw_1, by decide, by decide, by decide +kernel⟩
theorem inst_P_keepSum : Cond.instanceMethod y_P_keepSum ∈ pn_all := kw_344
theorem sel_P_keepSum : Cond.selects (y_P_keepSum).cls y_P_keepSum y_P_keepSum ∈ pn_all := ks_17
theorem cal_P_keep : pn_cal y_P_keep b_P_keep 4 (some (.int)) 2 := ⟨q_P_keep, kw_1, by decide, by decide, by decide +kernel⟩
theorem inst_P_keep : Cond.instanceMethod y_P_keep ∈ pn_all := kw_232
theorem sel_P_keep : Cond.selects (y_P_keep).cls y_P_keep y_P_keep ∈ pn_all := ks_5
theorem cal_M_init : pn_cal y_M_init b_M_init 1 none 0 := ⟨q_M_init, kw_6, by decide, by decide, by decide +kernel⟩
theorem inst_M_init : Cond.instanceMethod y_M_init ∈ pn_all := kw_626
-- no selects word: M_init
theorem cal_M_thrown : pn_cal y_M_thrown b_M_thrown 1 (some (.int)) 0 := ⟨q_M_thrown, kw_6, by decide, by decide, by decide +kernel⟩
theorem inst_M_thrown : Cond.instanceMethod y_M_thrown ∈ pn_all := kw_659
theorem sel_M_thrown : Cond.selects (y_M_thrown).cls y_M_thrown y_M_thrown ∈ pn_all := kw_660
theorem cal_M_refuses : pn_cal y_M_refuses b_M_refuses 2 (some (.boolean)) 1 := ⟨q_M_refuses, kw_6, by decide, by decide, by decide +kernel⟩
theorem inst_M_refuses : Cond.instanceMethod y_M_refuses ∈ pn_all := kw_671
theorem sel_M_refuses : Cond.selects (y_M_refuses).cls y_M_refuses y_M_refuses ∈ pn_all := ks_43
theorem cal_M_isRegister : pn_cal y_M_isRegister b_M_isRegister 1 (some (.boolean)) 1 := ⟨q_M_isRegister, kw_6, by decide, by decide, by decide +kernel⟩
theorem stat_M_isRegister : Cond.static y_M_isRegister ∈ pn_all := kw_667
theorem cal_M_are : pn_cal y_M_are b_M_are 3 (some (.boolean)) 3 := ⟨q_M_are, kw_6, by decide, by decide, by decide +kernel⟩
theorem stat_M_are : Cond.static y_M_are ∈ pn_all := kw_725
theorem cal_M_trim : pn_cal y_M_trim b_M_trim 4 none 2 := ⟨q_M_trim, kw_6, by decide, by decide, by decide +kernel⟩
theorem inst_M_trim : Cond.instanceMethod y_M_trim ∈ pn_all := kw_697
theorem sel_M_trim : Cond.selects (y_M_trim).cls y_M_trim y_M_trim ∈ pn_all := ks_49
theorem cal_M_setLong : pn_cal y_M_setLong b_M_setLong 8 none 2 := ⟨q_M_setLong, kw_6, by decide, by decide, by decide +kernel⟩
theorem inst_M_setLong : Cond.instanceMethod y_M_setLong ∈ pn_all := kw_675
theorem sel_M_setLong : Cond.selects (y_M_setLong).cls y_M_setLong y_M_setLong ∈ pn_all := ks_44
theorem cal_M_copyTo : pn_cal y_M_copyTo b_M_copyTo 4 none 2 := ⟨q_M_copyTo, kw_6, by decide, by decide, by decide +kernel⟩
theorem inst_M_copyTo : Cond.instanceMethod y_M_copyTo ∈ pn_all := kw_692
theorem sel_M_copyTo : Cond.selects (y_M_copyTo).cls y_M_copyTo y_M_copyTo ∈ pn_all := ks_48
theorem cal_M_order : pn_cal y_M_order b_M_order 5 (some (.int)) 2 := ⟨q_M_order, kw_6, by decide, by decide, by decide +kernel⟩
theorem inst_M_order : Cond.instanceMethod y_M_order ∈ pn_all := kw_745
theorem sel_M_order : Cond.selects (y_M_order).cls y_M_order y_M_order ∈ pn_all := ks_55
theorem cal_M_figure : pn_cal y_M_figure b_M_figure 3 (some (.int)) 2 := ⟨q_M_figure, kw_6, by decide, by decide, by decide +kernel⟩
theorem inst_M_figure : Cond.instanceMethod y_M_figure ∈ pn_all := kw_718
theorem sel_M_figure : Cond.selects (y_M_figure).cls y_M_figure y_M_figure ∈ pn_all := ks_53
theorem cal_M_addTo : pn_cal y_M_addTo b_M_addTo 7 none 2 := ⟨q_M_addTo, kw_6, by decide, by decide, by decide +kernel⟩
theorem inst_M_addTo : Cond.instanceMethod y_M_addTo ∈ pn_all := kw_714
theorem sel_M_addTo : Cond.selects (y_M_addTo).cls y_M_addTo y_M_addTo ∈ pn_all := ks_52
theorem cal_M_takeFrom : pn_cal y_M_takeFrom b_M_takeFrom 6 none 2 := ⟨q_M_takeFrom, kw_6, by decide, by decide, by decide +kernel⟩
theorem inst_M_takeFrom : Cond.instanceMethod y_M_takeFrom ∈ pn_all := kw_749
theorem sel_M_takeFrom : Cond.selects (y_M_takeFrom).cls y_M_takeFrom y_M_takeFrom ∈ pn_all := ks_56
theorem cal_M_small : pn_cal y_M_small b_M_small 7 none 2 := ⟨q_M_small, kw_6, by decide, by decide, by decide +kernel⟩
theorem inst_M_small : Cond.instanceMethod y_M_small ∈ pn_all := kw_709
theorem sel_M_small : Cond.selects (y_M_small).cls y_M_small y_M_small ∈ pn_all := ks_51
theorem cal_M_product : pn_cal y_M_product b_M_product 10 none 3 := ⟨q_M_product, kw_6, by decide, by decide, by decide +kernel⟩
theorem inst_M_product : Cond.instanceMethod y_M_product ∈ pn_all := kw_761
theorem sel_M_product : Cond.selects (y_M_product).cls y_M_product y_M_product ∈ pn_all := ks_57
theorem cal_M_takes : pn_cal y_M_takes b_M_takes 10 (some (.boolean)) 4 := ⟨q_M_takes, kw_6, by decide, by decide, by decide +kernel⟩
theorem inst_M_takes : Cond.instanceMethod y_M_takes ∈ pn_all := kw_783
theorem sel_M_takes : Cond.selects (y_M_takes).cls y_M_takes y_M_takes ∈ pn_all := ks_60
theorem cal_M_divideBy : pn_cal y_M_divideBy b_M_divideBy 12 none 3 := ⟨q_M_divideBy, kw_6, by decide, by decide, by decide +kernel⟩
theorem inst_M_divideBy : Cond.instanceMethod y_M_divideBy ∈ pn_all := kw_777
theorem sel_M_divideBy : Cond.selects (y_M_divideBy).cls y_M_divideBy y_M_divideBy ∈ pn_all := ks_59
theorem cal_M_common : pn_cal y_M_common b_M_common 3 none 2 := ⟨q_M_common, kw_6, by decide, by decide, by decide +kernel⟩
theorem inst_M_common : Cond.instanceMethod y_M_common ∈ pn_all := kw_799
theorem sel_M_common : Cond.selects (y_M_common).cls y_M_common y_M_common ∈ pn_all := ks_61
theorem cal_M_parts : pn_cal y_M_parts b_M_parts 6 (some (.int)) 1 := ⟨q_M_parts, kw_6, by decide, by decide, by decide +kernel⟩
theorem inst_M_parts : Cond.instanceMethod y_M_parts ∈ pn_all := kw_688
theorem sel_M_parts : Cond.selects (y_M_parts).cls y_M_parts y_M_parts ∈ pn_all := ks_47
theorem cal_M_bits : pn_cal y_M_bits b_M_bits 4 (some (.int)) 1 := ⟨q_M_bits, kw_6, by decide, by decide, by decide +kernel⟩
theorem inst_M_bits : Cond.instanceMethod y_M_bits ∈ pn_all := kw_684
theorem sel_M_bits : Cond.selects (y_M_bits).cls y_M_bits y_M_bits ∈ pn_all := ks_46
theorem cal_M_load : pn_cal y_M_load b_M_load 4 none 2 := ⟨q_M_load, kw_6, by decide, by decide, by decide +kernel⟩
theorem inst_M_load : Cond.instanceMethod y_M_load ∈ pn_all := kw_705
theorem sel_M_load : Cond.selects (y_M_load).cls y_M_load y_M_load ∈ pn_all := ks_50
theorem cal_M_put : pn_cal y_M_put b_M_put 7 (some (.int)) 4 := ⟨q_M_put, kw_6, by decide, by decide, by decide +kernel⟩
theorem inst_M_put : Cond.instanceMethod y_M_put ∈ pn_all := kw_680
theorem sel_M_put : Cond.selects (y_M_put).cls y_M_put y_M_put ∈ pn_all := ks_45
theorem cal_M_set : pn_cal y_M_set b_M_set 4 (some (.int)) 2 := ⟨q_M_set, kw_6, by decide, by decide, by decide +kernel⟩
theorem inst_M_set : Cond.instanceMethod y_M_set ∈ pn_all := kw_663
theorem sel_M_set : Cond.selects (y_M_set).cls y_M_set y_M_set ∈ pn_all := kw_664
theorem cal_M_push : pn_cal y_M_push b_M_push 3 (some (.int)) 2 := ⟨q_M_push, kw_6, by decide, by decide, by decide +kernel⟩
theorem inst_M_push : Cond.instanceMethod y_M_push ∈ pn_all := kw_700
theorem sel_M_push : Cond.selects (y_M_push).cls y_M_push y_M_push ∈ pn_all := kw_701
theorem cal_M_copy : pn_cal y_M_copy b_M_copy 3 (some (.int)) 2 := ⟨q_M_copy, kw_6, by decide, by decide, by decide +kernel⟩
theorem inst_M_copy : Cond.instanceMethod y_M_copy ∈ pn_all := kw_721
theorem sel_M_copy : Cond.selects (y_M_copy).cls y_M_copy y_M_copy ∈ pn_all := kw_722
theorem cal_M_swap : pn_cal y_M_swap b_M_swap 4 (some (.int)) 2 := ⟨q_M_swap, kw_6, by decide, by decide, by decide +kernel⟩
theorem inst_M_swap : Cond.instanceMethod y_M_swap ∈ pn_all := kw_728
theorem sel_M_swap : Cond.selects (y_M_swap).cls y_M_swap y_M_swap ∈ pn_all := kw_729
theorem cal_M_negate : pn_cal y_M_negate b_M_negate 2 (some (.int)) 1 := ⟨q_M_negate, kw_6, by decide, by decide, by decide +kernel⟩
theorem inst_M_negate : Cond.instanceMethod y_M_negate ∈ pn_all := kw_732
theorem sel_M_negate : Cond.selects (y_M_negate).cls y_M_negate y_M_negate ∈ pn_all := kw_733
theorem cal_M_sum : pn_cal y_M_sum b_M_sum 4 (some (.int)) 2 := ⟨q_M_sum, kw_6, by decide, by decide, by decide +kernel⟩
theorem inst_M_sum : Cond.instanceMethod y_M_sum ∈ pn_all := kw_741
theorem sel_M_sum : Cond.selects (y_M_sum).cls y_M_sum y_M_sum ∈ pn_all := ks_54
theorem cal_M_add : pn_cal y_M_add b_M_add 5 (some (.int)) 3 := ⟨q_M_add, kw_6, by decide, by decide, by decide +kernel⟩
theorem inst_M_add : Cond.instanceMethod y_M_add ∈ pn_all := kw_736
theorem sel_M_add : Cond.selects (y_M_add).cls y_M_add y_M_add ∈ pn_all := kw_737
theorem cal_M_subtract : pn_cal y_M_subtract b_M_subtract 5 (some (.int)) 3 := ⟨q_M_subtract, kw_6, by decide, by decide, by decide +kernel⟩
theorem inst_M_subtract : Cond.instanceMethod y_M_subtract ∈ pn_all := kw_752
theorem sel_M_subtract : Cond.selects (y_M_subtract).cls y_M_subtract y_M_subtract ∈ pn_all := kw_753
theorem cal_M_multiply : pn_cal y_M_multiply b_M_multiply 4 (some (.int)) 3 := ⟨q_M_multiply, kw_6, by decide, by decide, by decide +kernel⟩
theorem inst_M_multiply : Cond.instanceMethod y_M_multiply ∈ pn_all := kw_756
theorem sel_M_multiply : Cond.selects (y_M_multiply).cls y_M_multiply y_M_multiply ∈ pn_all := kw_757
theorem cal_M_addProduct : pn_cal y_M_addProduct b_M_addProduct 7 (some (.int)) 4 := ⟨q_M_addProduct, kw_6, by decide, by decide, by decide +kernel⟩
theorem inst_M_addProduct : Cond.instanceMethod y_M_addProduct ∈ pn_all := kw_764
theorem sel_M_addProduct : Cond.selects (y_M_addProduct).cls y_M_addProduct y_M_addProduct ∈ pn_all := kw_765
theorem cal_M_down : pn_cal y_M_down b_M_down 2 none 1 := ⟨q_M_down, kw_6, by decide, by decide, by decide +kernel⟩
theorem inst_M_down : Cond.instanceMethod y_M_down ∈ pn_all := kw_773
theorem sel_M_down : Cond.selects (y_M_down).cls y_M_down y_M_down ∈ pn_all := ks_58
theorem cal_M_divide : pn_cal y_M_divide b_M_divide 7 (some (.int)) 4 := ⟨q_M_divide, kw_6, by decide, by decide, by decide +kernel⟩
theorem inst_M_divide : Cond.instanceMethod y_M_divide ∈ pn_all := kw_768
theorem sel_M_divide : Cond.selects (y_M_divide).cls y_M_divide y_M_divide ∈ pn_all := kw_769
theorem cal_M_exact : pn_cal y_M_exact b_M_exact 4 (some (.int)) 3 := ⟨q_M_exact, kw_6, by decide, by decide, by decide +kernel⟩
theorem inst_M_exact : Cond.instanceMethod y_M_exact ∈ pn_all := kw_786
theorem sel_M_exact : Cond.selects (y_M_exact).cls y_M_exact y_M_exact ∈ pn_all := kw_787
theorem cal_M_nearest : pn_cal y_M_nearest b_M_nearest 7 (some (.int)) 3 := ⟨q_M_nearest, kw_6, by decide, by decide, by decide +kernel⟩
theorem inst_M_nearest : Cond.instanceMethod y_M_nearest ∈ pn_all := kw_790
theorem sel_M_nearest : Cond.selects (y_M_nearest).cls y_M_nearest y_M_nearest ∈ pn_all := kw_791
theorem cal_M_gcd : pn_cal y_M_gcd b_M_gcd 4 (some (.int)) 3 := ⟨q_M_gcd, kw_6, by decide, by decide, by decide +kernel⟩
theorem inst_M_gcd : Cond.instanceMethod y_M_gcd ∈ pn_all := kw_794
theorem sel_M_gcd : Cond.selects (y_M_gcd).cls y_M_gcd y_M_gcd ∈ pn_all := kw_795
theorem cal_M_compare : pn_cal y_M_compare b_M_compare 3 (some (.int)) 2 := ⟨q_M_compare, kw_6, by decide, by decide, by decide +kernel⟩
theorem inst_M_compare : Cond.instanceMethod y_M_compare ∈ pn_all := kw_802
theorem sel_M_compare : Cond.selects (y_M_compare).cls y_M_compare y_M_compare ∈ pn_all := kw_803
theorem cal_M_sign : pn_cal y_M_sign b_M_sign 2 (some (.int)) 1 := ⟨q_M_sign, kw_6, by decide, by decide, by decide +kernel⟩
theorem inst_M_sign : Cond.instanceMethod y_M_sign ∈ pn_all := kw_806
theorem sel_M_sign : Cond.selects (y_M_sign).cls y_M_sign y_M_sign ∈ pn_all := kw_807
theorem cal_M_length : pn_cal y_M_length b_M_length 2 (some (.int)) 1 := ⟨q_M_length, kw_6, by decide, by decide, by decide +kernel⟩
theorem inst_M_length : Cond.instanceMethod y_M_length ∈ pn_all := kw_810
theorem sel_M_length : Cond.selects (y_M_length).cls y_M_length y_M_length ∈ pn_all := kw_811
theorem cal_M_limb : pn_cal y_M_limb b_M_limb 6 (some (.int)) 2 := ⟨q_M_limb, kw_6, by decide, by decide, by decide +kernel⟩
theorem inst_M_limb : Cond.instanceMethod y_M_limb ∈ pn_all := kw_814
theorem sel_M_limb : Cond.selects (y_M_limb).cls y_M_limb y_M_limb ∈ pn_all := kw_815
theorem cal_M_rest : pn_cal y_M_rest b_M_rest 6 (some (.int)) 2 := ⟨q_M_rest, kw_6, by decide, by decide, by decide +kernel⟩
theorem inst_M_rest : Cond.instanceMethod y_M_rest ∈ pn_all := kw_818
theorem sel_M_rest : Cond.selects (y_M_rest).cls y_M_rest y_M_rest ∈ pn_all := kw_819
theorem cal_M_print : pn_cal y_M_print b_M_print 5 (some (.int)) 1 := ⟨q_M_print, kw_6, by decide, by decide, by decide +kernel⟩
theorem inst_M_print : Cond.instanceMethod y_M_print ∈ pn_all := kw_822
theorem sel_M_print : Cond.selects (y_M_print).cls y_M_print y_M_print ∈ pn_all := kw_823
theorem cal_M_character : pn_cal y_M_character b_M_character 2 (some (.int)) 1 := ⟨q_M_character, kw_6, by decide, by decide, by decide +kernel⟩
theorem inst_M_character : Cond.instanceMethod y_M_character ∈ pn_all := kw_826
theorem sel_M_character : Cond.selects (y_M_character).cls y_M_character y_M_character ∈ pn_all := kw_827
theorem cal_D_split : pn_cal y_D_split b_D_split 5 none 3 := ⟨q_D_split, kw_17, by decide, by decide, by decide +kernel⟩
theorem stat_D_split : Cond.static y_D_split ∈ pn_all := kw_461
theorem cal_D_splitByLong : pn_cal y_D_splitByLong b_D_splitByLong 9 none 3 := ⟨q_D_splitByLong, kw_17, by decide, by decide, by decide +kernel⟩
theorem stat_D_splitByLong : Cond.static y_D_splitByLong ∈ pn_all := kw_479
theorem cal_D_guess : pn_cal y_D_guess b_D_guess 15 (some (.long)) 4 := ⟨q_D_guess, kw_17, by decide, by decide, by decide +kernel⟩
theorem stat_D_guess : Cond.static y_D_guess ∈ pn_all := kw_488
theorem cal_D_takeMultiple : pn_cal y_D_takeMultiple b_D_takeMultiple 10 (some (.boolean)) 4 := ⟨q_D_takeMultiple, kw_17, by decide, by decide, by decide +kernel⟩
theorem stat_D_takeMultiple : Cond.static y_D_takeMultiple ∈ pn_all := kw_493
theorem cal_D_putBack : pn_cal y_D_putBack b_D_putBack 6 none 3 := ⟨q_D_putBack, kw_17, by decide, by decide, by decide +kernel⟩
theorem stat_D_putBack : Cond.static y_D_putBack ∈ pn_all := kw_496
theorem cal_D_unsigned : pn_cal y_D_unsigned b_D_unsigned 6 (some (.long)) 2 := ⟨q_D_unsigned, kw_17, by decide, by decide, by decide +kernel⟩
theorem stat_D_unsigned : Cond.static y_D_unsigned ∈ pn_all := kw_475
theorem cal_E_init : pn_cal y_E_init b_E_init 1 none 0 := ⟨q_E_init, kw_3, by decide, by decide, by decide +kernel⟩
theorem inst_E_init : Cond.instanceMethod y_E_init ∈ pn_all := kw_53
-- no selects word: E_init
theorem cal_E_greatest : pn_cal y_E_greatest b_E_greatest 10 (some (.object "PackedNumbers$Row")) 3 := ⟨q_E_greatest, kw_3, by decide, by decide, by decide +kernel⟩
theorem inst_E_greatest : Cond.instanceMethod y_E_greatest ∈ pn_all := kw_540
theorem sel_E_greatest : Cond.selects (y_E_greatest).cls y_E_greatest y_E_greatest ∈ pn_all := ks_36
theorem cal_E_foresee : pn_cal y_E_foresee b_E_foresee 18 none 2 := ⟨q_E_foresee, kw_3, by decide, by decide, by decide +kernel⟩
theorem inst_E_foresee : Cond.instanceMethod y_E_foresee ∈ pn_all := kw_552
theorem sel_E_foresee : Cond.selects (y_E_foresee).cls y_E_foresee y_E_foresee ∈ pn_all := ks_38
theorem cal_E_follow : pn_cal y_E_follow b_E_follow 13 none 2 := ⟨q_E_follow, kw_3, by decide, by decide, by decide +kernel⟩
theorem inst_E_follow : Cond.instanceMethod y_E_follow ∈ pn_all := kw_560
theorem sel_E_follow : Cond.selects (y_E_follow).cls y_E_follow y_E_follow ∈ pn_all := ks_39
theorem cal_R_init : pn_cal y_R_init b_R_init 1 none 0 := ⟨q_R_init, kw_5, by decide, by decide, by decide +kernel⟩
theorem inst_R_init : Cond.instanceMethod y_R_init ∈ pn_all := kw_86
-- no selects word: R_init
theorem cal_R_become : pn_cal y_R_become b_R_become 5 none 1 := ⟨q_R_become, kw_5, by decide, by decide, by decide +kernel⟩
theorem inst_R_become : Cond.instanceMethod y_R_become ∈ pn_all := kw_224
theorem sel_R_become : Cond.selects (y_R_become).cls y_R_become y_R_become ∈ pn_all := ks_3
theorem cal_R_take : pn_cal y_R_take b_R_take 2 none 1 := ⟨q_R_take, kw_5, by decide, by decide, by decide +kernel⟩
theorem inst_R_take : Cond.instanceMethod y_R_take ∈ pn_all := kw_467
theorem sel_R_take : Cond.selects (y_R_take).cls y_R_take y_R_take ∈ pn_all := ks_30
theorem cal_R_fit : pn_cal y_R_fit b_R_fit 3 none 1 := ⟨q_R_fit, kw_5, by decide, by decide, by decide +kernel⟩
theorem inst_R_fit : Cond.instanceMethod y_R_fit ∈ pn_all := kw_228
theorem sel_R_fit : Cond.selects (y_R_fit).cls y_R_fit y_R_fit ∈ pn_all := ks_4
theorem cal_R_clear : pn_cal y_R_clear b_R_clear 4 none 2 := ⟨q_R_clear, kw_5, by decide, by decide, by decide +kernel⟩
theorem inst_R_clear : Cond.instanceMethod y_R_clear ∈ pn_all := kw_398
theorem sel_R_clear : Cond.selects (y_R_clear).cls y_R_clear y_R_clear ∈ pn_all := ks_26
theorem cal_R_turnBelowIf : pn_cal y_R_turnBelowIf b_R_turnBelowIf 2 none 1 := ⟨q_R_turnBelowIf, kw_5, by decide, by decide, by decide +kernel⟩
theorem inst_R_turnBelowIf : Cond.instanceMethod y_R_turnBelowIf ∈ pn_all := kw_296
theorem sel_R_turnBelowIf : Cond.selects (y_R_turnBelowIf).cls y_R_turnBelowIf y_R_turnBelowIf ∈ pn_all := ks_13
theorem cal_R_bits : pn_cal y_R_bits b_R_bits 1 (some (.int)) 0 := ⟨q_R_bits, kw_5, by decide, by decide, by decide +kernel⟩
theorem inst_R_bits : Cond.instanceMethod y_R_bits ∈ pn_all := kw_236
theorem sel_R_bits : Cond.selects (y_R_bits).cls y_R_bits y_R_bits ∈ pn_all := ks_6
theorem cal_R_signum : pn_cal y_R_signum b_R_signum 1 (some (.int)) 0 := ⟨q_R_signum, kw_5, by decide, by decide, by decide +kernel⟩
theorem inst_R_signum : Cond.instanceMethod y_R_signum ∈ pn_all := kw_442
theorem sel_R_signum : Cond.selects (y_R_signum).cls y_R_signum y_R_signum ∈ pn_all := ks_29
theorem cal_R_isOdd : pn_cal y_R_isOdd b_R_isOdd 1 (some (.boolean)) 0 := ⟨q_R_isOdd, kw_5, by decide, by decide, by decide +kernel⟩
theorem inst_R_isOdd : Cond.instanceMethod y_R_isOdd ∈ pn_all := kw_529
theorem sel_R_isOdd : Cond.selects (y_R_isOdd).cls y_R_isOdd y_R_isOdd ∈ pn_all := ks_35
theorem cal_R_limbAt : pn_cal y_R_limbAt b_R_limbAt 2 (some (.long)) 1 := ⟨q_R_limbAt, kw_5, by decide, by decide, by decide +kernel⟩
theorem inst_R_limbAt : Cond.instanceMethod y_R_limbAt ∈ pn_all := kw_363
theorem sel_R_limbAt : Cond.selects (y_R_limbAt).cls y_R_limbAt y_R_limbAt ∈ pn_all := ks_21
theorem cal_R_putBelow : pn_cal y_R_putBelow b_R_putBelow 3 none 1 := ⟨q_R_putBelow, kw_5, by decide, by decide, by decide +kernel⟩
theorem inst_R_putBelow : Cond.instanceMethod y_R_putBelow ∈ pn_all := kw_291
theorem sel_R_putBelow : Cond.selects (y_R_putBelow).cls y_R_putBelow y_R_putBelow ∈ pn_all := ks_12
theorem cal_R_compareSize : pn_cal y_R_compareSize b_R_compareSize 3 (some (.int)) 1 := ⟨q_R_compareSize, kw_5, by decide, by decide, by decide +kernel⟩
theorem inst_R_compareSize : Cond.instanceMethod y_R_compareSize ∈ pn_all := kw_368
theorem sel_R_compareSize : Cond.selects (y_R_compareSize).cls y_R_compareSize y_R_compareSize ∈ pn_all := ks_22
theorem cal_R_becomeSum : pn_cal y_R_becomeSum b_R_becomeSum 5 none 3 := ⟨q_R_becomeSum, kw_5, by decide, by decide, by decide +kernel⟩
theorem inst_R_becomeSum : Cond.instanceMethod y_R_becomeSum ∈ pn_all := kw_352
theorem sel_R_becomeSum : Cond.selects (y_R_becomeSum).cls y_R_becomeSum y_R_becomeSum ∈ pn_all := ks_19
theorem cal_R_becomeSizeSum : pn_cal y_R_becomeSizeSum b_R_becomeSizeSum 7 none 2 := ⟨q_R_becomeSizeSum, kw_5, by decide, by decide, by decide +kernel⟩
theorem inst_R_becomeSizeSum : Cond.instanceMethod y_R_becomeSizeSum ∈ pn_all := kw_356
theorem sel_R_becomeSizeSum : Cond.selects (y_R_becomeSizeSum).cls y_R_becomeSizeSum y_R_becomeSizeSum ∈ pn_all := ks_20
theorem cal_R_becomeSizeDifference : pn_cal y_R_becomeSizeDifference b_R_becomeSizeDifference 6 none 2 := ⟨q_R_becomeSizeDifference, kw_5, by decide, by decide, by decide +kernel⟩
theorem inst_R_becomeSizeDifference : Cond.instanceMethod y_R_becomeSizeDifference ∈ pn_all := kw_372
theorem sel_R_becomeSizeDifference : Cond.selects (y_R_becomeSizeDifference).cls y_R_becomeSizeDifference y_R_becomeSizeDifference ∈ pn_all := ks_23
theorem cal_R_becomeProduct : pn_cal y_R_becomeProduct b_R_becomeProduct 5 none 2 := ⟨q_R_becomeProduct, kw_5, by decide, by decide, by decide +kernel⟩
theorem inst_R_becomeProduct : Cond.instanceMethod y_R_becomeProduct ∈ pn_all := kw_394
theorem sel_R_becomeProduct : Cond.selects (y_R_becomeProduct).cls y_R_becomeProduct y_R_becomeProduct ∈ pn_all := ks_25
theorem cal_R_addMultiple : pn_cal y_R_addMultiple b_R_addMultiple 8 (some (.int)) 3 := ⟨q_R_addMultiple, kw_5, by decide, by decide, by decide +kernel⟩
theorem inst_R_addMultiple : Cond.instanceMethod y_R_addMultiple ∈ pn_all := kw_402
theorem sel_R_addMultiple : Cond.selects (y_R_addMultiple).cls y_R_addMultiple y_R_addMultiple ∈ pn_all := ks_27
theorem cal_R_increase : pn_cal y_R_increase b_R_increase 2 none 0 := ⟨q_R_increase, kw_5, by decide, by decide, by decide +kernel⟩
theorem inst_R_increase : Cond.instanceMethod y_R_increase ∈ pn_all := kw_504
theorem sel_R_increase : Cond.selects (y_R_increase).cls y_R_increase y_R_increase ∈ pn_all := ks_34
theorem cal_R_shrink : pn_cal y_R_shrink b_R_shrink 10 (some (.long)) 1 := ⟨q_R_shrink, kw_5, by decide, by decide, by decide +kernel⟩
theorem inst_R_shrink : Cond.instanceMethod y_R_shrink ∈ pn_all := kw_472
theorem sel_R_shrink : Cond.selects (y_R_shrink).cls y_R_shrink y_R_shrink ∈ pn_all := ks_31
theorem cal_R_shiftUp : pn_cal y_R_shiftUp b_R_shiftUp 7 none 1 := ⟨q_R_shiftUp, kw_5, by decide, by decide, by decide +kernel⟩
theorem inst_R_shiftUp : Cond.instanceMethod y_R_shiftUp ∈ pn_all := kw_484
theorem sel_R_shiftUp : Cond.selects (y_R_shiftUp).cls y_R_shiftUp y_R_shiftUp ∈ pn_all := ks_32
theorem cal_R_shiftDown : pn_cal y_R_shiftDown b_R_shiftDown 7 none 1 := ⟨q_R_shiftDown, kw_5, by decide, by decide, by decide +kernel⟩
theorem inst_R_shiftDown : Cond.instanceMethod y_R_shiftDown ∈ pn_all := kw_500
theorem sel_R_shiftDown : Cond.selects (y_R_shiftDown).cls y_R_shiftDown y_R_shiftDown ∈ pn_all := ks_33
theorem cal_R_bitsFrom : pn_cal y_R_bitsFrom b_R_bitsFrom 6 (some (.long)) 1 := ⟨q_R_bitsFrom, kw_5, by decide, by decide, by decide +kernel⟩
theorem inst_R_bitsFrom : Cond.instanceMethod y_R_bitsFrom ∈ pn_all := kw_548
theorem sel_R_bitsFrom : Cond.selects (y_R_bitsFrom).cls y_R_bitsFrom y_R_bitsFrom ∈ pn_all := ks_37
theorem cal_S_init : pn_cal y_S_init b_S_init 1 none 0 := ⟨q_S_init, kw_2, by decide, by decide, by decide +kernel⟩
theorem inst_S_init : Cond.instanceMethod y_S_init ∈ pn_all := kw_29
-- no selects word: S_init
theorem cal_S_read : pn_cal y_S_read b_S_read 3 none 2 := ⟨q_S_read, kw_2, by decide, by decide, by decide +kernel⟩
theorem inst_S_read : Cond.instanceMethod y_S_read ∈ pn_all := kw_287
theorem sel_S_read : Cond.selects (y_S_read).cls y_S_read y_S_read ∈ pn_all := ks_11
theorem cal_S_write : pn_cal y_S_write b_S_write 3 none 2 := ⟨q_S_write, kw_2, by decide, by decide, by decide +kernel⟩
theorem inst_S_write : Cond.instanceMethod y_S_write ∈ pn_all := kw_264
theorem sel_S_write : Cond.selects (y_S_write).cls y_S_write y_S_write ∈ pn_all := ks_8
theorem cal_S_exchange : pn_cal y_S_exchange b_S_exchange 6 none 2 := ⟨q_S_exchange, kw_2, by decide, by decide, by decide +kernel⟩
theorem inst_S_exchange : Cond.instanceMethod y_S_exchange ∈ pn_all := kw_318
theorem sel_S_exchange : Cond.selects (y_S_exchange).cls y_S_exchange y_S_exchange ∈ pn_all := ks_15
theorem cal_S_turn : pn_cal y_S_turn b_S_turn 2 none 1 := ⟨q_S_turn, kw_2, by decide, by decide, by decide +kernel⟩
theorem inst_S_turn : Cond.instanceMethod y_S_turn ∈ pn_all := kw_333
theorem sel_S_turn : Cond.selects (y_S_turn).cls y_S_turn y_S_turn ∈ pn_all := ks_16
theorem cal_S_pack : pn_cal y_S_pack b_S_pack 6 none 0 := ⟨q_S_pack, kw_2, by decide, by decide, by decide +kernel⟩
theorem inst_S_pack : Cond.instanceMethod y_S_pack ∈ pn_all := kw_268
theorem sel_S_pack : Cond.selects (y_S_pack).cls y_S_pack y_S_pack ∈ pn_all := ks_9
theorem cal_S_firstFrom : pn_cal y_S_firstFrom b_S_firstFrom 5 (some (.int)) 1 := ⟨q_S_firstFrom, kw_2, by decide, by decide, by decide +kernel⟩
theorem inst_S_firstFrom : Cond.instanceMethod y_S_firstFrom ∈ pn_all := kw_272
theorem sel_S_firstFrom : Cond.selects (y_S_firstFrom).cls y_S_firstFrom y_S_firstFrom ∈ pn_all := ks_10
theorem cal_T_init : pn_cal y_T_init b_T_init 1 none 0 := ⟨q_T_init, kw_4, by decide, by decide, by decide +kernel⟩
theorem inst_T_init : Cond.instanceMethod y_T_init ∈ pn_all := kw_72
-- no selects word: T_init
theorem cal_T_write : pn_cal y_T_write b_T_write 4 (some (.int)) 1 := ⟨q_T_write, kw_4, by decide, by decide, by decide +kernel⟩
theorem inst_T_write : Cond.instanceMethod y_T_write ∈ pn_all := kw_611
theorem sel_T_write : Cond.selects (y_T_write).cls y_T_write y_T_write ∈ pn_all := ks_40
theorem cal_T_writeChunk : pn_cal y_T_writeChunk b_T_writeChunk 5 none 2 := ⟨q_T_writeChunk, kw_4, by decide, by decide, by decide +kernel⟩
theorem inst_T_writeChunk : Cond.instanceMethod y_T_writeChunk ∈ pn_all := kw_621
theorem sel_T_writeChunk : Cond.selects (y_T_writeChunk).cls y_T_writeChunk y_T_writeChunk ∈ pn_all := ks_42
theorem cal_T_putBefore : pn_cal y_T_putBefore b_T_putBefore 2 none 1 := ⟨q_T_putBefore, kw_4, by decide, by decide, by decide +kernel⟩
theorem inst_T_putBefore : Cond.instanceMethod y_T_putBefore ∈ pn_all := kw_615
theorem sel_T_putBefore : Cond.selects (y_T_putBefore).cls y_T_putBefore y_T_putBefore ∈ pn_all := ks_41
theorem cal_T_at : pn_cal y_T_at b_T_at 2 (some (.int)) 1 := ⟨q_T_at, kw_4, by decide, by decide, by decide +kernel⟩
theorem inst_T_at : Cond.instanceMethod y_T_at ∈ pn_all := kw_140
theorem sel_T_at : Cond.selects (y_T_at).cls y_T_at y_T_at ∈ pn_all := ks_0
end
section
abbrev b_J_nlz : ByteArray := prog_13_method_47_code
def y_J_nlz : MethodName := ⟨"java/lang/Integer", "numberOfLeadingZeros", "(I)I"⟩
def w_J_nlz : List Cond := Cond.code y_J_nlz b_J_nlz 2 (some .int) :: pn_all
theorem cal_J_nlz : pn_cal y_J_nlz b_J_nlz 2 (some .int) 1 := ⟨kw_240, kw_11, by decide, by decide, by decide +kernel⟩
theorem stat_J_nlz : Cond.static y_J_nlz ∈ pn_all := kw_239
theorem d_J_nlz_0 : decode b_J_nlz 0 = .ok (.iload_n 0, 1) := by decide +kernel
theorem d_J_nlz_1 : decode b_J_nlz 1 = .ok (.ifCond .gt 14, 3) := by decide +kernel
theorem d_J_nlz_4 : decode b_J_nlz 4 = .ok (.iload_n 0, 1) := by decide +kernel
theorem d_J_nlz_5 : decode b_J_nlz 5 = .ok (.ifCond .ne 8, 3) := by decide +kernel
theorem d_J_nlz_8 : decode b_J_nlz 8 = .ok (.bipush 32, 2) := by decide +kernel
theorem d_J_nlz_10 : decode b_J_nlz 10 = .ok (.goto 4, 3) := by decide +kernel
theorem d_J_nlz_13 : decode b_J_nlz 13 = .ok (.iconst 0, 1) := by decide +kernel
theorem d_J_nlz_14 : decode b_J_nlz 14 = .ok (.ireturn, 1) := by decide +kernel
theorem d_J_nlz_15 : decode b_J_nlz 15 = .ok (.bipush 31, 2) := by decide +kernel
theorem d_J_nlz_17 : decode b_J_nlz 17 = .ok (.istore_n 1, 1) := by decide +kernel
theorem d_J_nlz_18 : decode b_J_nlz 18 = .ok (.iload_n 0, 1) := by decide +kernel
theorem d_J_nlz_19 : decode b_J_nlz 19 = .ok (.ldc_w 264, 3) := by decide +kernel
theorem d_J_nlz_22 : decode b_J_nlz 22 = .ok (.if_icmp .lt 11, 3) := by decide +kernel
theorem d_J_nlz_25 : decode b_J_nlz 25 = .ok (.iinc 1 (-16), 3) := by decide +kernel
theorem d_J_nlz_28 : decode b_J_nlz 28 = .ok (.iload_n 0, 1) := by decide +kernel
theorem d_J_nlz_29 : decode b_J_nlz 29 = .ok (.bipush 16, 2) := by decide +kernel
theorem d_J_nlz_31 : decode b_J_nlz 31 = .ok (.iushr, 1) := by decide +kernel
theorem d_J_nlz_32 : decode b_J_nlz 32 = .ok (.istore_n 0, 1) := by decide +kernel
theorem d_J_nlz_33 : decode b_J_nlz 33 = .ok (.iload_n 0, 1) := by decide +kernel
theorem d_J_nlz_34 : decode b_J_nlz 34 = .ok (.sipush 256, 3) := by decide +kernel
theorem d_J_nlz_37 : decode b_J_nlz 37 = .ok (.if_icmp .lt 11, 3) := by decide +kernel
theorem d_J_nlz_40 : decode b_J_nlz 40 = .ok (.iinc 1 (-8), 3) := by decide +kernel
theorem d_J_nlz_43 : decode b_J_nlz 43 = .ok (.iload_n 0, 1) := by decide +kernel
theorem d_J_nlz_44 : decode b_J_nlz 44 = .ok (.bipush 8, 2) := by decide +kernel
theorem d_J_nlz_46 : decode b_J_nlz 46 = .ok (.iushr, 1) := by decide +kernel
theorem d_J_nlz_47 : decode b_J_nlz 47 = .ok (.istore_n 0, 1) := by decide +kernel
theorem d_J_nlz_48 : decode b_J_nlz 48 = .ok (.iload_n 0, 1) := by decide +kernel
theorem d_J_nlz_49 : decode b_J_nlz 49 = .ok (.bipush 16, 2) := by decide +kernel
theorem d_J_nlz_51 : decode b_J_nlz 51 = .ok (.if_icmp .lt 10, 3) := by decide +kernel
theorem d_J_nlz_54 : decode b_J_nlz 54 = .ok (.iinc 1 (-4), 3) := by decide +kernel
theorem d_J_nlz_57 : decode b_J_nlz 57 = .ok (.iload_n 0, 1) := by decide +kernel
theorem d_J_nlz_58 : decode b_J_nlz 58 = .ok (.iconst 4, 1) := by decide +kernel
theorem d_J_nlz_59 : decode b_J_nlz 59 = .ok (.iushr, 1) := by decide +kernel
theorem d_J_nlz_60 : decode b_J_nlz 60 = .ok (.istore_n 0, 1) := by decide +kernel
theorem d_J_nlz_61 : decode b_J_nlz 61 = .ok (.iload_n 0, 1) := by decide +kernel
theorem d_J_nlz_62 : decode b_J_nlz 62 = .ok (.iconst 4, 1) := by decide +kernel
theorem d_J_nlz_63 : decode b_J_nlz 63 = .ok (.if_icmp .lt 10, 3) := by decide +kernel
theorem d_J_nlz_66 : decode b_J_nlz 66 = .ok (.iinc 1 (-2), 3) := by decide +kernel
theorem d_J_nlz_69 : decode b_J_nlz 69 = .ok (.iload_n 0, 1) := by decide +kernel
theorem d_J_nlz_70 : decode b_J_nlz 70 = .ok (.iconst 2, 1) := by decide +kernel
theorem d_J_nlz_71 : decode b_J_nlz 71 = .ok (.iushr, 1) := by decide +kernel
theorem d_J_nlz_72 : decode b_J_nlz 72 = .ok (.istore_n 0, 1) := by decide +kernel
theorem d_J_nlz_73 : decode b_J_nlz 73 = .ok (.iload_n 1, 1) := by decide +kernel
theorem d_J_nlz_74 : decode b_J_nlz 74 = .ok (.iload_n 0, 1) := by decide +kernel
theorem d_J_nlz_75 : decode b_J_nlz 75 = .ok (.iconst 1, 1) := by decide +kernel
theorem d_J_nlz_76 : decode b_J_nlz 76 = .ok (.iushr, 1) := by decide +kernel
theorem d_J_nlz_77 : decode b_J_nlz 77 = .ok (.isub, 1) := by decide +kernel
theorem d_J_nlz_78 : decode b_J_nlz 78 = .ok (.ireturn, 1) := by decide +kernel
section PnCopy
variable {p : Program} {l : Launch} {e : Env} {R : Room} {s : State} {m : MethodId} {args : Array Value} {below : List Frame} {meth : Method} {c : Code} {H : Heap} {locs : List Loc} {cells slots : Nat} {Q : State → Prop}
variable {cc : ByteArray} {pc nL index : Nat} {ls : Array Slot} {rest : List Value} {own : String} {a a0 : Nat} {D : va_G} {tys : List (ClassId × FieldType)} {w w' : va_W} {A : Nat → Prop} {H0 : Heap}
theorem pw_copy (Fx : CallFix p m c cc nL s args pn_all own) (hsz : ls.size = nL) (kl : Cond.methodLink own index arraycopyName ∈ pn_all) (kn : Cond.native arraycopyName ∈ pn_all) (ks : Cond.static arraycopyName ∈ pn_all) (ki : Cond.initialized "java/lang/System" ∈ pn_all) (hK : va_K D pn_cl tys s) (hP : va_P D pn_cl w H) (hD : va_D A w) (hS : va_S A H0 H locs) (q0 q1 t0 : Nat) {c0 c1 : ClassId} {n0 n1 : Nat} {f g : Nat → Int32} (ha0 : w[q0]? = some (a0, .inl (c0, n0, .inl f))) (ha1 : w[q1]? = some (a, .inl (c1, n1, .inl g))) (ht0 : tys[t0]? = some (c0, .int)) (ht1 : tys[t0]? = some (c1, .int))
    {sp dp n : Nat} (h4 : sp + n ≤ n0) (h5 : dp + n ≤ n1) (hn0 : n0 < 2 ^ 31) (hn1 : n1 < 2 ^ 31) (hframes : 1 ≤ R.frames) (hlocals : (rest.map fun v => v.category).sum + (nativeFrameWords "java/lang/System" "arraycopy" 5 + 11) ≤ R.locals) (hw : w.set q1 (a, .inl (c1, n1, .inl (va_cpy f g sp dp n))) = w') (hdg : decode cc pc = .ok (.invokestatic index, 3))
    (kk : ∀ (H1 : Heap) (locs1 : List Loc), va_P D pn_cl w' H1 → va_D A w' → va_S A H0 H1 locs1 → W p l e R s m args below meth c H1 locs1 cells slots Q (F0 m (pc + 3) ls rest)) : W p l e R s m args below meth c H locs cells slots Q (F0 m pc ls (.int (nI n) :: .int (nI dp) :: .ref a :: .int (nI sp) :: .ref a0 :: rest)) := by
  subst hw
  have e1 := nI_clamp (n := sp) (by omega)
  have e2 := nI_clamp (n := dp) (by omega)
  have e3 := nI_clamp (n := n) (by omega)
  refine va_copyi Fx.1 Fx.2.1 (Fx.2.2.1.trans hsz.symm) Fx.2.2.2.1 (Fx.2.2.2.2 _ kl) (Fx.2.2.2.2 _ kn) (Fx.2.2.2.2 _ ks) (Fx.2.2.2.2 _ ki) hK hP hD hS q0 q1 t0 t0 (f := f) (g := g) ha0 ha1 ht0 ht1 rfl (nI_pos (by omega)) (nI_pos (by omega)) (nI_pos (by omega)) (by rw [e1, e3]; exact h4) (by rw [e2, e3]; exact h5) (fun i _ => rfl) hframes hlocals hdg ?_
  rw [e1, e2, e3]
  exact kk
end PnCopy
section PnIfl
variable {p : Program} {l : Launch} {e : Env} {R : Room} {s : State} {m : MethodId} {args : Array Value} {below : List Frame} {meth : Method} {c : Code} {H : Heap} {locs : List Loc} {cells slots : Nat} {Q : State → Prop} {cc : ByteArray} {pc : Nat} {ls : Array Slot} {rest : List Value}
theorem pw_ifl_eq (hexec : p.tables.exec = Jvm.exec) (hb : c.code = cc) {a b : Int} {off : Int} {tgt : Nat} (hdg : decode cc pc = .ok (.ifCond .eq off, 3)) (ht : (pc : Int) + off = (tgt : Int)) (ha0 : -9223372036854775808 ≤ a) (ha1 : a < 9223372036854775808) (hb0 : -9223372036854775808 ≤ b) (hb1 : b < 9223372036854775808) (kt : a = b → W p l e R s m args below meth c H locs cells slots Q (F0 m tgt ls rest)) (kf : a ≠ b → W p l e R s m args below meth c H locs cells slots Q (F0 m (pc + 3) ls rest)) : W p l e R s m args below meth c H locs cells slots Q (F0 m pc ls (.int (lg_cmp (pn_L a) (pn_L b)) :: rest)) := lv_if_eq hexec hb hdg ht (fun z => kt ((pn_L_eq ha0 ha1 hb0 hb1).mp ((lg_cmp_eq _ _).mp z))) (fun z => kf (fun y => z ((lg_cmp_eq _ _).mpr ((pn_L_eq ha0 ha1 hb0 hb1).mpr y))))
theorem pw_ifl_ne (hexec : p.tables.exec = Jvm.exec) (hb : c.code = cc) {a b : Int} {off : Int} {tgt : Nat} (hdg : decode cc pc = .ok (.ifCond .ne off, 3)) (ht : (pc : Int) + off = (tgt : Int)) (ha0 : -9223372036854775808 ≤ a) (ha1 : a < 9223372036854775808) (hb0 : -9223372036854775808 ≤ b) (hb1 : b < 9223372036854775808) (kt : a ≠ b → W p l e R s m args below meth c H locs cells slots Q (F0 m tgt ls rest)) (kf : a = b → W p l e R s m args below meth c H locs cells slots Q (F0 m (pc + 3) ls rest)) : W p l e R s m args below meth c H locs cells slots Q (F0 m pc ls (.int (lg_cmp (pn_L a) (pn_L b)) :: rest)) := lv_if_ne hexec hb hdg ht (fun z => kt (fun y => z ((lg_cmp_eq _ _).mpr ((pn_L_eq ha0 ha1 hb0 hb1).mpr y)))) (fun z => kf ((pn_L_eq ha0 ha1 hb0 hb1).mp ((lg_cmp_eq _ _).mp z)))
theorem pw_ifl_lt (hexec : p.tables.exec = Jvm.exec) (hb : c.code = cc) {a b : Int} {off : Int} {tgt : Nat} (hdg : decode cc pc = .ok (.ifCond .lt off, 3)) (ht : (pc : Int) + off = (tgt : Int)) (ha0 : -9223372036854775808 ≤ a) (ha1 : a < 9223372036854775808) (hb0 : -9223372036854775808 ≤ b) (hb1 : b < 9223372036854775808) (kt : a < b → W p l e R s m args below meth c H locs cells slots Q (F0 m tgt ls rest)) (kf : b ≤ a → W p l e R s m args below meth c H locs cells slots Q (F0 m (pc + 3) ls rest)) : W p l e R s m args below meth c H locs cells slots Q (F0 m pc ls (.int (lg_cmp (pn_L a) (pn_L b)) :: rest)) := lv_if_lt hexec hb hdg ht (fun z => kt ((pn_L_lt ha0 ha1 hb0 hb1).mp ((lg_cmp_lt _ _).mp z))) (fun z => kf (Int.not_lt.mp (fun y => z ((lg_cmp_lt _ _).mpr ((pn_L_lt ha0 ha1 hb0 hb1).mpr y)))))
theorem pw_ifl_ge (hexec : p.tables.exec = Jvm.exec) (hb : c.code = cc) {a b : Int} {off : Int} {tgt : Nat} (hdg : decode cc pc = .ok (.ifCond .ge off, 3)) (ht : (pc : Int) + off = (tgt : Int)) (ha0 : -9223372036854775808 ≤ a) (ha1 : a < 9223372036854775808) (hb0 : -9223372036854775808 ≤ b) (hb1 : b < 9223372036854775808) (kt : b ≤ a → W p l e R s m args below meth c H locs cells slots Q (F0 m tgt ls rest)) (kf : a < b → W p l e R s m args below meth c H locs cells slots Q (F0 m (pc + 3) ls rest)) : W p l e R s m args below meth c H locs cells slots Q (F0 m pc ls (.int (lg_cmp (pn_L a) (pn_L b)) :: rest)) := lv_if_ge hexec hb hdg ht (fun z => kt ((pn_L_le hb0 hb1 ha0 ha1).mp ((lg_cmp_ge _ _).mp z))) (fun z => kf (Int.not_le.mp (fun y => z ((lg_cmp_ge _ _).mpr ((pn_L_le hb0 hb1 ha0 ha1).mpr y)))))
theorem pw_ifl_gt (hexec : p.tables.exec = Jvm.exec) (hb : c.code = cc) {a b : Int} {off : Int} {tgt : Nat} (hdg : decode cc pc = .ok (.ifCond .gt off, 3)) (ht : (pc : Int) + off = (tgt : Int)) (ha0 : -9223372036854775808 ≤ a) (ha1 : a < 9223372036854775808) (hb0 : -9223372036854775808 ≤ b) (hb1 : b < 9223372036854775808) (kt : b < a → W p l e R s m args below meth c H locs cells slots Q (F0 m tgt ls rest)) (kf : a ≤ b → W p l e R s m args below meth c H locs cells slots Q (F0 m (pc + 3) ls rest)) : W p l e R s m args below meth c H locs cells slots Q (F0 m pc ls (.int (lg_cmp (pn_L a) (pn_L b)) :: rest)) := lv_if_gt hexec hb hdg ht (fun z => kt ((pn_L_lt hb0 hb1 ha0 ha1).mp ((lg_cmp_gt _ _).mp z))) (fun z => kf (Int.not_lt.mp (fun y => z ((lg_cmp_gt _ _).mpr ((pn_L_lt hb0 hb1 ha0 ha1).mpr y)))))
theorem pw_ifl_le (hexec : p.tables.exec = Jvm.exec) (hb : c.code = cc) {a b : Int} {off : Int} {tgt : Nat} (hdg : decode cc pc = .ok (.ifCond .le off, 3)) (ht : (pc : Int) + off = (tgt : Int)) (ha0 : -9223372036854775808 ≤ a) (ha1 : a < 9223372036854775808) (hb0 : -9223372036854775808 ≤ b) (hb1 : b < 9223372036854775808) (kt : a ≤ b → W p l e R s m args below meth c H locs cells slots Q (F0 m tgt ls rest)) (kf : b < a → W p l e R s m args below meth c H locs cells slots Q (F0 m (pc + 3) ls rest)) : W p l e R s m args below meth c H locs cells slots Q (F0 m pc ls (.int (lg_cmp (pn_L a) (pn_L b)) :: rest)) := lv_if_le hexec hb hdg ht (fun z => kt ((pn_L_le ha0 ha1 hb0 hb1).mp ((lg_cmp_le _ _).mp z))) (fun z => kf (Int.not_le.mp (fun y => z ((lg_cmp_le _ _).mpr ((pn_L_le ha0 ha1 hb0 hb1).mpr y)))))
end PnIfl
theorem kx_max : Cond.code Lib.Math.max.name Lib.Math.max.code 2 (some .int) ∈ pn_all := kw_360
theorem kx_maxS : Cond.static Lib.Math.max.name ∈ pn_all := kw_359
theorem kx_abs : Cond.code Lib.MathLoose.abs_long.x Lib.MathLoose.abs_long.code 2 (some .long) ∈ pn_all := kw_557
theorem kx_absS : Cond.static Lib.MathLoose.abs_long.x ∈ pn_all := kw_556
theorem kx_math : Cond.initialized "java/lang/Math" ∈ pn_all := kw_14
section PnMath
variable {p : Program} {l : Launch} {e : Env} {R : Room} {s : State} {m : MethodId} {args : Array Value} {below : List Frame} {meth : Method} {c : Code} {H : Heap} {locs : List Loc} {cells slots : Nat} {Q : State → Prop} {cc : ByteArray} {pc nL index : Nat} {ls : Array Slot} {rest : List Value} {own : String}
theorem pw_max (Fx : CallFix p m c cc nL s args pn_all own) (hsz : ls.size = nL) (kl : Cond.methodLink own index Lib.Math.max.name ∈ pn_all) {a b : Nat} (ha : a < 2 ^ 31) (hb1 : b < 2 ^ 31) (hframes : 1 ≤ R.frames) (hlocals : (rest.map fun v => v.category).sum + 13 ≤ R.locals) (hc : cells ≤ R.cells ∧ slots ≤ R.slots) (hdg : decode cc pc = .ok (.invokestatic index, 3))
    (kk : W p l e R s m args below meth c H locs cells slots Q (F0 m (pc + 3) ls (.int (nI (max a b)) :: rest))) : W p l e R s m args below meth c H locs cells slots Q (F0 m pc ls (.int (nI b) :: .int (nI a) :: rest)) := by
  refine va_mmax Fx.1 Fx.2.1 (Fx.2.2.1.trans hsz.symm) Fx.2.2.2.1 (Fx.2.2.2.2 _ kl) (Fx.2.2.2.2 _ kx_maxS) (Fx.2.2.2.2 _ kx_math) (Fx.2.2.2.2 _ kx_max) hframes hlocals hc.1 hc.2 hdg ?_
  have e : (if nI a < nI b then nI b else nI a) = nI (max a b) := by
    by_cases h : a < b
    · rw [if_pos ((nI_ltI ha hb1).mpr h), Nat.max_eq_right (by omega)]
    · rw [if_neg (fun z => h ((nI_ltI ha hb1).mp z)), Nat.max_eq_left (by omega)]
  rw [e]
  exact kk
theorem pw_labs (Fx : CallFix p m c cc nL s args pn_all own) (hsz : ls.size = nL) (kl : Cond.methodLink own index Lib.MathLoose.abs_long.x ∈ pn_all) {z : Int} (hz0 : -9223372036854775808 < z) (hz1 : z < 9223372036854775808) (hframes : 1 ≤ R.frames) (hlocals : (rest.map fun v => v.category).sum + 13 ≤ R.locals) (hc : cells ≤ R.cells ∧ slots ≤ R.slots) (hdg : decode cc pc = .ok (.invokestatic index, 3))
    (kk : W p l e R s m args below meth c H locs cells slots Q (F0 m (pc + 3) ls (.long (pn_L (z.natAbs : Int)) :: rest))) : W p l e R s m args below meth c H locs cells slots Q (F0 m pc ls (.long (pn_L z) :: rest)) := by
  refine va_mabs_long Fx.1 Fx.2.1 (Fx.2.2.1.trans hsz.symm) Fx.2.2.2.1 (Fx.2.2.2.2 _ kl) (Fx.2.2.2.2 _ kx_absS) (Fx.2.2.2.2 _ kx_math) (Fx.2.2.2.2 _ kx_abs) hframes hlocals hc.1 hc.2 hdg ?_
  have e : (if 0 < pn_L z then pn_L z else -pn_L z) = pn_L (z.natAbs : Int) := by
    have e0 : (0 : Int64) = pn_L 0 := by decide
    by_cases h : 0 < z
    · rw [if_pos (by rw [e0]; exact (pn_L_lt (by omega) (by omega) (by omega) (by omega)).mpr h), show (z.natAbs : Int) = z by omega]
    · rw [if_neg (fun y => h ((pn_L_lt (by omega) (by omega) (by omega) (by omega)).mp (by rw [e0] at y; exact y))), pn_L_neg, show (z.natAbs : Int) = -z by omega]
  rw [e]
  exact kk
end PnMath
end
section
def pn_ln (n : Nat) : Nat := pn_len (n : Int)
theorem pn_ln_le (n L : Nat) : pn_ln n ≤ L ↔ n < 2 ^ L := by
  unfold pn_ln
  rw [pn_len_le (Int.natCast_nonneg n), pn_two]
  omega
theorem pn_ln_lt (n L : Nat) : L < pn_ln n ↔ 2 ^ L ≤ n := by
  have := pn_ln_le n L
  omega
theorem pn_ln_is {n L : Nat} (h1 : 2 ^ L ≤ n) (h2 : n < 2 ^ (L + 1)) : pn_ln n = L + 1 := by
  have a := (pn_ln_le n (L + 1)).mpr h2
  have b := (pn_ln_lt n L).mpr h1
  omega
theorem pn_ln_shift {v k : Nat} (h : 2 ^ k ≤ v) : pn_ln (v / 2 ^ k) + k = pn_ln v := by
  have hp := Nat.two_pow_pos k
  have hw : 1 ≤ v / 2 ^ k := (Nat.le_div_iff_mul_le hp).mpr (by omega)
  obtain ⟨j, hj⟩ : ∃ j, pn_ln (v / 2 ^ k) = j + 1 := ⟨pn_ln (v / 2 ^ k) - 1, by have := (pn_ln_lt (v / 2 ^ k) 0).mpr (by simpa using hw); omega⟩
  have a1 := (pn_ln_le (v / 2 ^ k) (j + 1)).mp (by omega)
  have a2 := (pn_ln_lt (v / 2 ^ k) j).mp (by omega)
  have b1 : v < 2 ^ (j + 1) * 2 ^ k := (Nat.div_lt_iff_lt_mul hp).mp a1
  have b2 : 2 ^ j * 2 ^ k ≤ v := (Nat.le_div_iff_mul_le hp).mp a2
  have c : pn_ln v = (j + k) + 1 := pn_ln_is (by rw [Nat.pow_add]; exact b2) (by rw [show j + k + 1 = (j + 1) + k by omega, Nat.pow_add]; exact b1)
  omega
theorem pn_ln_4 {v : Nat} (h1 : 1 ≤ v) (h2 : v < 4) : pn_ln v = 1 + v / 2 := by
  rcases (show v = 1 ∨ v = 2 ∨ v = 3 by omega) with rfl | rfl | rfl <;> decide
theorem pn_u_nI {n : Nat} (h : n < 2 ^ 31) : pn_u (nI n) = (n : Int) := by
  rw [← pn_I_nI, pn_u_Ilt (by omega) (by omega)]
theorem pn_u_neg {x : Int32} (h : x < 0) : 2147483648 ≤ pn_u x := by
  have h1 := Int32.lt_iff_toInt_lt.mp h
  have h2 := pn_u_toInt x
  have h3 : (0 : Int32).toInt = 0 := rfl
  have h4 := Int32.minValue_le_toInt x
  have h5 : Int32.minValue.toInt = -2147483648 := rfl
  omega

set_option maxHeartbeats 4000000 in
set_option maxRecDepth 100000 in
theorem c_J_nlz (l : Launch) (D : va_G) (cI cZ cB cJ : ClassId) (sz : Nat) (x : Int32) : pn_Ci l D (pn_ty cI cZ cB cJ) y_J_nlz w_J_nlz ({ frames := 0, cells := 0, slots := 0, locals := 0 } : Room) [.int x] [] sz (S := Unit) (fun r _ => r = nI (32 - pn_len (pn_u x))) (fun _ => []) := by
  refine pn_start (by decide) (Nat.le_of_ble_eq_true rfl) ?_
  intro p e s m below meth c A Q ls hQ hAe Fx hr hlocks hN hK hP hD hS hA hl
  have hx := Fx.1
  have hb := Fx.2.1
  have hl : lv_has ls 2 [(0, .int x)] := hl
  refine lv_iload_n hx hb d_J_nlz_0 rfl (lv_at hl 0 rfl) ?_
  refine lv_if_gt (tgt := 15) hx hb d_J_nlz_1 (by decide) (fun h_1 => ?_) (fun h_1 => ?_)
  · skip
    obtain ⟨v, hv, rfl⟩ := nI_of (x := x) (fun z => absurd h_1 (by rw [Int32.lt_iff_toInt_lt] at *; have e : (0 : Int32).toInt = 0 := rfl; omega))
    have hv1 : 1 ≤ v := by rcases Nat.eq_zero_or_pos v with z | z; (· subst z; exact absurd h_1 (by decide)); (· exact z)
    have hI : pn_ln v + 0 = pn_ln v := rfl
    refine lv_bipush (v := nI 31) hx hb d_J_nlz_15 (by decide) ?_
    refine lv_istore_n (lv' := [(1, .int (nI 31)), (0, .int (nI v))]) hx hb d_J_nlz_17 rfl hl (by decide) rfl (fun ls hl => ?_)
    refine lv_iload_n hx hb d_J_nlz_18 rfl (lv_at hl 1 rfl) ?_
    refine lv_ldcw hx hb Fx.2.2.2.1 (Fx.2.2.2.2 _ kw_241) d_J_nlz_19 ?_
    refine pn_topi (nI 65536) (by decide) ?_
    refine pw_icmp_lt (a := v) (b := 65536) (tgt := 33) hx hb d_J_nlz_22 (by decide) (by omega) (by omega) (fun h_22 => ?_) (fun h_22 => ?_)
    · skip
      refine lv_iload_n hx hb d_J_nlz_33 rfl (lv_at hl 1 rfl) ?_
      refine lv_sipush (v := nI 256) hx hb d_J_nlz_34 (by decide) ?_
      refine pw_icmp_lt (a := v) (b := 256) (tgt := 48) hx hb d_J_nlz_37 (by decide) (by omega) (by omega) (fun h_37 => ?_) (fun h_37 => ?_)
      · skip
        refine lv_iload_n hx hb d_J_nlz_48 rfl (lv_at hl 1 rfl) ?_
        refine lv_bipush (v := nI 16) hx hb d_J_nlz_49 (by decide) ?_
        refine pw_icmp_lt (a := v) (b := 16) (tgt := 61) hx hb d_J_nlz_51 (by decide) (by omega) (by omega) (fun h_51 => ?_) (fun h_51 => ?_)
        · skip
          refine lv_iload_n hx hb d_J_nlz_61 rfl (lv_at hl 1 rfl) ?_
          refine lv_iconst (v := nI 4) hx hb d_J_nlz_62 (by decide) ?_
          refine pw_icmp_lt (a := v) (b := 4) (tgt := 73) hx hb d_J_nlz_63 (by decide) (by omega) (by omega) (fun h_63 => ?_) (fun h_63 => ?_)
          · skip
            refine lv_iload_n hx hb d_J_nlz_73 rfl (lv_at hl 0 rfl) ?_
            refine lv_iload_n hx hb d_J_nlz_74 rfl (lv_at hl 1 rfl) ?_
            refine lv_iconst (v := 1) hx hb d_J_nlz_75 (by decide) ?_
            refine lv_iushr (v := nI (v / 2 ^ 1)) hx hb d_J_nlz_76 (pk_ushrN (by omega) 1 1 (by decide)) ?_
            have e4 := pn_ln_4 (v := v) (by omega) (by omega)
            have e5 := pn_len_u (nI v)
            have hz : nI (31 - v / 2 ^ 1) = nI (32 - pn_len (pn_u (nI v))) := by have e6 : pn_len (pn_u (nI v)) = pn_ln v := (by rw [pn_u_nI hv]; rfl); rw [e6]; congr 1; omega
            refine pw_isub hx hb d_J_nlz_77 (by omega) ?_
            exact pn_reti (()) Fx hr hlocks hQ hAe hP hD hS (hz) d_J_nlz_78
          · skip
            have hI : pn_ln (v / 2 ^ 2) + 2 = pn_ln v := by have e := pn_ln_shift (v := v) (k := 2) (by omega); omega
            refine lv_iinc (v := nI 29) (lv' := [(1, .int (nI 29)), (0, .int (nI v))]) hx hb d_J_nlz_66 hl (k := 0) rfl (by decide) (by decide) rfl (fun ls hl => ?_)
            refine lv_iload_n hx hb d_J_nlz_69 rfl (lv_at hl 1 rfl) ?_
            refine lv_iconst (v := 2) hx hb d_J_nlz_70 (by decide) ?_
            refine lv_iushr (v := nI (v / 2 ^ 2)) hx hb d_J_nlz_71 (pk_ushrN (by omega) 2 2 (by decide)) ?_
            refine lv_istore_n (lv' := [(0, .int (nI (v / 2 ^ 2))), (1, .int (nI 29))]) hx hb d_J_nlz_72 rfl hl (by decide) rfl (fun ls hl => ?_)
            refine lv_iload_n hx hb d_J_nlz_73 rfl (lv_at hl 1 rfl) ?_
            refine lv_iload_n hx hb d_J_nlz_74 rfl (lv_at hl 0 rfl) ?_
            refine lv_iconst (v := 1) hx hb d_J_nlz_75 (by decide) ?_
            refine lv_iushr (v := nI ((v / 2 ^ 2) / 2 ^ 1)) hx hb d_J_nlz_76 (pk_ushrN (by omega) 1 1 (by decide)) ?_
            have e4 := pn_ln_4 (v := v / 2 ^ 2) (by omega) (by omega)
            have e5 := pn_len_u (nI v)
            have hz : nI (29 - (v / 2 ^ 2) / 2 ^ 1) = nI (32 - pn_len (pn_u (nI v))) := by have e6 : pn_len (pn_u (nI v)) = pn_ln v := (by rw [pn_u_nI hv]; rfl); rw [e6]; congr 1; omega
            refine pw_isub hx hb d_J_nlz_77 (by omega) ?_
            exact pn_reti (()) Fx hr hlocks hQ hAe hP hD hS (hz) d_J_nlz_78
        · skip
          have hI : pn_ln (v / 2 ^ 4) + 4 = pn_ln v := by have e := pn_ln_shift (v := v) (k := 4) (by omega); omega
          refine lv_iinc (v := nI 27) (lv' := [(1, .int (nI 27)), (0, .int (nI v))]) hx hb d_J_nlz_54 hl (k := 0) rfl (by decide) (by decide) rfl (fun ls hl => ?_)
          refine lv_iload_n hx hb d_J_nlz_57 rfl (lv_at hl 1 rfl) ?_
          refine lv_iconst (v := 4) hx hb d_J_nlz_58 (by decide) ?_
          refine lv_iushr (v := nI (v / 2 ^ 4)) hx hb d_J_nlz_59 (pk_ushrN (by omega) 4 4 (by decide)) ?_
          refine lv_istore_n (lv' := [(0, .int (nI (v / 2 ^ 4))), (1, .int (nI 27))]) hx hb d_J_nlz_60 rfl hl (by decide) rfl (fun ls hl => ?_)
          refine lv_iload_n hx hb d_J_nlz_61 rfl (lv_at hl 0 rfl) ?_
          refine lv_iconst (v := nI 4) hx hb d_J_nlz_62 (by decide) ?_
          refine pw_icmp_lt (a := v / 2 ^ 4) (b := 4) (tgt := 73) hx hb d_J_nlz_63 (by decide) (by omega) (by omega) (fun h_63 => ?_) (fun h_63 => ?_)
          · skip
            refine lv_iload_n hx hb d_J_nlz_73 rfl (lv_at hl 1 rfl) ?_
            refine lv_iload_n hx hb d_J_nlz_74 rfl (lv_at hl 0 rfl) ?_
            refine lv_iconst (v := 1) hx hb d_J_nlz_75 (by decide) ?_
            refine lv_iushr (v := nI ((v / 2 ^ 4) / 2 ^ 1)) hx hb d_J_nlz_76 (pk_ushrN (by omega) 1 1 (by decide)) ?_
            have e4 := pn_ln_4 (v := v / 2 ^ 4) (by omega) (by omega)
            have e5 := pn_len_u (nI v)
            have hz : nI (27 - (v / 2 ^ 4) / 2 ^ 1) = nI (32 - pn_len (pn_u (nI v))) := by have e6 : pn_len (pn_u (nI v)) = pn_ln v := (by rw [pn_u_nI hv]; rfl); rw [e6]; congr 1; omega
            refine pw_isub hx hb d_J_nlz_77 (by omega) ?_
            exact pn_reti (()) Fx hr hlocks hQ hAe hP hD hS (hz) d_J_nlz_78
          · skip
            have hI : pn_ln ((v / 2 ^ 4) / 2 ^ 2) + 6 = pn_ln v := by have e := pn_ln_shift (v := v / 2 ^ 4) (k := 2) (by omega); omega
            refine lv_iinc (v := nI 25) (lv' := [(1, .int (nI 25)), (0, .int (nI (v / 2 ^ 4)))]) hx hb d_J_nlz_66 hl (k := 1) rfl (by decide) (by decide) rfl (fun ls hl => ?_)
            refine lv_iload_n hx hb d_J_nlz_69 rfl (lv_at hl 1 rfl) ?_
            refine lv_iconst (v := 2) hx hb d_J_nlz_70 (by decide) ?_
            refine lv_iushr (v := nI ((v / 2 ^ 4) / 2 ^ 2)) hx hb d_J_nlz_71 (pk_ushrN (by omega) 2 2 (by decide)) ?_
            refine lv_istore_n (lv' := [(0, .int (nI ((v / 2 ^ 4) / 2 ^ 2))), (1, .int (nI 25))]) hx hb d_J_nlz_72 rfl hl (by decide) rfl (fun ls hl => ?_)
            refine lv_iload_n hx hb d_J_nlz_73 rfl (lv_at hl 1 rfl) ?_
            refine lv_iload_n hx hb d_J_nlz_74 rfl (lv_at hl 0 rfl) ?_
            refine lv_iconst (v := 1) hx hb d_J_nlz_75 (by decide) ?_
            refine lv_iushr (v := nI (((v / 2 ^ 4) / 2 ^ 2) / 2 ^ 1)) hx hb d_J_nlz_76 (pk_ushrN (by omega) 1 1 (by decide)) ?_
            have e4 := pn_ln_4 (v := (v / 2 ^ 4) / 2 ^ 2) (by omega) (by omega)
            have e5 := pn_len_u (nI v)
            have hz : nI (25 - ((v / 2 ^ 4) / 2 ^ 2) / 2 ^ 1) = nI (32 - pn_len (pn_u (nI v))) := by have e6 : pn_len (pn_u (nI v)) = pn_ln v := (by rw [pn_u_nI hv]; rfl); rw [e6]; congr 1; omega
            refine pw_isub hx hb d_J_nlz_77 (by omega) ?_
            exact pn_reti (()) Fx hr hlocks hQ hAe hP hD hS (hz) d_J_nlz_78
      · skip
        have hI : pn_ln (v / 2 ^ 8) + 8 = pn_ln v := by have e := pn_ln_shift (v := v) (k := 8) (by omega); omega
        refine lv_iinc (v := nI 23) (lv' := [(1, .int (nI 23)), (0, .int (nI v))]) hx hb d_J_nlz_40 hl (k := 0) rfl (by decide) (by decide) rfl (fun ls hl => ?_)
        refine lv_iload_n hx hb d_J_nlz_43 rfl (lv_at hl 1 rfl) ?_
        refine lv_bipush (v := 8) hx hb d_J_nlz_44 (by decide) ?_
        refine lv_iushr (v := nI (v / 2 ^ 8)) hx hb d_J_nlz_46 (pk_ushrN (by omega) 8 8 (by decide)) ?_
        refine lv_istore_n (lv' := [(0, .int (nI (v / 2 ^ 8))), (1, .int (nI 23))]) hx hb d_J_nlz_47 rfl hl (by decide) rfl (fun ls hl => ?_)
        refine lv_iload_n hx hb d_J_nlz_48 rfl (lv_at hl 0 rfl) ?_
        refine lv_bipush (v := nI 16) hx hb d_J_nlz_49 (by decide) ?_
        refine pw_icmp_lt (a := v / 2 ^ 8) (b := 16) (tgt := 61) hx hb d_J_nlz_51 (by decide) (by omega) (by omega) (fun h_51 => ?_) (fun h_51 => ?_)
        · skip
          refine lv_iload_n hx hb d_J_nlz_61 rfl (lv_at hl 0 rfl) ?_
          refine lv_iconst (v := nI 4) hx hb d_J_nlz_62 (by decide) ?_
          refine pw_icmp_lt (a := v / 2 ^ 8) (b := 4) (tgt := 73) hx hb d_J_nlz_63 (by decide) (by omega) (by omega) (fun h_63 => ?_) (fun h_63 => ?_)
          · skip
            refine lv_iload_n hx hb d_J_nlz_73 rfl (lv_at hl 1 rfl) ?_
            refine lv_iload_n hx hb d_J_nlz_74 rfl (lv_at hl 0 rfl) ?_
            refine lv_iconst (v := 1) hx hb d_J_nlz_75 (by decide) ?_
            refine lv_iushr (v := nI ((v / 2 ^ 8) / 2 ^ 1)) hx hb d_J_nlz_76 (pk_ushrN (by omega) 1 1 (by decide)) ?_
            have e4 := pn_ln_4 (v := v / 2 ^ 8) (by omega) (by omega)
            have e5 := pn_len_u (nI v)
            have hz : nI (23 - (v / 2 ^ 8) / 2 ^ 1) = nI (32 - pn_len (pn_u (nI v))) := by have e6 : pn_len (pn_u (nI v)) = pn_ln v := (by rw [pn_u_nI hv]; rfl); rw [e6]; congr 1; omega
            refine pw_isub hx hb d_J_nlz_77 (by omega) ?_
            exact pn_reti (()) Fx hr hlocks hQ hAe hP hD hS (hz) d_J_nlz_78
          · skip
            have hI : pn_ln ((v / 2 ^ 8) / 2 ^ 2) + 10 = pn_ln v := by have e := pn_ln_shift (v := v / 2 ^ 8) (k := 2) (by omega); omega
            refine lv_iinc (v := nI 21) (lv' := [(1, .int (nI 21)), (0, .int (nI (v / 2 ^ 8)))]) hx hb d_J_nlz_66 hl (k := 1) rfl (by decide) (by decide) rfl (fun ls hl => ?_)
            refine lv_iload_n hx hb d_J_nlz_69 rfl (lv_at hl 1 rfl) ?_
            refine lv_iconst (v := 2) hx hb d_J_nlz_70 (by decide) ?_
            refine lv_iushr (v := nI ((v / 2 ^ 8) / 2 ^ 2)) hx hb d_J_nlz_71 (pk_ushrN (by omega) 2 2 (by decide)) ?_
            refine lv_istore_n (lv' := [(0, .int (nI ((v / 2 ^ 8) / 2 ^ 2))), (1, .int (nI 21))]) hx hb d_J_nlz_72 rfl hl (by decide) rfl (fun ls hl => ?_)
            refine lv_iload_n hx hb d_J_nlz_73 rfl (lv_at hl 1 rfl) ?_
            refine lv_iload_n hx hb d_J_nlz_74 rfl (lv_at hl 0 rfl) ?_
            refine lv_iconst (v := 1) hx hb d_J_nlz_75 (by decide) ?_
            refine lv_iushr (v := nI (((v / 2 ^ 8) / 2 ^ 2) / 2 ^ 1)) hx hb d_J_nlz_76 (pk_ushrN (by omega) 1 1 (by decide)) ?_
            have e4 := pn_ln_4 (v := (v / 2 ^ 8) / 2 ^ 2) (by omega) (by omega)
            have e5 := pn_len_u (nI v)
            have hz : nI (21 - ((v / 2 ^ 8) / 2 ^ 2) / 2 ^ 1) = nI (32 - pn_len (pn_u (nI v))) := by have e6 : pn_len (pn_u (nI v)) = pn_ln v := (by rw [pn_u_nI hv]; rfl); rw [e6]; congr 1; omega
            refine pw_isub hx hb d_J_nlz_77 (by omega) ?_
            exact pn_reti (()) Fx hr hlocks hQ hAe hP hD hS (hz) d_J_nlz_78
        · skip
          have hI : pn_ln ((v / 2 ^ 8) / 2 ^ 4) + 12 = pn_ln v := by have e := pn_ln_shift (v := v / 2 ^ 8) (k := 4) (by omega); omega
          refine lv_iinc (v := nI 19) (lv' := [(1, .int (nI 19)), (0, .int (nI (v / 2 ^ 8)))]) hx hb d_J_nlz_54 hl (k := 1) rfl (by decide) (by decide) rfl (fun ls hl => ?_)
          refine lv_iload_n hx hb d_J_nlz_57 rfl (lv_at hl 1 rfl) ?_
          refine lv_iconst (v := 4) hx hb d_J_nlz_58 (by decide) ?_
          refine lv_iushr (v := nI ((v / 2 ^ 8) / 2 ^ 4)) hx hb d_J_nlz_59 (pk_ushrN (by omega) 4 4 (by decide)) ?_
          refine lv_istore_n (lv' := [(0, .int (nI ((v / 2 ^ 8) / 2 ^ 4))), (1, .int (nI 19))]) hx hb d_J_nlz_60 rfl hl (by decide) rfl (fun ls hl => ?_)
          refine lv_iload_n hx hb d_J_nlz_61 rfl (lv_at hl 0 rfl) ?_
          refine lv_iconst (v := nI 4) hx hb d_J_nlz_62 (by decide) ?_
          refine pw_icmp_lt (a := (v / 2 ^ 8) / 2 ^ 4) (b := 4) (tgt := 73) hx hb d_J_nlz_63 (by decide) (by omega) (by omega) (fun h_63 => ?_) (fun h_63 => ?_)
          · skip
            refine lv_iload_n hx hb d_J_nlz_73 rfl (lv_at hl 1 rfl) ?_
            refine lv_iload_n hx hb d_J_nlz_74 rfl (lv_at hl 0 rfl) ?_
            refine lv_iconst (v := 1) hx hb d_J_nlz_75 (by decide) ?_
            refine lv_iushr (v := nI (((v / 2 ^ 8) / 2 ^ 4) / 2 ^ 1)) hx hb d_J_nlz_76 (pk_ushrN (by omega) 1 1 (by decide)) ?_
            have e4 := pn_ln_4 (v := (v / 2 ^ 8) / 2 ^ 4) (by omega) (by omega)
            have e5 := pn_len_u (nI v)
            have hz : nI (19 - ((v / 2 ^ 8) / 2 ^ 4) / 2 ^ 1) = nI (32 - pn_len (pn_u (nI v))) := by have e6 : pn_len (pn_u (nI v)) = pn_ln v := (by rw [pn_u_nI hv]; rfl); rw [e6]; congr 1; omega
            refine pw_isub hx hb d_J_nlz_77 (by omega) ?_
            exact pn_reti (()) Fx hr hlocks hQ hAe hP hD hS (hz) d_J_nlz_78
          · skip
            have hI : pn_ln (((v / 2 ^ 8) / 2 ^ 4) / 2 ^ 2) + 14 = pn_ln v := by have e := pn_ln_shift (v := (v / 2 ^ 8) / 2 ^ 4) (k := 2) (by omega); omega
            refine lv_iinc (v := nI 17) (lv' := [(1, .int (nI 17)), (0, .int (nI ((v / 2 ^ 8) / 2 ^ 4)))]) hx hb d_J_nlz_66 hl (k := 1) rfl (by decide) (by decide) rfl (fun ls hl => ?_)
            refine lv_iload_n hx hb d_J_nlz_69 rfl (lv_at hl 1 rfl) ?_
            refine lv_iconst (v := 2) hx hb d_J_nlz_70 (by decide) ?_
            refine lv_iushr (v := nI (((v / 2 ^ 8) / 2 ^ 4) / 2 ^ 2)) hx hb d_J_nlz_71 (pk_ushrN (by omega) 2 2 (by decide)) ?_
            refine lv_istore_n (lv' := [(0, .int (nI (((v / 2 ^ 8) / 2 ^ 4) / 2 ^ 2))), (1, .int (nI 17))]) hx hb d_J_nlz_72 rfl hl (by decide) rfl (fun ls hl => ?_)
            refine lv_iload_n hx hb d_J_nlz_73 rfl (lv_at hl 1 rfl) ?_
            refine lv_iload_n hx hb d_J_nlz_74 rfl (lv_at hl 0 rfl) ?_
            refine lv_iconst (v := 1) hx hb d_J_nlz_75 (by decide) ?_
            refine lv_iushr (v := nI ((((v / 2 ^ 8) / 2 ^ 4) / 2 ^ 2) / 2 ^ 1)) hx hb d_J_nlz_76 (pk_ushrN (by omega) 1 1 (by decide)) ?_
            have e4 := pn_ln_4 (v := ((v / 2 ^ 8) / 2 ^ 4) / 2 ^ 2) (by omega) (by omega)
            have e5 := pn_len_u (nI v)
            have hz : nI (17 - (((v / 2 ^ 8) / 2 ^ 4) / 2 ^ 2) / 2 ^ 1) = nI (32 - pn_len (pn_u (nI v))) := by have e6 : pn_len (pn_u (nI v)) = pn_ln v := (by rw [pn_u_nI hv]; rfl); rw [e6]; congr 1; omega
            refine pw_isub hx hb d_J_nlz_77 (by omega) ?_
            exact pn_reti (()) Fx hr hlocks hQ hAe hP hD hS (hz) d_J_nlz_78
    · skip
      have hI : pn_ln (v / 2 ^ 16) + 16 = pn_ln v := by have e := pn_ln_shift (v := v) (k := 16) (by omega); omega
      refine lv_iinc (v := nI 15) (lv' := [(1, .int (nI 15)), (0, .int (nI v))]) hx hb d_J_nlz_25 hl (k := 0) rfl (by decide) (by decide) rfl (fun ls hl => ?_)
      refine lv_iload_n hx hb d_J_nlz_28 rfl (lv_at hl 1 rfl) ?_
      refine lv_bipush (v := 16) hx hb d_J_nlz_29 (by decide) ?_
      refine lv_iushr (v := nI (v / 2 ^ 16)) hx hb d_J_nlz_31 (pk_ushrN (by omega) 16 16 (by decide)) ?_
      refine lv_istore_n (lv' := [(0, .int (nI (v / 2 ^ 16))), (1, .int (nI 15))]) hx hb d_J_nlz_32 rfl hl (by decide) rfl (fun ls hl => ?_)
      refine lv_iload_n hx hb d_J_nlz_33 rfl (lv_at hl 0 rfl) ?_
      refine lv_sipush (v := nI 256) hx hb d_J_nlz_34 (by decide) ?_
      refine pw_icmp_lt (a := v / 2 ^ 16) (b := 256) (tgt := 48) hx hb d_J_nlz_37 (by decide) (by omega) (by omega) (fun h_37 => ?_) (fun h_37 => ?_)
      · skip
        refine lv_iload_n hx hb d_J_nlz_48 rfl (lv_at hl 0 rfl) ?_
        refine lv_bipush (v := nI 16) hx hb d_J_nlz_49 (by decide) ?_
        refine pw_icmp_lt (a := v / 2 ^ 16) (b := 16) (tgt := 61) hx hb d_J_nlz_51 (by decide) (by omega) (by omega) (fun h_51 => ?_) (fun h_51 => ?_)
        · skip
          refine lv_iload_n hx hb d_J_nlz_61 rfl (lv_at hl 0 rfl) ?_
          refine lv_iconst (v := nI 4) hx hb d_J_nlz_62 (by decide) ?_
          refine pw_icmp_lt (a := v / 2 ^ 16) (b := 4) (tgt := 73) hx hb d_J_nlz_63 (by decide) (by omega) (by omega) (fun h_63 => ?_) (fun h_63 => ?_)
          · skip
            refine lv_iload_n hx hb d_J_nlz_73 rfl (lv_at hl 1 rfl) ?_
            refine lv_iload_n hx hb d_J_nlz_74 rfl (lv_at hl 0 rfl) ?_
            refine lv_iconst (v := 1) hx hb d_J_nlz_75 (by decide) ?_
            refine lv_iushr (v := nI ((v / 2 ^ 16) / 2 ^ 1)) hx hb d_J_nlz_76 (pk_ushrN (by omega) 1 1 (by decide)) ?_
            have e4 := pn_ln_4 (v := v / 2 ^ 16) (by omega) (by omega)
            have e5 := pn_len_u (nI v)
            have hz : nI (15 - (v / 2 ^ 16) / 2 ^ 1) = nI (32 - pn_len (pn_u (nI v))) := by have e6 : pn_len (pn_u (nI v)) = pn_ln v := (by rw [pn_u_nI hv]; rfl); rw [e6]; congr 1; omega
            refine pw_isub hx hb d_J_nlz_77 (by omega) ?_
            exact pn_reti (()) Fx hr hlocks hQ hAe hP hD hS (hz) d_J_nlz_78
          · skip
            have hI : pn_ln ((v / 2 ^ 16) / 2 ^ 2) + 18 = pn_ln v := by have e := pn_ln_shift (v := v / 2 ^ 16) (k := 2) (by omega); omega
            refine lv_iinc (v := nI 13) (lv' := [(1, .int (nI 13)), (0, .int (nI (v / 2 ^ 16)))]) hx hb d_J_nlz_66 hl (k := 1) rfl (by decide) (by decide) rfl (fun ls hl => ?_)
            refine lv_iload_n hx hb d_J_nlz_69 rfl (lv_at hl 1 rfl) ?_
            refine lv_iconst (v := 2) hx hb d_J_nlz_70 (by decide) ?_
            refine lv_iushr (v := nI ((v / 2 ^ 16) / 2 ^ 2)) hx hb d_J_nlz_71 (pk_ushrN (by omega) 2 2 (by decide)) ?_
            refine lv_istore_n (lv' := [(0, .int (nI ((v / 2 ^ 16) / 2 ^ 2))), (1, .int (nI 13))]) hx hb d_J_nlz_72 rfl hl (by decide) rfl (fun ls hl => ?_)
            refine lv_iload_n hx hb d_J_nlz_73 rfl (lv_at hl 1 rfl) ?_
            refine lv_iload_n hx hb d_J_nlz_74 rfl (lv_at hl 0 rfl) ?_
            refine lv_iconst (v := 1) hx hb d_J_nlz_75 (by decide) ?_
            refine lv_iushr (v := nI (((v / 2 ^ 16) / 2 ^ 2) / 2 ^ 1)) hx hb d_J_nlz_76 (pk_ushrN (by omega) 1 1 (by decide)) ?_
            have e4 := pn_ln_4 (v := (v / 2 ^ 16) / 2 ^ 2) (by omega) (by omega)
            have e5 := pn_len_u (nI v)
            have hz : nI (13 - ((v / 2 ^ 16) / 2 ^ 2) / 2 ^ 1) = nI (32 - pn_len (pn_u (nI v))) := by have e6 : pn_len (pn_u (nI v)) = pn_ln v := (by rw [pn_u_nI hv]; rfl); rw [e6]; congr 1; omega
            refine pw_isub hx hb d_J_nlz_77 (by omega) ?_
            exact pn_reti (()) Fx hr hlocks hQ hAe hP hD hS (hz) d_J_nlz_78
        · skip
          have hI : pn_ln ((v / 2 ^ 16) / 2 ^ 4) + 20 = pn_ln v := by have e := pn_ln_shift (v := v / 2 ^ 16) (k := 4) (by omega); omega
          refine lv_iinc (v := nI 11) (lv' := [(1, .int (nI 11)), (0, .int (nI (v / 2 ^ 16)))]) hx hb d_J_nlz_54 hl (k := 1) rfl (by decide) (by decide) rfl (fun ls hl => ?_)
          refine lv_iload_n hx hb d_J_nlz_57 rfl (lv_at hl 1 rfl) ?_
          refine lv_iconst (v := 4) hx hb d_J_nlz_58 (by decide) ?_
          refine lv_iushr (v := nI ((v / 2 ^ 16) / 2 ^ 4)) hx hb d_J_nlz_59 (pk_ushrN (by omega) 4 4 (by decide)) ?_
          refine lv_istore_n (lv' := [(0, .int (nI ((v / 2 ^ 16) / 2 ^ 4))), (1, .int (nI 11))]) hx hb d_J_nlz_60 rfl hl (by decide) rfl (fun ls hl => ?_)
          refine lv_iload_n hx hb d_J_nlz_61 rfl (lv_at hl 0 rfl) ?_
          refine lv_iconst (v := nI 4) hx hb d_J_nlz_62 (by decide) ?_
          refine pw_icmp_lt (a := (v / 2 ^ 16) / 2 ^ 4) (b := 4) (tgt := 73) hx hb d_J_nlz_63 (by decide) (by omega) (by omega) (fun h_63 => ?_) (fun h_63 => ?_)
          · skip
            refine lv_iload_n hx hb d_J_nlz_73 rfl (lv_at hl 1 rfl) ?_
            refine lv_iload_n hx hb d_J_nlz_74 rfl (lv_at hl 0 rfl) ?_
            refine lv_iconst (v := 1) hx hb d_J_nlz_75 (by decide) ?_
            refine lv_iushr (v := nI (((v / 2 ^ 16) / 2 ^ 4) / 2 ^ 1)) hx hb d_J_nlz_76 (pk_ushrN (by omega) 1 1 (by decide)) ?_
            have e4 := pn_ln_4 (v := (v / 2 ^ 16) / 2 ^ 4) (by omega) (by omega)
            have e5 := pn_len_u (nI v)
            have hz : nI (11 - ((v / 2 ^ 16) / 2 ^ 4) / 2 ^ 1) = nI (32 - pn_len (pn_u (nI v))) := by have e6 : pn_len (pn_u (nI v)) = pn_ln v := (by rw [pn_u_nI hv]; rfl); rw [e6]; congr 1; omega
            refine pw_isub hx hb d_J_nlz_77 (by omega) ?_
            exact pn_reti (()) Fx hr hlocks hQ hAe hP hD hS (hz) d_J_nlz_78
          · skip
            have hI : pn_ln (((v / 2 ^ 16) / 2 ^ 4) / 2 ^ 2) + 22 = pn_ln v := by have e := pn_ln_shift (v := (v / 2 ^ 16) / 2 ^ 4) (k := 2) (by omega); omega
            refine lv_iinc (v := nI 9) (lv' := [(1, .int (nI 9)), (0, .int (nI ((v / 2 ^ 16) / 2 ^ 4)))]) hx hb d_J_nlz_66 hl (k := 1) rfl (by decide) (by decide) rfl (fun ls hl => ?_)
            refine lv_iload_n hx hb d_J_nlz_69 rfl (lv_at hl 1 rfl) ?_
            refine lv_iconst (v := 2) hx hb d_J_nlz_70 (by decide) ?_
            refine lv_iushr (v := nI (((v / 2 ^ 16) / 2 ^ 4) / 2 ^ 2)) hx hb d_J_nlz_71 (pk_ushrN (by omega) 2 2 (by decide)) ?_
            refine lv_istore_n (lv' := [(0, .int (nI (((v / 2 ^ 16) / 2 ^ 4) / 2 ^ 2))), (1, .int (nI 9))]) hx hb d_J_nlz_72 rfl hl (by decide) rfl (fun ls hl => ?_)
            refine lv_iload_n hx hb d_J_nlz_73 rfl (lv_at hl 1 rfl) ?_
            refine lv_iload_n hx hb d_J_nlz_74 rfl (lv_at hl 0 rfl) ?_
            refine lv_iconst (v := 1) hx hb d_J_nlz_75 (by decide) ?_
            refine lv_iushr (v := nI ((((v / 2 ^ 16) / 2 ^ 4) / 2 ^ 2) / 2 ^ 1)) hx hb d_J_nlz_76 (pk_ushrN (by omega) 1 1 (by decide)) ?_
            have e4 := pn_ln_4 (v := ((v / 2 ^ 16) / 2 ^ 4) / 2 ^ 2) (by omega) (by omega)
            have e5 := pn_len_u (nI v)
            have hz : nI (9 - (((v / 2 ^ 16) / 2 ^ 4) / 2 ^ 2) / 2 ^ 1) = nI (32 - pn_len (pn_u (nI v))) := by have e6 : pn_len (pn_u (nI v)) = pn_ln v := (by rw [pn_u_nI hv]; rfl); rw [e6]; congr 1; omega
            refine pw_isub hx hb d_J_nlz_77 (by omega) ?_
            exact pn_reti (()) Fx hr hlocks hQ hAe hP hD hS (hz) d_J_nlz_78
      · skip
        have hI : pn_ln ((v / 2 ^ 16) / 2 ^ 8) + 24 = pn_ln v := by have e := pn_ln_shift (v := v / 2 ^ 16) (k := 8) (by omega); omega
        refine lv_iinc (v := nI 7) (lv' := [(1, .int (nI 7)), (0, .int (nI (v / 2 ^ 16)))]) hx hb d_J_nlz_40 hl (k := 1) rfl (by decide) (by decide) rfl (fun ls hl => ?_)
        refine lv_iload_n hx hb d_J_nlz_43 rfl (lv_at hl 1 rfl) ?_
        refine lv_bipush (v := 8) hx hb d_J_nlz_44 (by decide) ?_
        refine lv_iushr (v := nI ((v / 2 ^ 16) / 2 ^ 8)) hx hb d_J_nlz_46 (pk_ushrN (by omega) 8 8 (by decide)) ?_
        refine lv_istore_n (lv' := [(0, .int (nI ((v / 2 ^ 16) / 2 ^ 8))), (1, .int (nI 7))]) hx hb d_J_nlz_47 rfl hl (by decide) rfl (fun ls hl => ?_)
        refine lv_iload_n hx hb d_J_nlz_48 rfl (lv_at hl 0 rfl) ?_
        refine lv_bipush (v := nI 16) hx hb d_J_nlz_49 (by decide) ?_
        refine pw_icmp_lt (a := (v / 2 ^ 16) / 2 ^ 8) (b := 16) (tgt := 61) hx hb d_J_nlz_51 (by decide) (by omega) (by omega) (fun h_51 => ?_) (fun h_51 => ?_)
        · skip
          refine lv_iload_n hx hb d_J_nlz_61 rfl (lv_at hl 0 rfl) ?_
          refine lv_iconst (v := nI 4) hx hb d_J_nlz_62 (by decide) ?_
          refine pw_icmp_lt (a := (v / 2 ^ 16) / 2 ^ 8) (b := 4) (tgt := 73) hx hb d_J_nlz_63 (by decide) (by omega) (by omega) (fun h_63 => ?_) (fun h_63 => ?_)
          · skip
            refine lv_iload_n hx hb d_J_nlz_73 rfl (lv_at hl 1 rfl) ?_
            refine lv_iload_n hx hb d_J_nlz_74 rfl (lv_at hl 0 rfl) ?_
            refine lv_iconst (v := 1) hx hb d_J_nlz_75 (by decide) ?_
            refine lv_iushr (v := nI (((v / 2 ^ 16) / 2 ^ 8) / 2 ^ 1)) hx hb d_J_nlz_76 (pk_ushrN (by omega) 1 1 (by decide)) ?_
            have e4 := pn_ln_4 (v := (v / 2 ^ 16) / 2 ^ 8) (by omega) (by omega)
            have e5 := pn_len_u (nI v)
            have hz : nI (7 - ((v / 2 ^ 16) / 2 ^ 8) / 2 ^ 1) = nI (32 - pn_len (pn_u (nI v))) := by have e6 : pn_len (pn_u (nI v)) = pn_ln v := (by rw [pn_u_nI hv]; rfl); rw [e6]; congr 1; omega
            refine pw_isub hx hb d_J_nlz_77 (by omega) ?_
            exact pn_reti (()) Fx hr hlocks hQ hAe hP hD hS (hz) d_J_nlz_78
          · skip
            have hI : pn_ln (((v / 2 ^ 16) / 2 ^ 8) / 2 ^ 2) + 26 = pn_ln v := by have e := pn_ln_shift (v := (v / 2 ^ 16) / 2 ^ 8) (k := 2) (by omega); omega
            refine lv_iinc (v := nI 5) (lv' := [(1, .int (nI 5)), (0, .int (nI ((v / 2 ^ 16) / 2 ^ 8)))]) hx hb d_J_nlz_66 hl (k := 1) rfl (by decide) (by decide) rfl (fun ls hl => ?_)
            refine lv_iload_n hx hb d_J_nlz_69 rfl (lv_at hl 1 rfl) ?_
            refine lv_iconst (v := 2) hx hb d_J_nlz_70 (by decide) ?_
            refine lv_iushr (v := nI (((v / 2 ^ 16) / 2 ^ 8) / 2 ^ 2)) hx hb d_J_nlz_71 (pk_ushrN (by omega) 2 2 (by decide)) ?_
            refine lv_istore_n (lv' := [(0, .int (nI (((v / 2 ^ 16) / 2 ^ 8) / 2 ^ 2))), (1, .int (nI 5))]) hx hb d_J_nlz_72 rfl hl (by decide) rfl (fun ls hl => ?_)
            refine lv_iload_n hx hb d_J_nlz_73 rfl (lv_at hl 1 rfl) ?_
            refine lv_iload_n hx hb d_J_nlz_74 rfl (lv_at hl 0 rfl) ?_
            refine lv_iconst (v := 1) hx hb d_J_nlz_75 (by decide) ?_
            refine lv_iushr (v := nI ((((v / 2 ^ 16) / 2 ^ 8) / 2 ^ 2) / 2 ^ 1)) hx hb d_J_nlz_76 (pk_ushrN (by omega) 1 1 (by decide)) ?_
            have e4 := pn_ln_4 (v := ((v / 2 ^ 16) / 2 ^ 8) / 2 ^ 2) (by omega) (by omega)
            have e5 := pn_len_u (nI v)
            have hz : nI (5 - (((v / 2 ^ 16) / 2 ^ 8) / 2 ^ 2) / 2 ^ 1) = nI (32 - pn_len (pn_u (nI v))) := by have e6 : pn_len (pn_u (nI v)) = pn_ln v := (by rw [pn_u_nI hv]; rfl); rw [e6]; congr 1; omega
            refine pw_isub hx hb d_J_nlz_77 (by omega) ?_
            exact pn_reti (()) Fx hr hlocks hQ hAe hP hD hS (hz) d_J_nlz_78
        · skip
          have hI : pn_ln (((v / 2 ^ 16) / 2 ^ 8) / 2 ^ 4) + 28 = pn_ln v := by have e := pn_ln_shift (v := (v / 2 ^ 16) / 2 ^ 8) (k := 4) (by omega); omega
          refine lv_iinc (v := nI 3) (lv' := [(1, .int (nI 3)), (0, .int (nI ((v / 2 ^ 16) / 2 ^ 8)))]) hx hb d_J_nlz_54 hl (k := 1) rfl (by decide) (by decide) rfl (fun ls hl => ?_)
          refine lv_iload_n hx hb d_J_nlz_57 rfl (lv_at hl 1 rfl) ?_
          refine lv_iconst (v := 4) hx hb d_J_nlz_58 (by decide) ?_
          refine lv_iushr (v := nI (((v / 2 ^ 16) / 2 ^ 8) / 2 ^ 4)) hx hb d_J_nlz_59 (pk_ushrN (by omega) 4 4 (by decide)) ?_
          refine lv_istore_n (lv' := [(0, .int (nI (((v / 2 ^ 16) / 2 ^ 8) / 2 ^ 4))), (1, .int (nI 3))]) hx hb d_J_nlz_60 rfl hl (by decide) rfl (fun ls hl => ?_)
          refine lv_iload_n hx hb d_J_nlz_61 rfl (lv_at hl 0 rfl) ?_
          refine lv_iconst (v := nI 4) hx hb d_J_nlz_62 (by decide) ?_
          refine pw_icmp_lt (a := ((v / 2 ^ 16) / 2 ^ 8) / 2 ^ 4) (b := 4) (tgt := 73) hx hb d_J_nlz_63 (by decide) (by omega) (by omega) (fun h_63 => ?_) (fun h_63 => ?_)
          · skip
            refine lv_iload_n hx hb d_J_nlz_73 rfl (lv_at hl 1 rfl) ?_
            refine lv_iload_n hx hb d_J_nlz_74 rfl (lv_at hl 0 rfl) ?_
            refine lv_iconst (v := 1) hx hb d_J_nlz_75 (by decide) ?_
            refine lv_iushr (v := nI ((((v / 2 ^ 16) / 2 ^ 8) / 2 ^ 4) / 2 ^ 1)) hx hb d_J_nlz_76 (pk_ushrN (by omega) 1 1 (by decide)) ?_
            have e4 := pn_ln_4 (v := ((v / 2 ^ 16) / 2 ^ 8) / 2 ^ 4) (by omega) (by omega)
            have e5 := pn_len_u (nI v)
            have hz : nI (3 - (((v / 2 ^ 16) / 2 ^ 8) / 2 ^ 4) / 2 ^ 1) = nI (32 - pn_len (pn_u (nI v))) := by have e6 : pn_len (pn_u (nI v)) = pn_ln v := (by rw [pn_u_nI hv]; rfl); rw [e6]; congr 1; omega
            refine pw_isub hx hb d_J_nlz_77 (by omega) ?_
            exact pn_reti (()) Fx hr hlocks hQ hAe hP hD hS (hz) d_J_nlz_78
          · skip
            have hI : pn_ln ((((v / 2 ^ 16) / 2 ^ 8) / 2 ^ 4) / 2 ^ 2) + 30 = pn_ln v := by have e := pn_ln_shift (v := ((v / 2 ^ 16) / 2 ^ 8) / 2 ^ 4) (k := 2) (by omega); omega
            refine lv_iinc (v := nI 1) (lv' := [(1, .int (nI 1)), (0, .int (nI (((v / 2 ^ 16) / 2 ^ 8) / 2 ^ 4)))]) hx hb d_J_nlz_66 hl (k := 1) rfl (by decide) (by decide) rfl (fun ls hl => ?_)
            refine lv_iload_n hx hb d_J_nlz_69 rfl (lv_at hl 1 rfl) ?_
            refine lv_iconst (v := 2) hx hb d_J_nlz_70 (by decide) ?_
            refine lv_iushr (v := nI ((((v / 2 ^ 16) / 2 ^ 8) / 2 ^ 4) / 2 ^ 2)) hx hb d_J_nlz_71 (pk_ushrN (by omega) 2 2 (by decide)) ?_
            refine lv_istore_n (lv' := [(0, .int (nI ((((v / 2 ^ 16) / 2 ^ 8) / 2 ^ 4) / 2 ^ 2))), (1, .int (nI 1))]) hx hb d_J_nlz_72 rfl hl (by decide) rfl (fun ls hl => ?_)
            refine lv_iload_n hx hb d_J_nlz_73 rfl (lv_at hl 1 rfl) ?_
            refine lv_iload_n hx hb d_J_nlz_74 rfl (lv_at hl 0 rfl) ?_
            refine lv_iconst (v := 1) hx hb d_J_nlz_75 (by decide) ?_
            refine lv_iushr (v := nI (((((v / 2 ^ 16) / 2 ^ 8) / 2 ^ 4) / 2 ^ 2) / 2 ^ 1)) hx hb d_J_nlz_76 (pk_ushrN (by omega) 1 1 (by decide)) ?_
            have e4 := pn_ln_4 (v := (((v / 2 ^ 16) / 2 ^ 8) / 2 ^ 4) / 2 ^ 2) (by omega) (by omega)
            have e5 := pn_len_u (nI v)
            have hz : nI (1 - ((((v / 2 ^ 16) / 2 ^ 8) / 2 ^ 4) / 2 ^ 2) / 2 ^ 1) = nI (32 - pn_len (pn_u (nI v))) := by have e6 : pn_len (pn_u (nI v)) = pn_ln v := (by rw [pn_u_nI hv]; rfl); rw [e6]; congr 1; omega
            refine pw_isub hx hb d_J_nlz_77 (by omega) ?_
            exact pn_reti (()) Fx hr hlocks hQ hAe hP hD hS (hz) d_J_nlz_78
  · skip
    refine lv_iload_n hx hb d_J_nlz_4 rfl (lv_at hl 0 rfl) ?_
    refine lv_if_ne (tgt := 13) hx hb d_J_nlz_5 (by decide) (fun h_5 => ?_) (fun h_5 => ?_)
    · skip
      have hz : nI 0 = nI (32 - pn_len (pn_u x)) := by have e : 31 < pn_len (pn_u x) := (pn_len_lt (pn_u_nonneg x) 31).mpr (pn_u_neg (by rw [Int32.lt_iff_toInt_lt] at *; have e : (0 : Int32).toInt = 0 := rfl; have e2 : x.toInt ≠ 0 := fun z => h_5 (Int32.toInt_inj.mp z); omega)); have e2 := pn_len_u x; rw [show 32 - pn_len (pn_u x) = 0 by omega]
      refine lv_iconst (v := nI 0) hx hb d_J_nlz_13 (by decide) ?_
      exact pn_reti (()) Fx hr hlocks hQ hAe hP hD hS (hz) d_J_nlz_14
    · skip
      have hz : nI 32 = nI (32 - pn_len (pn_u x)) := by rw [h_5]; decide
      refine lv_bipush (v := nI 32) hx hb d_J_nlz_8 (by decide) ?_
      refine lv_goto (tgt := 14) hx hb d_J_nlz_10 (by decide) ?_
      exact pn_reti (()) Fx hr hlocks hQ hAe hP hD hS (hz) d_J_nlz_14
end
section
theorem pn_V_drop {f : Nat → Int32} {j : Nat} (h : 0 < j) (hz : f (j - 1) = 0) : pn_V f (j - 1) = pn_V f j := by
  obtain ⟨i, rfl⟩ : ∃ i, j = i + 1 := ⟨j - 1, by omega⟩
  have hz : f i = 0 := hz
  show pn_V f i = pn_V f (i + 1)
  rw [pn_V_s, hz, pn_u_0]
  omega
theorem pn_clear_step {f g : Nat → Int32} {i0 i : Nat} (hi : i0 ≤ i) (h : ∀ j, g j = if i0 ≤ j ∧ j < i then 0 else f j) : ∀ j, upd g i (nI 0) j = if i0 ≤ j ∧ j < i + 1 then 0 else f j := by
  intro j
  by_cases h1 : j = i
  · subst h1
    rw [pk_us, if_pos (by omega)]
    rfl
  · rw [pk_un h1, h j]
    by_cases h2 : i0 ≤ j ∧ j < i
    · rw [if_pos h2, if_pos (by omega)]
    · rw [if_neg h2, if_neg (by omega)]

set_option maxHeartbeats 4000000 in
set_option maxRecDepth 100000 in
theorem c_R_fit (l : Launch) (D : va_G) (cI cZ cB cJ : ClassId) (sz : Nat) (a q : Nat) (f : Nat → Int32) (n k : Nat) (b : Bool) (hk : k ≤ 632) : pn_Cv l D (pn_ty cI cZ cB cJ) y_R_fit w_R_fit ({ frames := 0, cells := 0, slots := 0, locals := 0 } : Room) [.ref a, .int (nI k)] [(a, .inr (1, [.ref q, .int (nI n), .int (pn_b b)])), (q, .inl (cI, 632, .inl f))] sz (S := Nat) (fun j => j ≤ k ∧ pn_V f j = pn_V f k ∧ pn_nz f j) (fun j => [(a, .inr (1, [.ref q, .int (nI j), .int (pn_b false)])), (q, .inl (cI, 632, .inl f))]) := by
  refine pn_start (by decide) (Nat.le_of_ble_eq_true rfl) ?_
  intro p e s m below meth c A Q ls hQ hAe Fx hr hlocks hN hK hP hD hS hA hl
  have hx := Fx.1
  have hb := Fx.2.1
  have hl : lv_has ls 3 [(0, .ref a), (1, .int (nI k))] := hl
  refine lv_iload_n hx hb d_R_fit_0 rfl (lv_at hl 1 rfl) ?_
  refine lv_istore_n (lv' := [(2, .int (nI k)), (0, .ref a), (1, .int (nI k))]) hx hb d_R_fit_1 rfl hl (by decide) rfl (fun ls hl => ?_)
  have loop2 : ∀ (N : Nat) (j : Nat), j < N → (j ≤ k) → (pn_V f j = pn_V f k) → ∀ (H : Heap) (locs : List Loc) (ls : Array Slot), lv_has ls 3 [(2, .int (nI j)), (0, .ref a), (1, .int (nI k))] → va_P D pn_cl [(a, .inr (1, [.ref q, .int (nI n), .int (pn_b b)])), (q, .inl (cI, 632, .inl f))] H → va_D A [(a, .inr (1, [.ref q, .int (nI n), .int (pn_b b)])), (q, .inl (cI, 632, .inl f))] → va_S A s.heap H locs → W p l e ({ frames := 0, cells := 0, slots := 0, locals := 0 } : Room) s m ([.ref a, .int (nI k)] : List Value).toArray below meth c H locs 0 0 Q (F0 m 2 ls []) := by
    intro N
    induction N with
    | zero => intro j hM; exact absurd hM (Nat.not_lt_zero _)
    | succ N ih2 =>
      intro j hM2 hj hV H locs ls hl hP hD hS
      refine lv_iload_n hx hb d_R_fit_2 rfl (lv_at hl 0 rfl) ?_
      refine pw_if_le (a := j) (tgt := 23) hx hb d_R_fit_3 (by decide) (by omega) (fun h_3 => ?_) (fun h_3 => ?_)
      · skip
        have hz : pn_nz f j := fun i hi => by omega
        refine lv_aload_n hx hb d_R_fit_23 rfl (lv_at hl 1 rfl) ?_
        refine lv_iload_n hx hb d_R_fit_24 rfl (lv_at hl 0 rfl) ?_
        refine pw_put Fx hK hP hD hS fld_R 0 rfl 1 (by decide) kw_93 rfl rfl rfl (Nat.le_of_ble_eq_true rfl) (w' := [(a, .inr (1, [.ref q, .int (nI j), .int (pn_b b)])), (q, .inl (cI, 632, .inl f))]) rfl d_R_fit_25 (fun H locs hP hD hS => ?_)
        refine lv_aload_n hx hb d_R_fit_28 rfl (lv_at hl 1 rfl) ?_
        refine lv_iconst (v := nI 0) hx hb d_R_fit_29 (by decide) ?_
        refine pn_topi (pn_b false) (by decide) ?_
        refine pw_put Fx hK hP hD hS fld_R 0 rfl 2 (by decide) kw_99 rfl (pn_b_nar _) (pn_b_fit _) (Nat.le_of_ble_eq_true rfl) (w' := [(a, .inr (1, [.ref q, .int (nI j), .int (pn_b false)])), (q, .inl (cI, 632, .inl f))]) rfl d_R_fit_30 (fun H locs hP hD hS => ?_)
        exact pn_retv (j) Fx hr hlocks hQ hAe hP hD hS (⟨hj, hV, hz⟩) d_R_fit_33
      · skip
        refine lv_aload_n hx hb d_R_fit_6 rfl (lv_at hl 1 rfl) ?_
        refine pw_get Fx hK hP fld_R 0 rfl 0 (by decide) kw_89 (v := .ref q) rfl d_R_fit_7 ?_
        refine lv_iload_n hx hb d_R_fit_10 rfl (lv_at hl 0 rfl) ?_
        refine lv_iconst (v := nI 1) hx hb d_R_fit_11 (by decide) ?_
        refine pw_isub hx hb d_R_fit_12 (by omega) ?_
        refine pw_iald Fx hK hP 1 0 (f := f) rfl rfl (k := j - 1) (by omega) (by decide) d_R_fit_13 ?_
        refine lv_if_ne (tgt := 23) hx hb d_R_fit_14 (by decide) (fun h_14 => ?_) (fun h_14 => ?_)
        · skip
          have hz : pn_nz f j := fun i hi => by have e : j - 1 = i := (by omega); rw [← e]; exact h_14
          refine lv_aload_n hx hb d_R_fit_23 rfl (lv_at hl 1 rfl) ?_
          refine lv_iload_n hx hb d_R_fit_24 rfl (lv_at hl 0 rfl) ?_
          refine pw_put Fx hK hP hD hS fld_R 0 rfl 1 (by decide) kw_93 rfl rfl rfl (Nat.le_of_ble_eq_true rfl) (w' := [(a, .inr (1, [.ref q, .int (nI j), .int (pn_b b)])), (q, .inl (cI, 632, .inl f))]) rfl d_R_fit_25 (fun H locs hP hD hS => ?_)
          refine lv_aload_n hx hb d_R_fit_28 rfl (lv_at hl 1 rfl) ?_
          refine lv_iconst (v := nI 0) hx hb d_R_fit_29 (by decide) ?_
          refine pn_topi (pn_b false) (by decide) ?_
          refine pw_put Fx hK hP hD hS fld_R 0 rfl 2 (by decide) kw_99 rfl (pn_b_nar _) (pn_b_fit _) (Nat.le_of_ble_eq_true rfl) (w' := [(a, .inr (1, [.ref q, .int (nI j), .int (pn_b false)])), (q, .inl (cI, 632, .inl f))]) rfl d_R_fit_30 (fun H locs hP hD hS => ?_)
          exact pn_retv (j) Fx hr hlocks hQ hAe hP hD hS (⟨hj, hV, hz⟩) d_R_fit_33
        · skip
          refine lv_iinc (v := nI (j - 1)) (lv' := [(2, .int (nI (j - 1))), (0, .ref a), (1, .int (nI k))]) hx hb d_R_fit_17 hl (k := 0) rfl (sb_m1 (by omega)) (by decide) rfl (fun ls hl => ?_)
          refine lv_goto (tgt := 2) hx hb d_R_fit_20 (by decide) ?_
          exact ih2 (j - 1) (by omega) (by omega) (by rw [pn_V_drop h_3 h_14]; exact hV) _ _ _ hl hP hD hS
  exact loop2 _ k (Nat.lt_succ_self _) (Nat.le_refl _) rfl _ _ _ hl hP hD hS

set_option maxHeartbeats 4000000 in
set_option maxRecDepth 100000 in
theorem c_R_limbAt (l : Launch) (D : va_G) (cI cZ cB cJ : ClassId) (sz : Nat) (a q : Nat) (f : Nat → Int32) (n k : Nat) (b : Bool) (hn : n ≤ 632) (hk : k < 2 ^ 31) : pn_Cl l D (pn_ty cI cZ cB cJ) y_R_limbAt w_R_limbAt ({ frames := 0, cells := 0, slots := 0, locals := 0 } : Room) [.ref a, .int (nI k)] [(a, .inr (1, [.ref q, .int (nI n), .int (pn_b b)])), (q, .inl (cI, 632, .inl f))] sz (S := Unit) (fun r _ => r = pn_L (pn_u (pn_cut f n k))) (fun _ => [(a, .inr (1, [.ref q, .int (nI n), .int (pn_b b)])), (q, .inl (cI, 632, .inl f))]) := by
  refine pn_start (by decide) (Nat.le_of_ble_eq_true rfl) ?_
  intro p e s m below meth c A Q ls hQ hAe Fx hr hlocks hN hK hP hD hS hA hl
  have hx := Fx.1
  have hb := Fx.2.1
  have hl : lv_has ls 2 [(0, .ref a), (1, .int (nI k))] := hl
  refine lv_iload_n hx hb d_R_limbAt_0 rfl (lv_at hl 1 rfl) ?_
  refine lv_aload_n hx hb d_R_limbAt_1 rfl (lv_at hl 0 rfl) ?_
  refine pw_get Fx hK hP fld_R 0 rfl 1 (by decide) kw_93 (v := .int (nI n)) rfl d_R_limbAt_2 ?_
  refine pw_icmp_ge (a := k) (b := n) (tgt := 22) hx hb d_R_limbAt_5 (by decide) (by omega) (by omega) (fun h_5 => ?_) (fun h_5 => ?_)
  · skip
    have hz : pn_L 0 = pn_L (pn_u (pn_cut f n k)) := by rw [pn_cut_ge h_5, pn_u_0]
    refine lv_lconst (v := pn_L 0) hx hb d_R_limbAt_22 (by decide) ?_
    exact pn_retl (()) Fx hr hlocks hQ hAe hP hD hS (hz) d_R_limbAt_23
  · skip
    have hz : pn_L (pn_u (f k)) = pn_L (pn_u (pn_cut f n k)) := by rw [pn_cut_lt h_5]
    refine lv_aload_n hx hb d_R_limbAt_8 rfl (lv_at hl 0 rfl) ?_
    refine pw_get Fx hK hP fld_R 0 rfl 0 (by decide) kw_89 (v := .ref q) rfl d_R_limbAt_9 ?_
    refine lv_iload_n hx hb d_R_limbAt_12 rfl (lv_at hl 1 rfl) ?_
    refine pw_iald Fx hK hP 1 0 (f := f) rfl rfl (k := k) (by omega) (by decide) d_R_limbAt_13 ?_
    refine pw_i2l hx hb d_R_limbAt_14 ?_
    refine lv_ldc2 hx hb Fx.2.2.2.1 (Fx.2.2.2.2 _ kw_365) d_R_limbAt_15 ?_
    refine pw_limb hx hb d_R_limbAt_18 ?_
    refine lv_goto (tgt := 23) hx hb d_R_limbAt_19 (by decide) ?_
    exact pn_retl (()) Fx hr hlocks hQ hAe hP hD hS (hz) d_R_limbAt_23

set_option maxHeartbeats 4000000 in
set_option maxRecDepth 100000 in
theorem c_R_clear (l : Launch) (D : va_G) (cI cZ cB cJ : ClassId) (sz : Nat) (a q : Nat) (f : Nat → Int32) (n i0 k : Nat) (b : Bool) (hk : k ≤ 632) (hi0 : i0 < 2 ^ 31) : pn_Cv l D (pn_ty cI cZ cB cJ) y_R_clear w_R_clear ({ frames := 0, cells := 0, slots := 0, locals := 0 } : Room) [.ref a, .int (nI i0), .int (nI k)] [(a, .inr (1, [.ref q, .int (nI n), .int (pn_b b)])), (q, .inl (cI, 632, .inl f))] sz (S := Nat → Int32) (fun g => ∀ j, g j = if i0 ≤ j ∧ j < k then 0 else f j) (fun g => [(a, .inr (1, [.ref q, .int (nI n), .int (pn_b b)])), (q, .inl (cI, 632, .inl g))]) := by
  refine pn_start (by decide) (Nat.le_of_ble_eq_true rfl) ?_
  intro p e s m below meth c A Q ls hQ hAe Fx hr hlocks hN hK hP hD hS hA hl
  have hx := Fx.1
  have hb := Fx.2.1
  have hl : lv_has ls 4 [(0, .ref a), (1, .int (nI i0)), (2, .int (nI k))] := hl
  refine lv_iload_n hx hb d_R_clear_0 rfl (lv_at hl 1 rfl) ?_
  refine lv_istore_n (lv' := [(3, .int (nI i0)), (0, .ref a), (1, .int (nI i0)), (2, .int (nI k))]) hx hb d_R_clear_1 rfl hl (by decide) rfl (fun ls hl => ?_)
  have loop2 : ∀ (N : Nat) (i : Nat) (g : Nat → Int32), 632 - i < N → (i0 ≤ i ∧ i < 2 ^ 31 ∧ (i ≤ k ∨ i = i0)) → (∀ j, g j = if i0 ≤ j ∧ j < i then 0 else f j) → ∀ (H : Heap) (locs : List Loc) (ls : Array Slot), lv_has ls 4 [(3, .int (nI i)), (0, .ref a), (1, .int (nI i0)), (2, .int (nI k))] → va_P D pn_cl [(a, .inr (1, [.ref q, .int (nI n), .int (pn_b b)])), (q, .inl (cI, 632, .inl g))] H → va_D A [(a, .inr (1, [.ref q, .int (nI n), .int (pn_b b)])), (q, .inl (cI, 632, .inl g))] → va_S A s.heap H locs → W p l e ({ frames := 0, cells := 0, slots := 0, locals := 0 } : Room) s m ([.ref a, .int (nI i0), .int (nI k)] : List Value).toArray below meth c H locs 0 0 Q (F0 m 2 ls []) := by
    intro N
    induction N with
    | zero => intro i g hM; exact absurd hM (Nat.not_lt_zero _)
    | succ N ih2 =>
      intro i g hM2 hi hg H locs ls hl hP hD hS
      refine lv_iload_n hx hb d_R_clear_2 rfl (lv_at hl 0 rfl) ?_
      refine lv_iload_n hx hb d_R_clear_3 rfl (lv_at hl 3 rfl) ?_
      refine pw_icmp_ge (a := i) (b := k) (tgt := 20) hx hb d_R_clear_4 (by decide) (by omega) (by omega) (fun h_4 => ?_) (fun h_4 => ?_)
      · skip
        exact pn_retv (g) Fx hr hlocks hQ hAe hP hD hS (fun j => by rw [hg j]; by_cases h2 : i0 ≤ j ∧ j < i <;> by_cases h3 : i0 ≤ j ∧ j < k <;> simp only [h2, h3, if_true, if_false] <;> omega) d_R_clear_20
      · skip
        refine lv_aload_n hx hb d_R_clear_7 rfl (lv_at hl 1 rfl) ?_
        refine pw_get Fx hK hP fld_R 0 rfl 0 (by decide) kw_89 (v := .ref q) rfl d_R_clear_8 ?_
        refine lv_iload_n hx hb d_R_clear_11 rfl (lv_at hl 0 rfl) ?_
        refine lv_iconst (v := nI 0) hx hb d_R_clear_12 (by decide) ?_
        refine pw_iast Fx hK hP hD hS 1 0 (f := g) rfl rfl (k := i) (by omega) (by decide) (w' := [(a, .inr (1, [.ref q, .int (nI n), .int (pn_b b)])), (q, .inl (cI, 632, .inl (upd g i (nI 0))))]) rfl d_R_clear_13 (fun H locs hP hD hS => ?_)
        refine lv_iinc (v := nI (i + 1)) (lv' := [(3, .int (nI (i + 1))), (0, .ref a), (1, .int (nI i0)), (2, .int (nI k))]) hx hb d_R_clear_14 hl (k := 0) rfl (nI_add _ 1) (by decide) rfl (fun ls hl => ?_)
        refine lv_goto (tgt := 2) hx hb d_R_clear_17 (by decide) ?_
        exact ih2 (i + 1) _ (by omega) (by omega) (pn_clear_step hi.1 hg) _ _ _ hl hP hD hS
  exact loop2 _ i0 f (Nat.lt_succ_self _) (⟨Nat.le_refl _, hi0, Or.inr rfl⟩) (fun j => by rw [if_neg (by omega)]) _ _ _ hl hP hD hS

set_option maxHeartbeats 4000000 in
set_option maxRecDepth 100000 in
theorem c_R_turnBelowIf (l : Launch) (D : va_G) (cI cZ cB cJ : ClassId) (sz : Nat) (a q : Nat) (f : Nat → Int32) (n : Nat) (b v : Bool) (hn : n ≤ 632) : pn_Cv l D (pn_ty cI cZ cB cJ) y_R_turnBelowIf w_R_turnBelowIf ({ frames := 0, cells := 0, slots := 0, locals := 0 } : Room) [.ref a, .int (pn_b v)] [(a, .inr (1, [.ref q, .int (nI n), .int (pn_b b)])), (q, .inl (cI, 632, .inl f))] sz (S := Bool) (fun z => z = (v && decide (0 < n))) (fun z => [(a, .inr (1, [.ref q, .int (nI n), .int (pn_b z)])), (q, .inl (cI, 632, .inl f))]) := by
  refine pn_start (by decide) (Nat.le_of_ble_eq_true rfl) ?_
  intro p e s m below meth c A Q ls hQ hAe Fx hr hlocks hN hK hP hD hS hA hl
  have hx := Fx.1
  have hb := Fx.2.1
  have hl : lv_has ls 2 [(0, .ref a), (1, .int (pn_b v))] := hl
  refine lv_aload_n hx hb d_R_turnBelowIf_0 rfl (lv_at hl 0 rfl) ?_
  refine lv_iload_n hx hb d_R_turnBelowIf_1 rfl (lv_at hl 1 rfl) ?_
  refine pw_ifb_eq (tgt := 16) hx hb d_R_turnBelowIf_2 (by decide) (fun h_2 => ?_) (fun h_2 => ?_)
  · skip
    have hz : false = (v && decide (0 < n)) := by rw [h_2]; rfl
    refine lv_iconst (v := nI 0) hx hb d_R_turnBelowIf_16 (by decide) ?_
    refine pn_topi (pn_b false) (by decide) ?_
    refine pw_put Fx hK hP hD hS fld_R 0 rfl 2 (by decide) kw_99 rfl (pn_b_nar _) (pn_b_fit _) (Nat.le_of_ble_eq_true rfl) (w' := [(a, .inr (1, [.ref q, .int (nI n), .int (pn_b false)])), (q, .inl (cI, 632, .inl f))]) rfl d_R_turnBelowIf_17 (fun H locs hP hD hS => ?_)
    exact pn_retv (false) Fx hr hlocks hQ hAe hP hD hS (hz) d_R_turnBelowIf_20
  · skip
    refine lv_aload_n hx hb d_R_turnBelowIf_5 rfl (lv_at hl 0 rfl) ?_
    refine pw_get Fx hK hP fld_R 0 rfl 1 (by decide) kw_93 (v := .int (nI n)) rfl d_R_turnBelowIf_6 ?_
    refine pw_if_le (a := n) (tgt := 16) hx hb d_R_turnBelowIf_9 (by decide) (by omega) (fun h_9 => ?_) (fun h_9 => ?_)
    · skip
      have hz : false = (v && decide (0 < n)) := by rw [h_9]; simp
      refine lv_iconst (v := nI 0) hx hb d_R_turnBelowIf_16 (by decide) ?_
      refine pn_topi (pn_b false) (by decide) ?_
      refine pw_put Fx hK hP hD hS fld_R 0 rfl 2 (by decide) kw_99 rfl (pn_b_nar _) (pn_b_fit _) (Nat.le_of_ble_eq_true rfl) (w' := [(a, .inr (1, [.ref q, .int (nI n), .int (pn_b false)])), (q, .inl (cI, 632, .inl f))]) rfl d_R_turnBelowIf_17 (fun H locs hP hD hS => ?_)
      exact pn_retv (false) Fx hr hlocks hQ hAe hP hD hS (hz) d_R_turnBelowIf_20
    · skip
      have hz : true = (v && decide (0 < n)) := by rw [h_2, decide_eq_true h_9]; rfl
      refine lv_iconst (v := nI 1) hx hb d_R_turnBelowIf_12 (by decide) ?_
      refine lv_goto (tgt := 17) hx hb d_R_turnBelowIf_13 (by decide) ?_
      refine pn_topi (pn_b true) (by decide) ?_
      refine pw_put Fx hK hP hD hS fld_R 0 rfl 2 (by decide) kw_99 rfl (pn_b_nar _) (pn_b_fit _) (Nat.le_of_ble_eq_true rfl) (w' := [(a, .inr (1, [.ref q, .int (nI n), .int (pn_b true)])), (q, .inl (cI, 632, .inl f))]) rfl d_R_turnBelowIf_17 (fun H locs hP hD hS => ?_)
      exact pn_retv (true) Fx hr hlocks hQ hAe hP hD hS (hz) d_R_turnBelowIf_20

set_option maxHeartbeats 4000000 in
set_option maxRecDepth 100000 in
theorem c_R_signum (l : Launch) (D : va_G) (cI cZ cB cJ : ClassId) (sz : Nat) (a q : Nat) (f : Nat → Int32) (n : Nat) (b : Bool) (hn : n ≤ 632) : pn_Ci l D (pn_ty cI cZ cB cJ) y_R_signum w_R_signum ({ frames := 0, cells := 0, slots := 0, locals := 0 } : Room) [.ref a] [(a, .inr (1, [.ref q, .int (nI n), .int (pn_b b)])), (q, .inl (cI, 632, .inl f))] sz (S := Unit) (fun r _ => r = if n = 0 then 0 else if b = true then -1 else 1) (fun _ => [(a, .inr (1, [.ref q, .int (nI n), .int (pn_b b)])), (q, .inl (cI, 632, .inl f))]) := by
  refine pn_start (by decide) (Nat.le_of_ble_eq_true rfl) ?_
  intro p e s m below meth c A Q ls hQ hAe Fx hr hlocks hN hK hP hD hS hA hl
  have hx := Fx.1
  have hb := Fx.2.1
  have hl : lv_has ls 1 [(0, .ref a)] := hl
  refine lv_aload_n hx hb d_R_signum_0 rfl (lv_at hl 0 rfl) ?_
  refine pw_get Fx hK hP fld_R 0 rfl 1 (by decide) kw_93 (v := .int (nI n)) rfl d_R_signum_1 ?_
  refine pw_if_ne (a := n) (tgt := 9) hx hb d_R_signum_4 (by decide) (by omega) (fun h_4 => ?_) (fun h_4 => ?_)
  · skip
    refine lv_aload_n hx hb d_R_signum_9 rfl (lv_at hl 0 rfl) ?_
    refine pw_get Fx hK hP fld_R 0 rfl 2 (by decide) kw_99 (v := .int (pn_b b)) rfl d_R_signum_10 ?_
    refine pw_ifb_eq (tgt := 20) hx hb d_R_signum_13 (by decide) (fun h_13 => ?_) (fun h_13 => ?_)
    · skip
      have hz : nI 1 = (if n = 0 then 0 else if b = true then -1 else 1 : Int32) := by rw [if_neg h_4, if_neg (by rw [h_13]; decide)]; rfl
      refine lv_iconst (v := nI 1) hx hb d_R_signum_20 (by decide) ?_
      exact pn_reti (()) Fx hr hlocks hQ hAe hP hD hS (hz) d_R_signum_21
    · skip
      have hz : (-1) = (if n = 0 then 0 else if b = true then -1 else 1 : Int32) := by rw [if_neg h_4, if_pos h_13]
      refine lv_iconst (v := (-1)) hx hb d_R_signum_16 (by decide) ?_
      refine lv_goto (tgt := 21) hx hb d_R_signum_17 (by decide) ?_
      exact pn_reti (()) Fx hr hlocks hQ hAe hP hD hS (hz) d_R_signum_21
  · skip
    have hz : nI 0 = (if n = 0 then 0 else if b = true then -1 else 1 : Int32) := by rw [if_pos h_4]; rfl
    refine lv_iconst (v := nI 0) hx hb d_R_signum_7 (by decide) ?_
    exact pn_reti (()) Fx hr hlocks hQ hAe hP hD hS (hz) d_R_signum_8
end
section
theorem pn_dec (n : Nat) : nI n - nI 1 = pn_I ((n : Int) - 1) := by rw [← pn_I_nI, ← pn_I_nI, pn_I_sub]; rfl
theorem pn_dec' (n : Nat) : nI n + Int32.ofInt (-1) = pn_I ((n : Int) - 1) := by
  have e : Int32.ofInt (-1) = pn_I (-1) := rfl
  rw [← pn_I_nI, e, pn_I_add]; rfl
theorem pn_dec_0 {k : Nat} (hk : k < 2 ^ 31) (h : pn_I ((k : Int) - 1) < 0) : k = 0 := by
  have e : (0 : Int32) = pn_I 0 := rfl
  rw [e, pn_I_lt (by omega) (by omega) (by omega) (by omega)] at h
  omega
theorem pn_dec_s {k : Nat} (h : ¬ pn_I ((k : Int) - 1) < 0) : ∃ j, k = j + 1 := by
  rcases Nat.eq_zero_or_pos k with z | z
  · subst z; exact absurd (by decide) h
  · exact ⟨k - 1, by omega⟩
theorem pn_dec_n (j : Nat) : pn_I (((j + 1 : Nat) : Int) - 1) = nI j := by rw [← pn_I_nI]; congr 1; omega
def pn_cmp (x y : Int) : Int32 := if x < y then -1 else if x = y then 0 else 1
theorem pn_cmp_lt {x y : Int} (h : x < y) : pn_cmp x y = -1 := if_pos h
theorem pn_cmp_eq {x y : Int} (h : x = y) : pn_cmp x y = 0 := by unfold pn_cmp; rw [if_neg (by omega), if_pos h]
theorem pn_cmp_gt {x y : Int} (h : y < x) : pn_cmp x y = 1 := by unfold pn_cmp; rw [if_neg (by omega), if_neg (by omega)]
theorem pn_len_bits {f : Nat → Int32} {n : Nat} (h0 : ¬ n = 0) (hn : n ≤ 632) (hz : pn_nz f n) : nI 32 * nI n - nI (32 - pn_len (pn_u (f (n - 1)))) = nI (pn_len (pn_V f n)) := by
  obtain ⟨k, rfl⟩ : ∃ k, n = k + 1 := ⟨n - 1, by omega⟩
  have e := pn_len_V hz
  have e2 := pn_len_u (f k)
  have e3 : k + 1 - 1 = k := rfl
  rw [e3, pk_mul, pk_sub (by omega), e]
  congr 1
  omega
theorem pn_V_2 (f : Nat → Int32) (x y : Int) (hx0 : 0 ≤ x) (hx : x < 4294967296) (hy0 : 0 ≤ y) (hy : y < 4294967296) : pn_V (upd (upd f 0 (pn_I x)) 1 (pn_I y)) 2 = x + y * 4294967296 := by
  rw [pn_V_upS, pn_V_upS, pn_V_0, pn_u_Ilt hx0 hx, pn_u_Ilt hy0 hy, pn_E_0, pn_E_1]
  omega
theorem pn_V_push {f g : Nat → Int32} {n : Nat} {x : Int32} (h0 : g 0 = x) (h : ∀ i, i < n → g (i + 1) = f i) : pn_V g (n + 1) = pn_V f n * 4294967296 + pn_u x := by
  have e := pn_V_add g 1 n
  rw [Nat.add_comm 1 n] at e
  have e2 : pn_V (fun i => g (1 + i)) n = pn_V f n := pn_V_congr (fun i hi => by rw [Nat.add_comm 1 i]; exact h i hi)
  rw [e, e2, pn_E_1, pn_V_s, pn_V_0, pn_E_0, h0]
  omega

set_option maxHeartbeats 4000000 in
set_option maxRecDepth 100000 in
theorem c_R_bits (l : Launch) (D : va_G) (cI cZ cB cJ : ClassId) (sz : Nat) (oa qa : Nat) (fa : Nat → Int32) (na : Nat) (ba : Bool) (hn : na ≤ 632) (hz : pn_nz fa na) : pn_Ci l D (pn_ty cI cZ cB cJ) y_R_bits w_R_bits ({ frames := 1, cells := 0, slots := 0, locals := 32 } : Room) [.ref oa] [(oa, .inr (1, [.ref qa, .int (nI na), .int (pn_b ba)])), (qa, .inl (cI, 632, .inl fa))] sz (S := Unit) (fun r _ => r = nI (pn_len (pn_V fa na))) (fun _ => [(oa, .inr (1, [.ref qa, .int (nI na), .int (pn_b ba)])), (qa, .inl (cI, 632, .inl fa))]) := by
  refine pn_start (by decide) (Nat.le_of_ble_eq_true rfl) ?_
  intro p e s m below meth c A Q ls hQ hAe Fx hr hlocks hN hK hP hD hS hA hl
  have hx := Fx.1
  have hb := Fx.2.1
  have hl : lv_has ls 1 [(0, .ref oa)] := hl
  refine lv_aload_n hx hb d_R_bits_0 rfl (lv_at hl 0 rfl) ?_
  refine pw_get Fx hK hP fld_R 0 rfl 1 (by decide) kw_93 (v := .int (nI na)) rfl d_R_bits_1 ?_
  refine pw_if_ne (a := na) (tgt := 11) hx hb d_R_bits_4 (by decide) (by omega) (fun h_4 => ?_) (fun h_4 => ?_)
  · skip
    refine lv_bipush (v := nI 32) hx hb d_R_bits_11 (by decide) ?_
    refine lv_aload_n hx hb d_R_bits_13 rfl (lv_at hl 0 rfl) ?_
    refine pw_get Fx hK hP fld_R 0 rfl 1 (by decide) kw_93 (v := .int (nI na)) rfl d_R_bits_14 ?_
    refine lv_imul hx hb d_R_bits_17 ?_
    refine pn_topi (nI 32 * nI na) (rfl) ?_
    refine lv_aload_n hx hb d_R_bits_18 rfl (lv_at hl 0 rfl) ?_
    refine pw_get Fx hK hP fld_R 0 rfl 0 (by decide) kw_89 (v := .ref qa) rfl d_R_bits_19 ?_
    refine lv_aload_n hx hb d_R_bits_22 rfl (lv_at hl 0 rfl) ?_
    refine pw_get Fx hK hP fld_R 0 rfl 1 (by decide) kw_93 (v := .int (nI na)) rfl d_R_bits_23 ?_
    refine lv_iconst (v := nI 1) hx hb d_R_bits_26 (by decide) ?_
    refine pw_isub hx hb d_R_bits_27 (by omega) ?_
    refine pw_iald Fx hK hP 1 0 (f := fa) rfl rfl (k := na - 1) (by omega) (by decide) d_R_bits_28 ?_
    refine pn_bi (wr := [(oa, .inr (1, [.ref qa, .int (nI na), .int (pn_b ba)])), (qa, .inl (cI, 632, .inl fa))]) [] [0, 1] hP hD hS hA (pn_rS [.int (fa (na - 1))] [.int (nI 32 * nI na)] Fx hK hN hP hD [] rfl rfl (c_J_nlz l D cI cZ cB cJ _ (fa (na - 1))) kw_238 cal_J_nlz stat_J_nlz ⟨by decide, by decide⟩ ⟨rfl, rfl⟩ rfl hl.1 (Nat.le_of_ble_eq_true rfl) d_R_bits_29 ⟨Nat.zero_le _, Nat.zero_le _⟩) rfl rfl rfl (by decide) (fun r_29 u_29 H locs hw hP hD hS => ?_)
    obtain ⟨⟩ := u_29
    obtain rfl := hw
    have hP : va_P D pn_cl [(oa, .inr (1, [.ref qa, .int (nI na), .int (pn_b ba)])), (qa, .inl (cI, 632, .inl fa))] H := hP
    have hD : va_D A [(oa, .inr (1, [.ref qa, .int (nI na), .int (pn_b ba)])), (qa, .inl (cI, 632, .inl fa))] := hD
    refine lv_isub hx hb d_R_bits_32 ?_
    refine pn_topi (nI (pn_len (pn_V fa na))) (pn_len_bits h_4 hn hz) ?_
    exact pn_reti (()) Fx hr hlocks hQ hAe hP hD hS (by first | exact hw0 | rfl) d_R_bits_33
  · skip
    have hw0 : nI 0 = nI (pn_len (pn_V fa na)) := by rw [h_4]; rfl
    refine lv_iconst (v := nI 0) hx hb d_R_bits_7 (by decide) ?_
    refine lv_goto (tgt := 33) hx hb d_R_bits_8 (by decide) ?_
    exact pn_reti (()) Fx hr hlocks hQ hAe hP hD hS (by first | exact hw0 | rfl) d_R_bits_33

set_option maxHeartbeats 4000000 in
set_option maxRecDepth 100000 in
theorem c_R_compareSize (l : Launch) (D : va_G) (cI cZ cB cJ : ClassId) (sz : Nat) (oa qa : Nat) (fa : Nat → Int32) (na : Nat) (ba : Bool) (ob qb : Nat) (fb : Nat → Int32) (nb : Nat) (bb : Bool) (hna : na ≤ 632) (hnb : nb ≤ 632) (hza : pn_nz fa na) (hzb : pn_nz fb nb) : pn_Ci l D (pn_ty cI cZ cB cJ) y_R_compareSize w_R_compareSize ({ frames := 1, cells := 0, slots := 0, locals := 32 } : Room) [.ref oa, .ref ob] [(oa, .inr (1, [.ref qa, .int (nI na), .int (pn_b ba)])), (qa, .inl (cI, 632, .inl fa)), (ob, .inr (1, [.ref qb, .int (nI nb), .int (pn_b bb)])), (qb, .inl (cI, 632, .inl fb))] sz (S := Unit) (fun r _ => r = pn_cmp (pn_V fa na) (pn_V fb nb)) (fun _ => [(oa, .inr (1, [.ref qa, .int (nI na), .int (pn_b ba)])), (qa, .inl (cI, 632, .inl fa)), (ob, .inr (1, [.ref qb, .int (nI nb), .int (pn_b bb)])), (qb, .inl (cI, 632, .inl fb))]) := by
  refine pn_start (by decide) (Nat.le_of_ble_eq_true rfl) ?_
  intro p e s m below meth c A Q ls hQ hAe Fx hr hlocks hN hK hP hD hS hA hl
  have hx := Fx.1
  have hb := Fx.2.1
  have hl : lv_has ls 3 [(0, .ref oa), (1, .ref ob)] := hl
  refine lv_aload_n hx hb d_R_compareSize_0 rfl (lv_at hl 0 rfl) ?_
  refine pw_get Fx hK hP fld_R 0 rfl 1 (by decide) kw_93 (v := .int (nI na)) rfl d_R_compareSize_1 ?_
  refine lv_aload_n hx hb d_R_compareSize_4 rfl (lv_at hl 1 rfl) ?_
  refine pw_get Fx hK hP fld_R 2 rfl 1 (by decide) kw_93 (v := .int (nI nb)) rfl d_R_compareSize_5 ?_
  refine pw_icmp_eq (a := na) (b := nb) (tgt := 28) hx hb d_R_compareSize_8 (by decide) (by omega) (by omega) (fun h_8 => ?_) (fun h_8 => ?_)
  · skip
    subst h_8
    refine lv_aload_n hx hb d_R_compareSize_28 rfl (lv_at hl 0 rfl) ?_
    refine pw_get Fx hK hP fld_R 0 rfl 1 (by decide) kw_93 (v := .int (nI na)) rfl d_R_compareSize_29 ?_
    refine lv_iconst (v := nI 1) hx hb d_R_compareSize_32 (by decide) ?_
    refine lv_isub hx hb d_R_compareSize_33 ?_
    refine pn_topi (pn_I ((na : Int) - 1)) (pn_dec _) ?_
    refine lv_istore_n (lv' := [(2, .int (pn_I ((na : Int) - 1))), (0, .ref oa), (1, .ref ob)]) hx hb d_R_compareSize_34 rfl hl (by decide) rfl (fun ls hl => ?_)
    have loop35 : ∀ (N : Nat) (k : Nat), k < N → (k ≤ na) → (∀ i, k ≤ i → i < na → fa i = fb i) → ∀ (H : Heap) (locs : List Loc) (ls : Array Slot), lv_has ls 3 [(2, .int (pn_I ((k : Int) - 1))), (0, .ref oa), (1, .ref ob)] → va_P D pn_cl [(oa, .inr (1, [.ref qa, .int (nI na), .int (pn_b ba)])), (qa, .inl (cI, 632, .inl fa)), (ob, .inr (1, [.ref qb, .int (nI na), .int (pn_b bb)])), (qb, .inl (cI, 632, .inl fb))] H → va_D A [(oa, .inr (1, [.ref qa, .int (nI na), .int (pn_b ba)])), (qa, .inl (cI, 632, .inl fa)), (ob, .inr (1, [.ref qb, .int (nI na), .int (pn_b bb)])), (qb, .inl (cI, 632, .inl fb))] → va_S A s.heap H locs → W p l e ({ frames := 1, cells := 0, slots := 0, locals := 32 } : Room) s m ([.ref oa, .ref ob] : List Value).toArray below meth c H locs 0 0 Q (F0 m 35 ls []) := by
      intro N
      induction N with
      | zero => intro k hM; exact absurd hM (Nat.not_lt_zero _)
      | succ N ih35 =>
        intro k hM35 hk hE H locs ls hl hP hD hS
        refine lv_iload_n hx hb d_R_compareSize_35 rfl (lv_at hl 0 rfl) ?_
        refine lv_if_lt (tgt := 80) hx hb d_R_compareSize_36 (by decide) (fun h_36 => ?_) (fun h_36 => ?_)
        · skip
          have hk0 := pn_dec_0 (by omega) h_36
          subst hk0
          have hz : nI 0 = pn_cmp (pn_V fa na) (pn_V fb na) := (pn_cmp_eq (pn_V_congr (fun i hi => hE i (Nat.zero_le i) hi))).symm
          refine lv_iconst (v := nI 0) hx hb d_R_compareSize_80 (by decide) ?_
          exact pn_reti (()) Fx hr hlocks hQ hAe hP hD hS (hz) d_R_compareSize_81
        · skip
          obtain ⟨j, rfl⟩ := pn_dec_s h_36
          rw [pn_dec_n] at hl
          refine lv_aload_n hx hb d_R_compareSize_39 rfl (lv_at hl 1 rfl) ?_
          refine pw_get Fx hK hP fld_R 0 rfl 0 (by decide) kw_89 (v := .ref qa) rfl d_R_compareSize_40 ?_
          refine lv_iload_n hx hb d_R_compareSize_43 rfl (lv_at hl 0 rfl) ?_
          refine pw_iald Fx hK hP 1 0 (f := fa) rfl rfl (k := j) (by omega) (by decide) d_R_compareSize_44 ?_
          refine lv_aload_n hx hb d_R_compareSize_45 rfl (lv_at hl 2 rfl) ?_
          refine pw_get Fx hK hP fld_R 2 rfl 0 (by decide) kw_89 (v := .ref qb) rfl d_R_compareSize_46 ?_
          refine lv_iload_n hx hb d_R_compareSize_49 rfl (lv_at hl 0 rfl) ?_
          refine pw_iald Fx hK hP 3 0 (f := fb) rfl rfl (k := j) (by omega) (by decide) d_R_compareSize_50 ?_
          refine lv_icmp_eq (tgt := 74) hx hb d_R_compareSize_51 (by decide) (fun h_51 => ?_) (fun h_51 => ?_)
          · skip
            refine lv_iinc (v := pn_I ((j : Int) - 1)) (lv' := [(2, .int (pn_I ((j : Int) - 1))), (0, .ref oa), (1, .ref ob)]) hx hb d_R_compareSize_74 hl (k := 0) rfl (pn_dec' _) (by decide) rfl (fun ls hl => ?_)
            refine lv_goto (tgt := 35) hx hb d_R_compareSize_77 (by decide) ?_
            exact ih35 j (by omega) (by omega) (fun i h1 h2 => by rcases (show i = j ∨ j + 1 ≤ i by omega) with z | z; (· rw [z]; exact h_51); (· exact hE i z h2)) _ _ _ hl hP hD hS
          · skip
            refine lv_aload_n hx hb d_R_compareSize_54 rfl (lv_at hl 1 rfl) ?_
            refine lv_iload_n hx hb d_R_compareSize_55 rfl (lv_at hl 0 rfl) ?_
            refine pn_bl (wr := [(ob, .inr (1, [.ref qb, .int (nI na), .int (pn_b bb)])), (qb, .inl (cI, 632, .inl fb))]) [0, 1] [2, 3] hP hD hS hA (pn_rV [.int (nI j)] [] Fx hK hN hP hD [0, 1] rfl rfl (c_R_limbAt l D cI cZ cB cJ _ oa qa fa na j ba (by omega) (by omega)) kw_361 cal_R_limbAt inst_R_limbAt sel_R_limbAt ⟨by decide, by decide⟩ ⟨rfl, rfl⟩ 0 rfl rfl rfl rfl hl.1 (Nat.le_of_ble_eq_true rfl) d_R_compareSize_56 ⟨Nat.zero_le _, Nat.zero_le _⟩) rfl rfl rfl (by decide) (fun r_56 u_56 H locs hw hP hD hS => ?_)
            obtain ⟨⟩ := u_56
            obtain rfl := hw
            have hP : va_P D pn_cl [(ob, .inr (1, [.ref qb, .int (nI na), .int (pn_b bb)])), (qb, .inl (cI, 632, .inl fb)), (oa, .inr (1, [.ref qa, .int (nI na), .int (pn_b ba)])), (qa, .inl (cI, 632, .inl fa))] H := hP
            have hD : va_D A [(ob, .inr (1, [.ref qb, .int (nI na), .int (pn_b bb)])), (qb, .inl (cI, 632, .inl fb)), (oa, .inr (1, [.ref qa, .int (nI na), .int (pn_b ba)])), (qa, .inl (cI, 632, .inl fa))] := hD
            refine lv_aload_n hx hb d_R_compareSize_59 rfl (lv_at hl 2 rfl) ?_
            refine lv_iload_n hx hb d_R_compareSize_60 rfl (lv_at hl 0 rfl) ?_
            refine pn_bl (wr := [(oa, .inr (1, [.ref qa, .int (nI na), .int (pn_b ba)])), (qa, .inl (cI, 632, .inl fa))]) [0, 1] [2, 3] hP hD hS hA (pn_rV [.int (nI j)] [.long (pn_L (pn_u (pn_cut fa na j)))] Fx hK hN hP hD [0, 1] rfl rfl (c_R_limbAt l D cI cZ cB cJ _ ob qb fb na j bb (by omega) (by omega)) kw_361 cal_R_limbAt inst_R_limbAt sel_R_limbAt ⟨by decide, by decide⟩ ⟨rfl, rfl⟩ 0 rfl rfl rfl rfl hl.1 (Nat.le_of_ble_eq_true rfl) d_R_compareSize_61 ⟨Nat.zero_le _, Nat.zero_le _⟩) rfl rfl rfl (by decide) (fun r_61 u_61 H locs hw hP hD hS => ?_)
            obtain ⟨⟩ := u_61
            obtain rfl := hw
            have hP : va_P D pn_cl [(oa, .inr (1, [.ref qa, .int (nI na), .int (pn_b ba)])), (qa, .inl (cI, 632, .inl fa)), (ob, .inr (1, [.ref qb, .int (nI na), .int (pn_b bb)])), (qb, .inl (cI, 632, .inl fb))] H := hP
            have hD : va_D A [(oa, .inr (1, [.ref qa, .int (nI na), .int (pn_b ba)])), (qa, .inl (cI, 632, .inl fa)), (ob, .inr (1, [.ref qb, .int (nI na), .int (pn_b bb)])), (qb, .inl (cI, 632, .inl fb))] := hD
            have u1 := pn_u_lt (pn_cut fa na j)
            have u2 := pn_u_lt (pn_cut fb na j)
            have u3 := pn_u_nonneg (pn_cut fa na j)
            have u4 := pn_u_nonneg (pn_cut fb na j)
            have v1 := pn_V_above (f := fa) (g := fb) hk hE
            have v2 : pn_u (fa j) ≠ pn_u (fb j) := fun z => h_51 (pn_u_inj z)
            have v3 := pn_cut_lt (f := fa) (n := na) (k := j) (by omega)
            have v4 := pn_cut_lt (f := fb) (n := na) (k := j) (by omega)
            refine W.lcmp hx hb d_R_compareSize_64 ?_
            refine pw_ifl_ge (a := pn_u (pn_cut fa na j)) (b := pn_u (pn_cut fb na j)) (tgt := 72) hx hb d_R_compareSize_65 (by decide) (by omega) (by omega) (by omega) (by omega) (fun h_65 => ?_) (fun h_65 => ?_)
            · skip
              have hz : nI 1 = pn_cmp (pn_V fa na) (pn_V fb na) := by rw [v3, v4] at h_65; have v5 := pn_V_less (f := fb) (g := fa) (i := j) (by omega); exact (pn_cmp_gt (by omega)).symm
              refine lv_iconst (v := nI 1) hx hb d_R_compareSize_72 (by decide) ?_
              exact pn_reti (()) Fx hr hlocks hQ hAe hP hD hS (hz) d_R_compareSize_73
            · skip
              have hz : (-1) = pn_cmp (pn_V fa na) (pn_V fb na) := by rw [v3, v4] at h_65; have v5 := pn_V_less (f := fa) (g := fb) (i := j) h_65; exact (pn_cmp_lt (by omega)).symm
              refine lv_iconst (v := (-1)) hx hb d_R_compareSize_68 (by decide) ?_
              refine lv_goto (tgt := 73) hx hb d_R_compareSize_69 (by decide) ?_
              exact pn_reti (()) Fx hr hlocks hQ hAe hP hD hS (hz) d_R_compareSize_73
    exact loop35 _ na (Nat.lt_succ_self _) (Nat.le_refl _) (fun i h1 h2 => by omega) _ _ _ hl hP hD hS
  · skip
    refine lv_aload_n hx hb d_R_compareSize_11 rfl (lv_at hl 0 rfl) ?_
    refine pw_get Fx hK hP fld_R 0 rfl 1 (by decide) kw_93 (v := .int (nI na)) rfl d_R_compareSize_12 ?_
    refine lv_aload_n hx hb d_R_compareSize_15 rfl (lv_at hl 1 rfl) ?_
    refine pw_get Fx hK hP fld_R 2 rfl 1 (by decide) kw_93 (v := .int (nI nb)) rfl d_R_compareSize_16 ?_
    refine pw_icmp_ge (a := na) (b := nb) (tgt := 26) hx hb d_R_compareSize_19 (by decide) (by omega) (by omega) (fun h_19 => ?_) (fun h_19 => ?_)
    · skip
      have hz : nI 1 = pn_cmp (pn_V fa na) (pn_V fb nb) := (pn_cmp_gt (pn_V_fewer hza (by omega))).symm
      refine lv_iconst (v := nI 1) hx hb d_R_compareSize_26 (by decide) ?_
      exact pn_reti (()) Fx hr hlocks hQ hAe hP hD hS (hz) d_R_compareSize_27
    · skip
      have hz : (-1) = pn_cmp (pn_V fa na) (pn_V fb nb) := (pn_cmp_lt (pn_V_fewer hzb (by omega))).symm
      refine lv_iconst (v := (-1)) hx hb d_R_compareSize_22 (by decide) ?_
      refine lv_goto (tgt := 27) hx hb d_R_compareSize_23 (by decide) ?_
      exact pn_reti (()) Fx hr hlocks hQ hAe hP hD hS (hz) d_R_compareSize_27
end
section
theorem pn_sum_end {fa fb g : Nat → Int32} {na nb : Nat} {c : Int} (hc0 : 0 ≤ c) (hc : c ≤ 1) (hV : pn_V g (max na nb) + c * pn_E (max na nb) = pn_V (pn_cut fa na) (max na nb) + pn_V (pn_cut fb nb) (max na nb)) : pn_V (upd g (max na nb) (pn_I c)) (max na nb + 1) = pn_V fa na + pn_V fb nb := by
  rw [pn_V_cut (Nat.le_max_left na nb), pn_V_cut (Nat.le_max_right na nb)] at hV
  rw [pn_V_upS, pn_u_Ilt hc0 (by omega)]
  exact hV
theorem pn_diff_end {fa fb g : Nat → Int32} {na nb : Nat} {c : Int} (hz : pn_nz fb nb) (hge : pn_V fb nb ≤ pn_V fa na) (hV : pn_V g na + c * pn_E na = pn_V (pn_cut fa na) na - pn_V (pn_cut fb nb) na) : pn_V g na = pn_V fa na - pn_V fb nb := by
  have hn : nb ≤ na := by
    rcases Nat.lt_or_ge na nb with z | z
    · have := pn_V_fewer (f := fa) hz z
      omega
    · exact z
  rw [pn_V_cut (Nat.le_refl na), pn_V_cut hn] at hV
  have h1 := pn_V_lt fa na
  have h2 := pn_V_nonneg fb nb
  have h3 := pn_apart (a := pn_V g na) (b := pn_V fa na - pn_V fb nb) (x := c) (y := 0) (E := pn_E na) (pn_V_nonneg g na) (pn_V_lt g na) (by omega) (by omega) (by omega)
  exact h3.2

set_option maxHeartbeats 4000000 in
set_option maxRecDepth 100000 in
theorem c_R_becomeSizeSum (l : Launch) (D : va_G) (cI cZ cB cJ : ClassId) (sz : Nat) (ot qt : Nat) (ft : Nat → Int32) (nt : Nat) (bt : Bool) (oa qa : Nat) (fa : Nat → Int32) (na : Nat) (ba : Bool) (ob qb : Nat) (fb : Nat → Int32) (nb : Nat) (bb : Bool) (hna : na ≤ 631) (hnb : nb ≤ 631) : pn_Cv l D (pn_ty cI cZ cB cJ) y_R_becomeSizeSum w_R_becomeSizeSum ({ frames := 1, cells := 0, slots := 0, locals := 32 } : Room) [.ref ot, .ref oa, .ref ob] [(ot, .inr (1, [.ref qt, .int (nI nt), .int (pn_b bt)])), (qt, .inl (cI, 632, .inl ft)), (oa, .inr (1, [.ref qa, .int (nI na), .int (pn_b ba)])), (qa, .inl (cI, 632, .inl fa)), (ob, .inr (1, [.ref qb, .int (nI nb), .int (pn_b bb)])), (qb, .inl (cI, 632, .inl fb))] sz (S := (Nat → Int32) × Nat) (fun u => u.2 ≤ max na nb + 1 ∧ pn_V u.1 u.2 = pn_V fa na + pn_V fb nb ∧ pn_nz u.1 u.2) (fun u => [(ot, .inr (1, [.ref qt, .int (nI u.2), .int (pn_b false)])), (qt, .inl (cI, 632, .inl u.1)), (oa, .inr (1, [.ref qa, .int (nI na), .int (pn_b ba)])), (qa, .inl (cI, 632, .inl fa)), (ob, .inr (1, [.ref qb, .int (nI nb), .int (pn_b bb)])), (qb, .inl (cI, 632, .inl fb))]) := by
  refine pn_start (by decide) (Nat.le_of_ble_eq_true rfl) ?_
  intro p e s m below meth c A Q ls hQ hAe Fx hr hlocks hN hK hP hD hS hA hl
  have hx := Fx.1
  have hb := Fx.2.1
  have hl : lv_has ls 7 [(0, .ref ot), (1, .ref oa), (2, .ref ob)] := hl
  refine lv_aload_n hx hb d_R_becomeSizeSum_0 rfl (lv_at hl 1 rfl) ?_
  refine pw_get Fx hK hP fld_R 2 rfl 1 (by decide) kw_93 (v := .int (nI na)) rfl d_R_becomeSizeSum_1 ?_
  refine lv_aload_n hx hb d_R_becomeSizeSum_4 rfl (lv_at hl 2 rfl) ?_
  refine pw_get Fx hK hP fld_R 4 rfl 1 (by decide) kw_93 (v := .int (nI nb)) rfl d_R_becomeSizeSum_5 ?_
  refine pw_max Fx hl.1 kw_358 (a := na) (b := nb) (by omega) (by omega) (rest := []) (by decide) (Nat.le_of_ble_eq_true rfl) ⟨Nat.zero_le _, Nat.zero_le _⟩ d_R_becomeSizeSum_8 ?_
  refine lv_istore_n (lv' := [(3, .int (nI (max na nb))), (0, .ref ot), (1, .ref oa), (2, .ref ob)]) hx hb d_R_becomeSizeSum_11 rfl hl (by decide) rfl (fun ls hl => ?_)
  refine lv_lconst (v := pn_L 0) hx hb d_R_becomeSizeSum_12 (by decide) ?_
  refine lv_lstore (lv' := [(4, .long (pn_L 0)), (3, .int (nI (max na nb))), (0, .ref ot), (1, .ref oa), (2, .ref ob)]) hx hb d_R_becomeSizeSum_13 hl (by decide) rfl (fun ls hl => ?_)
  refine lv_iconst (v := nI 0) hx hb d_R_becomeSizeSum_15 (by decide) ?_
  refine lv_istore (lv' := [(6, .int (nI 0)), (4, .long (pn_L 0)), (3, .int (nI (max na nb))), (0, .ref ot), (1, .ref oa), (2, .ref ob)]) hx hb d_R_becomeSizeSum_16 hl (by decide) rfl (fun ls hl => ?_)
  have loop18 : ∀ (N : Nat) (i : Nat) (g : Nat → Int32) (c0 : Int), max na nb - i < N → (i ≤ max na nb) → (0 ≤ c0 ∧ c0 ≤ 1) → (pn_V g i + c0 * pn_E i = pn_V (pn_cut fa na) i + pn_V (pn_cut fb nb) i) → ∀ (H : Heap) (locs : List Loc) (ls : Array Slot), lv_has ls 7 [(6, .int (nI i)), (4, .long (pn_L c0)), (3, .int (nI (max na nb))), (0, .ref ot), (1, .ref oa), (2, .ref ob)] → va_P D pn_cl [(ot, .inr (1, [.ref qt, .int (nI nt), .int (pn_b bt)])), (qt, .inl (cI, 632, .inl g)), (oa, .inr (1, [.ref qa, .int (nI na), .int (pn_b ba)])), (qa, .inl (cI, 632, .inl fa)), (ob, .inr (1, [.ref qb, .int (nI nb), .int (pn_b bb)])), (qb, .inl (cI, 632, .inl fb))] H → va_D A [(ot, .inr (1, [.ref qt, .int (nI nt), .int (pn_b bt)])), (qt, .inl (cI, 632, .inl g)), (oa, .inr (1, [.ref qa, .int (nI na), .int (pn_b ba)])), (qa, .inl (cI, 632, .inl fa)), (ob, .inr (1, [.ref qb, .int (nI nb), .int (pn_b bb)])), (qb, .inl (cI, 632, .inl fb))] → va_S A s.heap H locs → W p l e ({ frames := 1, cells := 0, slots := 0, locals := 32 } : Room) s m ([.ref ot, .ref oa, .ref ob] : List Value).toArray below meth c H locs 0 0 Q (F0 m 18 ls []) := by
    intro N
    induction N with
    | zero => intro i g c0 hM; exact absurd hM (Nat.not_lt_zero _)
    | succ N ih18 =>
      intro i g c0 hM18 hi hc hV H locs ls hl hP hD hS
      refine lv_iload hx hb d_R_becomeSizeSum_18 (lv_at hl 0 rfl) ?_
      refine lv_iload_n hx hb d_R_becomeSizeSum_20 rfl (lv_at hl 2 rfl) ?_
      refine pw_icmp_ge (a := i) (b := max na nb) (tgt := 65) hx hb d_R_becomeSizeSum_21 (by decide) (by omega) (by omega) (fun h_21 => ?_) (fun h_21 => ?_)
      · skip
        obtain rfl : i = max na nb := by omega
        refine lv_aload_n hx hb d_R_becomeSizeSum_65 rfl (lv_at hl 3 rfl) ?_
        refine pw_get Fx hK hP fld_R 0 rfl 0 (by decide) kw_89 (v := .ref qt) rfl d_R_becomeSizeSum_66 ?_
        refine lv_iload_n hx hb d_R_becomeSizeSum_69 rfl (lv_at hl 2 rfl) ?_
        refine lv_lload hx hb d_R_becomeSizeSum_70 (lv_at hl 1 rfl) ?_
        refine pw_l2i hx hb d_R_becomeSizeSum_72 ?_
        refine pw_iast Fx hK hP hD hS 1 0 (f := g) rfl rfl (k := max na nb) (by omega) (by decide) (w' := [(ot, .inr (1, [.ref qt, .int (nI nt), .int (pn_b bt)])), (qt, .inl (cI, 632, .inl (upd g (max na nb) (pn_I c0)))), (oa, .inr (1, [.ref qa, .int (nI na), .int (pn_b ba)])), (qa, .inl (cI, 632, .inl fa)), (ob, .inr (1, [.ref qb, .int (nI nb), .int (pn_b bb)])), (qb, .inl (cI, 632, .inl fb))]) rfl d_R_becomeSizeSum_73 (fun H locs hP hD hS => ?_)
        refine lv_aload_n hx hb d_R_becomeSizeSum_74 rfl (lv_at hl 3 rfl) ?_
        refine lv_iload_n hx hb d_R_becomeSizeSum_75 rfl (lv_at hl 2 rfl) ?_
        refine lv_iconst (v := nI 1) hx hb d_R_becomeSizeSum_76 (by decide) ?_
        refine pw_iadd hx hb d_R_becomeSizeSum_77 ?_
        refine pn_bv (wr := [(oa, .inr (1, [.ref qa, .int (nI na), .int (pn_b ba)])), (qa, .inl (cI, 632, .inl fa)), (ob, .inr (1, [.ref qb, .int (nI nb), .int (pn_b bb)])), (qb, .inl (cI, 632, .inl fb))]) [0, 1] [2, 3, 4, 5] hP hD hS hA (pn_rV [.int (nI (max na nb + 1))] [] Fx hK hN hP hD [0, 1] rfl rfl (c_R_fit l D cI cZ cB cJ _ ot qt (upd g (max na nb) (pn_I c0)) nt (max na nb + 1) bt (by omega)) kw_226 cal_R_fit inst_R_fit sel_R_fit ⟨by decide, by decide⟩ ⟨rfl, rfl⟩ 0 rfl rfl rfl rfl hl.1 (Nat.le_of_ble_eq_true rfl) d_R_becomeSizeSum_78 ⟨Nat.zero_le _, Nat.zero_le _⟩) rfl rfl rfl (by decide) (fun u_78 H locs hw hP hD hS => ?_)
        obtain ⟨hj, hVj, hzj⟩ := hw
        have hP : va_P D pn_cl [(oa, .inr (1, [.ref qa, .int (nI na), .int (pn_b ba)])), (qa, .inl (cI, 632, .inl fa)), (ob, .inr (1, [.ref qb, .int (nI nb), .int (pn_b bb)])), (qb, .inl (cI, 632, .inl fb)), (ot, .inr (1, [.ref qt, .int (nI u_78), .int (pn_b false)])), (qt, .inl (cI, 632, .inl (upd g (max na nb) (pn_I c0))))] H := hP
        have hD : va_D A [(oa, .inr (1, [.ref qa, .int (nI na), .int (pn_b ba)])), (qa, .inl (cI, 632, .inl fa)), (ob, .inr (1, [.ref qb, .int (nI nb), .int (pn_b bb)])), (qb, .inl (cI, 632, .inl fb)), (ot, .inr (1, [.ref qt, .int (nI u_78), .int (pn_b false)])), (qt, .inl (cI, 632, .inl (upd g (max na nb) (pn_I c0))))] := hD
        exact pn_retv ((upd g (max na nb) (pn_I c0), u_78)) Fx hr hlocks hQ hAe (hP.sub [4, 5, 0, 1, 2, 3] rfl) (hD.sub [4, 5, 0, 1, 2, 3] (by decide) rfl) hS (⟨hj, by rw [hVj]; exact pn_sum_end hc.1 hc.2 hV, hzj⟩) d_R_becomeSizeSum_81
      · skip
        refine lv_lload hx hb d_R_becomeSizeSum_24 (lv_at hl 1 rfl) ?_
        refine lv_aload_n hx hb d_R_becomeSizeSum_26 rfl (lv_at hl 4 rfl) ?_
        refine lv_iload hx hb d_R_becomeSizeSum_27 (lv_at hl 0 rfl) ?_
        refine pn_bl (wr := [(ot, .inr (1, [.ref qt, .int (nI nt), .int (pn_b bt)])), (qt, .inl (cI, 632, .inl g)), (ob, .inr (1, [.ref qb, .int (nI nb), .int (pn_b bb)])), (qb, .inl (cI, 632, .inl fb))]) [2, 3] [0, 1, 4, 5] hP hD hS hA (pn_rV [.int (nI i)] [.long (pn_L c0)] Fx hK hN hP hD [2, 3] rfl rfl (c_R_limbAt l D cI cZ cB cJ _ oa qa fa na i ba (by omega) (by omega)) kw_361 cal_R_limbAt inst_R_limbAt sel_R_limbAt ⟨by decide, by decide⟩ ⟨rfl, rfl⟩ 0 rfl rfl rfl rfl hl.1 (Nat.le_of_ble_eq_true rfl) d_R_becomeSizeSum_29 ⟨Nat.zero_le _, Nat.zero_le _⟩) rfl rfl rfl (by decide) (fun r_29 u_29 H locs hw hP hD hS => ?_)
        obtain ⟨⟩ := u_29
        obtain rfl := hw
        have hP : va_P D pn_cl [(ot, .inr (1, [.ref qt, .int (nI nt), .int (pn_b bt)])), (qt, .inl (cI, 632, .inl g)), (ob, .inr (1, [.ref qb, .int (nI nb), .int (pn_b bb)])), (qb, .inl (cI, 632, .inl fb)), (oa, .inr (1, [.ref qa, .int (nI na), .int (pn_b ba)])), (qa, .inl (cI, 632, .inl fa))] H := hP
        have hD : va_D A [(ot, .inr (1, [.ref qt, .int (nI nt), .int (pn_b bt)])), (qt, .inl (cI, 632, .inl g)), (ob, .inr (1, [.ref qb, .int (nI nb), .int (pn_b bb)])), (qb, .inl (cI, 632, .inl fb)), (oa, .inr (1, [.ref qa, .int (nI na), .int (pn_b ba)])), (qa, .inl (cI, 632, .inl fa))] := hD
        refine lv_aload_n hx hb d_R_becomeSizeSum_32 rfl (lv_at hl 5 rfl) ?_
        refine lv_iload hx hb d_R_becomeSizeSum_33 (lv_at hl 0 rfl) ?_
        refine pn_bl (wr := [(ot, .inr (1, [.ref qt, .int (nI nt), .int (pn_b bt)])), (qt, .inl (cI, 632, .inl g)), (oa, .inr (1, [.ref qa, .int (nI na), .int (pn_b ba)])), (qa, .inl (cI, 632, .inl fa))]) [2, 3] [0, 1, 4, 5] hP hD hS hA (pn_rV [.int (nI i)] [.long (pn_L (pn_u (pn_cut fa na i))), .long (pn_L c0)] Fx hK hN hP hD [2, 3] rfl rfl (c_R_limbAt l D cI cZ cB cJ _ ob qb fb nb i bb (by omega) (by omega)) kw_361 cal_R_limbAt inst_R_limbAt sel_R_limbAt ⟨by decide, by decide⟩ ⟨rfl, rfl⟩ 0 rfl rfl rfl rfl hl.1 (Nat.le_of_ble_eq_true rfl) d_R_becomeSizeSum_35 ⟨Nat.zero_le _, Nat.zero_le _⟩) rfl rfl rfl (by decide) (fun r_35 u_35 H locs hw hP hD hS => ?_)
        obtain ⟨⟩ := u_35
        obtain rfl := hw
        have hP : va_P D pn_cl [(ot, .inr (1, [.ref qt, .int (nI nt), .int (pn_b bt)])), (qt, .inl (cI, 632, .inl g)), (oa, .inr (1, [.ref qa, .int (nI na), .int (pn_b ba)])), (qa, .inl (cI, 632, .inl fa)), (ob, .inr (1, [.ref qb, .int (nI nb), .int (pn_b bb)])), (qb, .inl (cI, 632, .inl fb))] H := hP
        have hD : va_D A [(ot, .inr (1, [.ref qt, .int (nI nt), .int (pn_b bt)])), (qt, .inl (cI, 632, .inl g)), (oa, .inr (1, [.ref qa, .int (nI na), .int (pn_b ba)])), (qa, .inl (cI, 632, .inl fa)), (ob, .inr (1, [.ref qb, .int (nI nb), .int (pn_b bb)])), (qb, .inl (cI, 632, .inl fb))] := hD
        refine pw_ladd hx hb d_R_becomeSizeSum_38 ?_
        have u1 := pn_u_lt (pn_cut fa na i)
        have u2 := pn_u_lt (pn_cut fb nb i)
        have u3 := pn_u_nonneg (pn_cut fa na i)
        have u4 := pn_u_nonneg (pn_cut fb nb i)
        obtain ⟨t, ht⟩ : ∃ t, t = c0 + (pn_u (pn_cut fa na i) + pn_u (pn_cut fb nb i)) := ⟨_, rfl⟩
        refine pw_ladd hx hb d_R_becomeSizeSum_39 ?_
        refine pn_topl (pn_L t) (by rw [ht]) ?_
        refine lv_lstore (lv' := [(4, .long (pn_L t)), (6, .int (nI i)), (3, .int (nI (max na nb))), (0, .ref ot), (1, .ref oa), (2, .ref ob)]) hx hb d_R_becomeSizeSum_40 hl (by decide) rfl (fun ls hl => ?_)
        refine lv_aload_n hx hb d_R_becomeSizeSum_42 rfl (lv_at hl 3 rfl) ?_
        refine pw_get Fx hK hP fld_R 0 rfl 0 (by decide) kw_89 (v := .ref qt) rfl d_R_becomeSizeSum_43 ?_
        refine lv_iload hx hb d_R_becomeSizeSum_46 (lv_at hl 1 rfl) ?_
        refine lv_lload hx hb d_R_becomeSizeSum_48 (lv_at hl 0 rfl) ?_
        refine pw_l2i hx hb d_R_becomeSizeSum_50 ?_
        refine pw_iast Fx hK hP hD hS 1 0 (f := g) rfl rfl (k := i) (by omega) (by decide) (w' := [(ot, .inr (1, [.ref qt, .int (nI nt), .int (pn_b bt)])), (qt, .inl (cI, 632, .inl (upd g i (pn_I t)))), (oa, .inr (1, [.ref qa, .int (nI na), .int (pn_b ba)])), (qa, .inl (cI, 632, .inl fa)), (ob, .inr (1, [.ref qb, .int (nI nb), .int (pn_b bb)])), (qb, .inl (cI, 632, .inl fb))]) rfl d_R_becomeSizeSum_51 (fun H locs hP hD hS => ?_)
        refine lv_lload hx hb d_R_becomeSizeSum_52 (lv_at hl 0 rfl) ?_
        refine lv_bipush (v := 32) hx hb d_R_becomeSizeSum_54 (by decide) ?_
        refine pw_lushr32 hx hb d_R_becomeSizeSum_56 (by omega) (by omega) ?_
        refine lv_lstore (lv' := [(4, .long (pn_L (t / 4294967296))), (6, .int (nI i)), (3, .int (nI (max na nb))), (0, .ref ot), (1, .ref oa), (2, .ref ob)]) hx hb d_R_becomeSizeSum_57 hl (by decide) rfl (fun ls hl => ?_)
        refine lv_iinc (v := nI (i + 1)) (lv' := [(6, .int (nI (i + 1))), (4, .long (pn_L (t / 4294967296))), (3, .int (nI (max na nb))), (0, .ref ot), (1, .ref oa), (2, .ref ob)]) hx hb d_R_becomeSizeSum_59 hl (k := 1) rfl (nI_add _ 1) (by decide) rfl (fun ls hl => ?_)
        refine lv_goto (tgt := 18) hx hb d_R_becomeSizeSum_62 (by decide) ?_
        exact ih18 (i + 1) _ (t / 4294967296) (by omega) (by omega) (by omega) (by rw [pn_put hV]; simp only [pn_V_s]; rw [ht]; grind) _ _ _ hl hP hD hS
  exact loop18 _ 0 ft 0 (Nat.lt_succ_self _) (Nat.zero_le _) (by decide) rfl _ _ _ hl hP hD hS

set_option maxHeartbeats 4000000 in
set_option maxRecDepth 100000 in
theorem c_R_becomeSizeSum2 (l : Launch) (D : va_G) (cI cZ cB cJ : ClassId) (sz : Nat) (ot qt : Nat) (ft : Nat → Int32) (nt : Nat) (bt : Bool) (oa qa : Nat) (fa : Nat → Int32) (na : Nat) (ba : Bool) (hna : na ≤ 631) : pn_Cv l D (pn_ty cI cZ cB cJ) y_R_becomeSizeSum w_R_becomeSizeSum ({ frames := 1, cells := 0, slots := 0, locals := 32 } : Room) [.ref ot, .ref oa, .ref oa] [(ot, .inr (1, [.ref qt, .int (nI nt), .int (pn_b bt)])), (qt, .inl (cI, 632, .inl ft)), (oa, .inr (1, [.ref qa, .int (nI na), .int (pn_b ba)])), (qa, .inl (cI, 632, .inl fa))] sz (S := (Nat → Int32) × Nat) (fun u => u.2 ≤ max na na + 1 ∧ pn_V u.1 u.2 = pn_V fa na + pn_V fa na ∧ pn_nz u.1 u.2) (fun u => [(ot, .inr (1, [.ref qt, .int (nI u.2), .int (pn_b false)])), (qt, .inl (cI, 632, .inl u.1)), (oa, .inr (1, [.ref qa, .int (nI na), .int (pn_b ba)])), (qa, .inl (cI, 632, .inl fa))]) := by
  refine pn_start (by decide) (Nat.le_of_ble_eq_true rfl) ?_
  intro p e s m below meth c A Q ls hQ hAe Fx hr hlocks hN hK hP hD hS hA hl
  have hx := Fx.1
  have hb := Fx.2.1
  have hl : lv_has ls 7 [(0, .ref ot), (1, .ref oa), (2, .ref oa)] := hl
  refine lv_aload_n hx hb d_R_becomeSizeSum_0 rfl (lv_at hl 1 rfl) ?_
  refine pw_get Fx hK hP fld_R 2 rfl 1 (by decide) kw_93 (v := .int (nI na)) rfl d_R_becomeSizeSum_1 ?_
  refine lv_aload_n hx hb d_R_becomeSizeSum_4 rfl (lv_at hl 2 rfl) ?_
  refine pw_get Fx hK hP fld_R 2 rfl 1 (by decide) kw_93 (v := .int (nI na)) rfl d_R_becomeSizeSum_5 ?_
  refine pw_max Fx hl.1 kw_358 (a := na) (b := na) (by omega) (by omega) (rest := []) (by decide) (Nat.le_of_ble_eq_true rfl) ⟨Nat.zero_le _, Nat.zero_le _⟩ d_R_becomeSizeSum_8 ?_
  refine lv_istore_n (lv' := [(3, .int (nI (max na na))), (0, .ref ot), (1, .ref oa), (2, .ref oa)]) hx hb d_R_becomeSizeSum_11 rfl hl (by decide) rfl (fun ls hl => ?_)
  refine lv_lconst (v := pn_L 0) hx hb d_R_becomeSizeSum_12 (by decide) ?_
  refine lv_lstore (lv' := [(4, .long (pn_L 0)), (3, .int (nI (max na na))), (0, .ref ot), (1, .ref oa), (2, .ref oa)]) hx hb d_R_becomeSizeSum_13 hl (by decide) rfl (fun ls hl => ?_)
  refine lv_iconst (v := nI 0) hx hb d_R_becomeSizeSum_15 (by decide) ?_
  refine lv_istore (lv' := [(6, .int (nI 0)), (4, .long (pn_L 0)), (3, .int (nI (max na na))), (0, .ref ot), (1, .ref oa), (2, .ref oa)]) hx hb d_R_becomeSizeSum_16 hl (by decide) rfl (fun ls hl => ?_)
  have loop18 : ∀ (N : Nat) (i : Nat) (g : Nat → Int32) (c0 : Int), max na na - i < N → (i ≤ max na na) → (0 ≤ c0 ∧ c0 ≤ 1) → (pn_V g i + c0 * pn_E i = pn_V (pn_cut fa na) i + pn_V (pn_cut fa na) i) → ∀ (H : Heap) (locs : List Loc) (ls : Array Slot), lv_has ls 7 [(6, .int (nI i)), (4, .long (pn_L c0)), (3, .int (nI (max na na))), (0, .ref ot), (1, .ref oa), (2, .ref oa)] → va_P D pn_cl [(ot, .inr (1, [.ref qt, .int (nI nt), .int (pn_b bt)])), (qt, .inl (cI, 632, .inl g)), (oa, .inr (1, [.ref qa, .int (nI na), .int (pn_b ba)])), (qa, .inl (cI, 632, .inl fa))] H → va_D A [(ot, .inr (1, [.ref qt, .int (nI nt), .int (pn_b bt)])), (qt, .inl (cI, 632, .inl g)), (oa, .inr (1, [.ref qa, .int (nI na), .int (pn_b ba)])), (qa, .inl (cI, 632, .inl fa))] → va_S A s.heap H locs → W p l e ({ frames := 1, cells := 0, slots := 0, locals := 32 } : Room) s m ([.ref ot, .ref oa, .ref oa] : List Value).toArray below meth c H locs 0 0 Q (F0 m 18 ls []) := by
    intro N
    induction N with
    | zero => intro i g c0 hM; exact absurd hM (Nat.not_lt_zero _)
    | succ N ih18 =>
      intro i g c0 hM18 hi hc hV H locs ls hl hP hD hS
      refine lv_iload hx hb d_R_becomeSizeSum_18 (lv_at hl 0 rfl) ?_
      refine lv_iload_n hx hb d_R_becomeSizeSum_20 rfl (lv_at hl 2 rfl) ?_
      refine pw_icmp_ge (a := i) (b := max na na) (tgt := 65) hx hb d_R_becomeSizeSum_21 (by decide) (by omega) (by omega) (fun h_21 => ?_) (fun h_21 => ?_)
      · skip
        obtain rfl : i = max na na := by omega
        refine lv_aload_n hx hb d_R_becomeSizeSum_65 rfl (lv_at hl 3 rfl) ?_
        refine pw_get Fx hK hP fld_R 0 rfl 0 (by decide) kw_89 (v := .ref qt) rfl d_R_becomeSizeSum_66 ?_
        refine lv_iload_n hx hb d_R_becomeSizeSum_69 rfl (lv_at hl 2 rfl) ?_
        refine lv_lload hx hb d_R_becomeSizeSum_70 (lv_at hl 1 rfl) ?_
        refine pw_l2i hx hb d_R_becomeSizeSum_72 ?_
        refine pw_iast Fx hK hP hD hS 1 0 (f := g) rfl rfl (k := max na na) (by omega) (by decide) (w' := [(ot, .inr (1, [.ref qt, .int (nI nt), .int (pn_b bt)])), (qt, .inl (cI, 632, .inl (upd g (max na na) (pn_I c0)))), (oa, .inr (1, [.ref qa, .int (nI na), .int (pn_b ba)])), (qa, .inl (cI, 632, .inl fa))]) rfl d_R_becomeSizeSum_73 (fun H locs hP hD hS => ?_)
        refine lv_aload_n hx hb d_R_becomeSizeSum_74 rfl (lv_at hl 3 rfl) ?_
        refine lv_iload_n hx hb d_R_becomeSizeSum_75 rfl (lv_at hl 2 rfl) ?_
        refine lv_iconst (v := nI 1) hx hb d_R_becomeSizeSum_76 (by decide) ?_
        refine pw_iadd hx hb d_R_becomeSizeSum_77 ?_
        refine pn_bv (wr := [(oa, .inr (1, [.ref qa, .int (nI na), .int (pn_b ba)])), (qa, .inl (cI, 632, .inl fa))]) [0, 1] [2, 3] hP hD hS hA (pn_rV [.int (nI (max na na + 1))] [] Fx hK hN hP hD [0, 1] rfl rfl (c_R_fit l D cI cZ cB cJ _ ot qt (upd g (max na na) (pn_I c0)) nt (max na na + 1) bt (by omega)) kw_226 cal_R_fit inst_R_fit sel_R_fit ⟨by decide, by decide⟩ ⟨rfl, rfl⟩ 0 rfl rfl rfl rfl hl.1 (Nat.le_of_ble_eq_true rfl) d_R_becomeSizeSum_78 ⟨Nat.zero_le _, Nat.zero_le _⟩) rfl rfl rfl (by decide) (fun u_78 H locs hw hP hD hS => ?_)
        obtain ⟨hj, hVj, hzj⟩ := hw
        have hP : va_P D pn_cl [(oa, .inr (1, [.ref qa, .int (nI na), .int (pn_b ba)])), (qa, .inl (cI, 632, .inl fa)), (ot, .inr (1, [.ref qt, .int (nI u_78), .int (pn_b false)])), (qt, .inl (cI, 632, .inl (upd g (max na na) (pn_I c0))))] H := hP
        have hD : va_D A [(oa, .inr (1, [.ref qa, .int (nI na), .int (pn_b ba)])), (qa, .inl (cI, 632, .inl fa)), (ot, .inr (1, [.ref qt, .int (nI u_78), .int (pn_b false)])), (qt, .inl (cI, 632, .inl (upd g (max na na) (pn_I c0))))] := hD
        exact pn_retv ((upd g (max na na) (pn_I c0), u_78)) Fx hr hlocks hQ hAe (hP.sub [2, 3, 0, 1] rfl) (hD.sub [2, 3, 0, 1] (by decide) rfl) hS (⟨hj, by rw [hVj]; exact pn_sum_end hc.1 hc.2 hV, hzj⟩) d_R_becomeSizeSum_81
      · skip
        refine lv_lload hx hb d_R_becomeSizeSum_24 (lv_at hl 1 rfl) ?_
        refine lv_aload_n hx hb d_R_becomeSizeSum_26 rfl (lv_at hl 4 rfl) ?_
        refine lv_iload hx hb d_R_becomeSizeSum_27 (lv_at hl 0 rfl) ?_
        refine pn_bl (wr := [(ot, .inr (1, [.ref qt, .int (nI nt), .int (pn_b bt)])), (qt, .inl (cI, 632, .inl g))]) [2, 3] [0, 1] hP hD hS hA (pn_rV [.int (nI i)] [.long (pn_L c0)] Fx hK hN hP hD [2, 3] rfl rfl (c_R_limbAt l D cI cZ cB cJ _ oa qa fa na i ba (by omega) (by omega)) kw_361 cal_R_limbAt inst_R_limbAt sel_R_limbAt ⟨by decide, by decide⟩ ⟨rfl, rfl⟩ 0 rfl rfl rfl rfl hl.1 (Nat.le_of_ble_eq_true rfl) d_R_becomeSizeSum_29 ⟨Nat.zero_le _, Nat.zero_le _⟩) rfl rfl rfl (by decide) (fun r_29 u_29 H locs hw hP hD hS => ?_)
        obtain ⟨⟩ := u_29
        obtain rfl := hw
        have hP : va_P D pn_cl [(ot, .inr (1, [.ref qt, .int (nI nt), .int (pn_b bt)])), (qt, .inl (cI, 632, .inl g)), (oa, .inr (1, [.ref qa, .int (nI na), .int (pn_b ba)])), (qa, .inl (cI, 632, .inl fa))] H := hP
        have hD : va_D A [(ot, .inr (1, [.ref qt, .int (nI nt), .int (pn_b bt)])), (qt, .inl (cI, 632, .inl g)), (oa, .inr (1, [.ref qa, .int (nI na), .int (pn_b ba)])), (qa, .inl (cI, 632, .inl fa))] := hD
        refine lv_aload_n hx hb d_R_becomeSizeSum_32 rfl (lv_at hl 5 rfl) ?_
        refine lv_iload hx hb d_R_becomeSizeSum_33 (lv_at hl 0 rfl) ?_
        refine pn_bl (wr := [(ot, .inr (1, [.ref qt, .int (nI nt), .int (pn_b bt)])), (qt, .inl (cI, 632, .inl g))]) [2, 3] [0, 1] hP hD hS hA (pn_rV [.int (nI i)] [.long (pn_L (pn_u (pn_cut fa na i))), .long (pn_L c0)] Fx hK hN hP hD [2, 3] rfl rfl (c_R_limbAt l D cI cZ cB cJ _ oa qa fa na i ba (by omega) (by omega)) kw_361 cal_R_limbAt inst_R_limbAt sel_R_limbAt ⟨by decide, by decide⟩ ⟨rfl, rfl⟩ 0 rfl rfl rfl rfl hl.1 (Nat.le_of_ble_eq_true rfl) d_R_becomeSizeSum_35 ⟨Nat.zero_le _, Nat.zero_le _⟩) rfl rfl rfl (by decide) (fun r_35 u_35 H locs hw hP hD hS => ?_)
        obtain ⟨⟩ := u_35
        obtain rfl := hw
        have hP : va_P D pn_cl [(ot, .inr (1, [.ref qt, .int (nI nt), .int (pn_b bt)])), (qt, .inl (cI, 632, .inl g)), (oa, .inr (1, [.ref qa, .int (nI na), .int (pn_b ba)])), (qa, .inl (cI, 632, .inl fa))] H := hP
        have hD : va_D A [(ot, .inr (1, [.ref qt, .int (nI nt), .int (pn_b bt)])), (qt, .inl (cI, 632, .inl g)), (oa, .inr (1, [.ref qa, .int (nI na), .int (pn_b ba)])), (qa, .inl (cI, 632, .inl fa))] := hD
        refine pw_ladd hx hb d_R_becomeSizeSum_38 ?_
        have u1 := pn_u_lt (pn_cut fa na i)
        have u2 := pn_u_lt (pn_cut fa na i)
        have u3 := pn_u_nonneg (pn_cut fa na i)
        have u4 := pn_u_nonneg (pn_cut fa na i)
        obtain ⟨t, ht⟩ : ∃ t, t = c0 + (pn_u (pn_cut fa na i) + pn_u (pn_cut fa na i)) := ⟨_, rfl⟩
        refine pw_ladd hx hb d_R_becomeSizeSum_39 ?_
        refine pn_topl (pn_L t) (by rw [ht]) ?_
        refine lv_lstore (lv' := [(4, .long (pn_L t)), (6, .int (nI i)), (3, .int (nI (max na na))), (0, .ref ot), (1, .ref oa), (2, .ref oa)]) hx hb d_R_becomeSizeSum_40 hl (by decide) rfl (fun ls hl => ?_)
        refine lv_aload_n hx hb d_R_becomeSizeSum_42 rfl (lv_at hl 3 rfl) ?_
        refine pw_get Fx hK hP fld_R 0 rfl 0 (by decide) kw_89 (v := .ref qt) rfl d_R_becomeSizeSum_43 ?_
        refine lv_iload hx hb d_R_becomeSizeSum_46 (lv_at hl 1 rfl) ?_
        refine lv_lload hx hb d_R_becomeSizeSum_48 (lv_at hl 0 rfl) ?_
        refine pw_l2i hx hb d_R_becomeSizeSum_50 ?_
        refine pw_iast Fx hK hP hD hS 1 0 (f := g) rfl rfl (k := i) (by omega) (by decide) (w' := [(ot, .inr (1, [.ref qt, .int (nI nt), .int (pn_b bt)])), (qt, .inl (cI, 632, .inl (upd g i (pn_I t)))), (oa, .inr (1, [.ref qa, .int (nI na), .int (pn_b ba)])), (qa, .inl (cI, 632, .inl fa))]) rfl d_R_becomeSizeSum_51 (fun H locs hP hD hS => ?_)
        refine lv_lload hx hb d_R_becomeSizeSum_52 (lv_at hl 0 rfl) ?_
        refine lv_bipush (v := 32) hx hb d_R_becomeSizeSum_54 (by decide) ?_
        refine pw_lushr32 hx hb d_R_becomeSizeSum_56 (by omega) (by omega) ?_
        refine lv_lstore (lv' := [(4, .long (pn_L (t / 4294967296))), (6, .int (nI i)), (3, .int (nI (max na na))), (0, .ref ot), (1, .ref oa), (2, .ref oa)]) hx hb d_R_becomeSizeSum_57 hl (by decide) rfl (fun ls hl => ?_)
        refine lv_iinc (v := nI (i + 1)) (lv' := [(6, .int (nI (i + 1))), (4, .long (pn_L (t / 4294967296))), (3, .int (nI (max na na))), (0, .ref ot), (1, .ref oa), (2, .ref oa)]) hx hb d_R_becomeSizeSum_59 hl (k := 1) rfl (nI_add _ 1) (by decide) rfl (fun ls hl => ?_)
        refine lv_goto (tgt := 18) hx hb d_R_becomeSizeSum_62 (by decide) ?_
        exact ih18 (i + 1) _ (t / 4294967296) (by omega) (by omega) (by omega) (by rw [pn_put hV]; simp only [pn_V_s]; rw [ht]; grind) _ _ _ hl hP hD hS
  exact loop18 _ 0 ft 0 (Nat.lt_succ_self _) (Nat.zero_le _) (by decide) rfl _ _ _ hl hP hD hS

set_option maxHeartbeats 4000000 in
set_option maxRecDepth 100000 in
theorem c_R_becomeSizeDifference (l : Launch) (D : va_G) (cI cZ cB cJ : ClassId) (sz : Nat) (ot qt : Nat) (ft : Nat → Int32) (nt : Nat) (bt : Bool) (oa qa : Nat) (fa : Nat → Int32) (na : Nat) (ba : Bool) (ob qb : Nat) (fb : Nat → Int32) (nb : Nat) (bb : Bool) (hna : na ≤ 632) (hnb : nb ≤ 632) (hzb : pn_nz fb nb) (hge : pn_V fb nb ≤ pn_V fa na) : pn_Cv l D (pn_ty cI cZ cB cJ) y_R_becomeSizeDifference w_R_becomeSizeDifference ({ frames := 1, cells := 0, slots := 0, locals := 32 } : Room) [.ref ot, .ref oa, .ref ob] [(ot, .inr (1, [.ref qt, .int (nI nt), .int (pn_b bt)])), (qt, .inl (cI, 632, .inl ft)), (oa, .inr (1, [.ref qa, .int (nI na), .int (pn_b ba)])), (qa, .inl (cI, 632, .inl fa)), (ob, .inr (1, [.ref qb, .int (nI nb), .int (pn_b bb)])), (qb, .inl (cI, 632, .inl fb))] sz (S := (Nat → Int32) × Nat) (fun u => u.2 ≤ na ∧ pn_V u.1 u.2 = pn_V fa na - pn_V fb nb ∧ pn_nz u.1 u.2) (fun u => [(ot, .inr (1, [.ref qt, .int (nI u.2), .int (pn_b false)])), (qt, .inl (cI, 632, .inl u.1)), (oa, .inr (1, [.ref qa, .int (nI na), .int (pn_b ba)])), (qa, .inl (cI, 632, .inl fa)), (ob, .inr (1, [.ref qb, .int (nI nb), .int (pn_b bb)])), (qb, .inl (cI, 632, .inl fb))]) := by
  refine pn_start (by decide) (Nat.le_of_ble_eq_true rfl) ?_
  intro p e s m below meth c A Q ls hQ hAe Fx hr hlocks hN hK hP hD hS hA hl
  have hx := Fx.1
  have hb := Fx.2.1
  have hl : lv_has ls 6 [(0, .ref ot), (1, .ref oa), (2, .ref ob)] := hl
  refine lv_lconst (v := pn_L 0) hx hb d_R_becomeSizeDifference_0 (by decide) ?_
  refine lv_lstore_n (lv' := [(3, .long (pn_L 0)), (0, .ref ot), (1, .ref oa), (2, .ref ob)]) hx hb d_R_becomeSizeDifference_1 rfl hl (by decide) rfl (fun ls hl => ?_)
  refine lv_iconst (v := nI 0) hx hb d_R_becomeSizeDifference_2 (by decide) ?_
  refine lv_istore (lv' := [(5, .int (nI 0)), (3, .long (pn_L 0)), (0, .ref ot), (1, .ref oa), (2, .ref ob)]) hx hb d_R_becomeSizeDifference_3 hl (by decide) rfl (fun ls hl => ?_)
  have loop5 : ∀ (N : Nat) (i : Nat) (g : Nat → Int32) (c0 : Int), na - i < N → (i ≤ na) → (-1 ≤ c0 ∧ c0 ≤ 0) → (pn_V g i + c0 * pn_E i = pn_V (pn_cut fa na) i - pn_V (pn_cut fb nb) i) → ∀ (H : Heap) (locs : List Loc) (ls : Array Slot), lv_has ls 6 [(5, .int (nI i)), (3, .long (pn_L c0)), (0, .ref ot), (1, .ref oa), (2, .ref ob)] → va_P D pn_cl [(ot, .inr (1, [.ref qt, .int (nI nt), .int (pn_b bt)])), (qt, .inl (cI, 632, .inl g)), (oa, .inr (1, [.ref qa, .int (nI na), .int (pn_b ba)])), (qa, .inl (cI, 632, .inl fa)), (ob, .inr (1, [.ref qb, .int (nI nb), .int (pn_b bb)])), (qb, .inl (cI, 632, .inl fb))] H → va_D A [(ot, .inr (1, [.ref qt, .int (nI nt), .int (pn_b bt)])), (qt, .inl (cI, 632, .inl g)), (oa, .inr (1, [.ref qa, .int (nI na), .int (pn_b ba)])), (qa, .inl (cI, 632, .inl fa)), (ob, .inr (1, [.ref qb, .int (nI nb), .int (pn_b bb)])), (qb, .inl (cI, 632, .inl fb))] → va_S A s.heap H locs → W p l e ({ frames := 1, cells := 0, slots := 0, locals := 32 } : Room) s m ([.ref ot, .ref oa, .ref ob] : List Value).toArray below meth c H locs 0 0 Q (F0 m 5 ls []) := by
    intro N
    induction N with
    | zero => intro i g c0 hM; exact absurd hM (Nat.not_lt_zero _)
    | succ N ih5 =>
      intro i g c0 hM5 hi hc hV H locs ls hl hP hD hS
      refine lv_iload hx hb d_R_becomeSizeDifference_5 (lv_at hl 0 rfl) ?_
      refine lv_aload_n hx hb d_R_becomeSizeDifference_7 rfl (lv_at hl 3 rfl) ?_
      refine pw_get Fx hK hP fld_R 2 rfl 1 (by decide) kw_93 (v := .int (nI na)) rfl d_R_becomeSizeDifference_8 ?_
      refine pw_icmp_ge (a := i) (b := na) (tgt := 50) hx hb d_R_becomeSizeDifference_11 (by decide) (by omega) (by omega) (fun h_11 => ?_) (fun h_11 => ?_)
      · skip
        obtain rfl : na = i := by omega
        refine lv_aload_n hx hb d_R_becomeSizeDifference_50 rfl (lv_at hl 2 rfl) ?_
        refine lv_aload_n hx hb d_R_becomeSizeDifference_51 rfl (lv_at hl 3 rfl) ?_
        refine pw_get Fx hK hP fld_R 2 rfl 1 (by decide) kw_93 (v := .int (nI na)) rfl d_R_becomeSizeDifference_52 ?_
        refine pn_bv (wr := [(oa, .inr (1, [.ref qa, .int (nI na), .int (pn_b ba)])), (qa, .inl (cI, 632, .inl fa)), (ob, .inr (1, [.ref qb, .int (nI nb), .int (pn_b bb)])), (qb, .inl (cI, 632, .inl fb))]) [0, 1] [2, 3, 4, 5] hP hD hS hA (pn_rV [.int (nI na)] [] Fx hK hN hP hD [0, 1] rfl rfl (c_R_fit l D cI cZ cB cJ _ ot qt g nt na bt (by omega)) kw_226 cal_R_fit inst_R_fit sel_R_fit ⟨by decide, by decide⟩ ⟨rfl, rfl⟩ 0 rfl rfl rfl rfl hl.1 (Nat.le_of_ble_eq_true rfl) d_R_becomeSizeDifference_55 ⟨Nat.zero_le _, Nat.zero_le _⟩) rfl rfl rfl (by decide) (fun u_55 H locs hw hP hD hS => ?_)
        obtain ⟨hj, hVj, hzj⟩ := hw
        have hP : va_P D pn_cl [(oa, .inr (1, [.ref qa, .int (nI na), .int (pn_b ba)])), (qa, .inl (cI, 632, .inl fa)), (ob, .inr (1, [.ref qb, .int (nI nb), .int (pn_b bb)])), (qb, .inl (cI, 632, .inl fb)), (ot, .inr (1, [.ref qt, .int (nI u_55), .int (pn_b false)])), (qt, .inl (cI, 632, .inl g))] H := hP
        have hD : va_D A [(oa, .inr (1, [.ref qa, .int (nI na), .int (pn_b ba)])), (qa, .inl (cI, 632, .inl fa)), (ob, .inr (1, [.ref qb, .int (nI nb), .int (pn_b bb)])), (qb, .inl (cI, 632, .inl fb)), (ot, .inr (1, [.ref qt, .int (nI u_55), .int (pn_b false)])), (qt, .inl (cI, 632, .inl g))] := hD
        exact pn_retv ((g, u_55)) Fx hr hlocks hQ hAe (hP.sub [4, 5, 0, 1, 2, 3] rfl) (hD.sub [4, 5, 0, 1, 2, 3] (by decide) rfl) hS (⟨hj, by rw [hVj]; exact pn_diff_end hzb hge hV, hzj⟩) d_R_becomeSizeDifference_58
      · skip
        refine lv_lload_n hx hb d_R_becomeSizeDifference_14 rfl (lv_at hl 1 rfl) ?_
        refine lv_aload_n hx hb d_R_becomeSizeDifference_15 rfl (lv_at hl 3 rfl) ?_
        refine lv_iload hx hb d_R_becomeSizeDifference_16 (lv_at hl 0 rfl) ?_
        refine pn_bl (wr := [(ot, .inr (1, [.ref qt, .int (nI nt), .int (pn_b bt)])), (qt, .inl (cI, 632, .inl g)), (ob, .inr (1, [.ref qb, .int (nI nb), .int (pn_b bb)])), (qb, .inl (cI, 632, .inl fb))]) [2, 3] [0, 1, 4, 5] hP hD hS hA (pn_rV [.int (nI i)] [.long (pn_L c0)] Fx hK hN hP hD [2, 3] rfl rfl (c_R_limbAt l D cI cZ cB cJ _ oa qa fa na i ba (by omega) (by omega)) kw_361 cal_R_limbAt inst_R_limbAt sel_R_limbAt ⟨by decide, by decide⟩ ⟨rfl, rfl⟩ 0 rfl rfl rfl rfl hl.1 (Nat.le_of_ble_eq_true rfl) d_R_becomeSizeDifference_18 ⟨Nat.zero_le _, Nat.zero_le _⟩) rfl rfl rfl (by decide) (fun r_18 u_18 H locs hw hP hD hS => ?_)
        obtain ⟨⟩ := u_18
        obtain rfl := hw
        have hP : va_P D pn_cl [(ot, .inr (1, [.ref qt, .int (nI nt), .int (pn_b bt)])), (qt, .inl (cI, 632, .inl g)), (ob, .inr (1, [.ref qb, .int (nI nb), .int (pn_b bb)])), (qb, .inl (cI, 632, .inl fb)), (oa, .inr (1, [.ref qa, .int (nI na), .int (pn_b ba)])), (qa, .inl (cI, 632, .inl fa))] H := hP
        have hD : va_D A [(ot, .inr (1, [.ref qt, .int (nI nt), .int (pn_b bt)])), (qt, .inl (cI, 632, .inl g)), (ob, .inr (1, [.ref qb, .int (nI nb), .int (pn_b bb)])), (qb, .inl (cI, 632, .inl fb)), (oa, .inr (1, [.ref qa, .int (nI na), .int (pn_b ba)])), (qa, .inl (cI, 632, .inl fa))] := hD
        refine lv_aload_n hx hb d_R_becomeSizeDifference_21 rfl (lv_at hl 4 rfl) ?_
        refine lv_iload hx hb d_R_becomeSizeDifference_22 (lv_at hl 0 rfl) ?_
        refine pn_bl (wr := [(ot, .inr (1, [.ref qt, .int (nI nt), .int (pn_b bt)])), (qt, .inl (cI, 632, .inl g)), (oa, .inr (1, [.ref qa, .int (nI na), .int (pn_b ba)])), (qa, .inl (cI, 632, .inl fa))]) [2, 3] [0, 1, 4, 5] hP hD hS hA (pn_rV [.int (nI i)] [.long (pn_L (pn_u (pn_cut fa na i))), .long (pn_L c0)] Fx hK hN hP hD [2, 3] rfl rfl (c_R_limbAt l D cI cZ cB cJ _ ob qb fb nb i bb (by omega) (by omega)) kw_361 cal_R_limbAt inst_R_limbAt sel_R_limbAt ⟨by decide, by decide⟩ ⟨rfl, rfl⟩ 0 rfl rfl rfl rfl hl.1 (Nat.le_of_ble_eq_true rfl) d_R_becomeSizeDifference_24 ⟨Nat.zero_le _, Nat.zero_le _⟩) rfl rfl rfl (by decide) (fun r_24 u_24 H locs hw hP hD hS => ?_)
        obtain ⟨⟩ := u_24
        obtain rfl := hw
        have hP : va_P D pn_cl [(ot, .inr (1, [.ref qt, .int (nI nt), .int (pn_b bt)])), (qt, .inl (cI, 632, .inl g)), (oa, .inr (1, [.ref qa, .int (nI na), .int (pn_b ba)])), (qa, .inl (cI, 632, .inl fa)), (ob, .inr (1, [.ref qb, .int (nI nb), .int (pn_b bb)])), (qb, .inl (cI, 632, .inl fb))] H := hP
        have hD : va_D A [(ot, .inr (1, [.ref qt, .int (nI nt), .int (pn_b bt)])), (qt, .inl (cI, 632, .inl g)), (oa, .inr (1, [.ref qa, .int (nI na), .int (pn_b ba)])), (qa, .inl (cI, 632, .inl fa)), (ob, .inr (1, [.ref qb, .int (nI nb), .int (pn_b bb)])), (qb, .inl (cI, 632, .inl fb))] := hD
        refine pw_lsub hx hb d_R_becomeSizeDifference_27 ?_
        have u1 := pn_u_lt (pn_cut fa na i)
        have u2 := pn_u_lt (pn_cut fb nb i)
        have u3 := pn_u_nonneg (pn_cut fa na i)
        have u4 := pn_u_nonneg (pn_cut fb nb i)
        obtain ⟨t, ht⟩ : ∃ t, t = c0 + (pn_u (pn_cut fa na i) - pn_u (pn_cut fb nb i)) := ⟨_, rfl⟩
        refine pw_ladd hx hb d_R_becomeSizeDifference_28 ?_
        refine pn_topl (pn_L t) (by rw [ht]) ?_
        refine lv_lstore_n (lv' := [(3, .long (pn_L t)), (5, .int (nI i)), (0, .ref ot), (1, .ref oa), (2, .ref ob)]) hx hb d_R_becomeSizeDifference_29 rfl hl (by decide) rfl (fun ls hl => ?_)
        refine lv_aload_n hx hb d_R_becomeSizeDifference_30 rfl (lv_at hl 2 rfl) ?_
        refine pw_get Fx hK hP fld_R 0 rfl 0 (by decide) kw_89 (v := .ref qt) rfl d_R_becomeSizeDifference_31 ?_
        refine lv_iload hx hb d_R_becomeSizeDifference_34 (lv_at hl 1 rfl) ?_
        refine lv_lload_n hx hb d_R_becomeSizeDifference_36 rfl (lv_at hl 0 rfl) ?_
        refine pw_l2i hx hb d_R_becomeSizeDifference_37 ?_
        refine pw_iast Fx hK hP hD hS 1 0 (f := g) rfl rfl (k := i) (by omega) (by decide) (w' := [(ot, .inr (1, [.ref qt, .int (nI nt), .int (pn_b bt)])), (qt, .inl (cI, 632, .inl (upd g i (pn_I t)))), (oa, .inr (1, [.ref qa, .int (nI na), .int (pn_b ba)])), (qa, .inl (cI, 632, .inl fa)), (ob, .inr (1, [.ref qb, .int (nI nb), .int (pn_b bb)])), (qb, .inl (cI, 632, .inl fb))]) rfl d_R_becomeSizeDifference_38 (fun H locs hP hD hS => ?_)
        refine lv_lload_n hx hb d_R_becomeSizeDifference_39 rfl (lv_at hl 0 rfl) ?_
        refine lv_bipush (v := 32) hx hb d_R_becomeSizeDifference_40 (by decide) ?_
        refine pw_lshr32 hx hb d_R_becomeSizeDifference_42 (by omega) (by omega) ?_
        refine lv_lstore_n (lv' := [(3, .long (pn_L (t / 4294967296))), (5, .int (nI i)), (0, .ref ot), (1, .ref oa), (2, .ref ob)]) hx hb d_R_becomeSizeDifference_43 rfl hl (by decide) rfl (fun ls hl => ?_)
        refine lv_iinc (v := nI (i + 1)) (lv' := [(5, .int (nI (i + 1))), (3, .long (pn_L (t / 4294967296))), (0, .ref ot), (1, .ref oa), (2, .ref ob)]) hx hb d_R_becomeSizeDifference_44 hl (k := 1) rfl (nI_add _ 1) (by decide) rfl (fun ls hl => ?_)
        refine lv_goto (tgt := 5) hx hb d_R_becomeSizeDifference_47 (by decide) ?_
        exact ih5 (i + 1) _ (t / 4294967296) (by omega) (by omega) (by omega) (by rw [pn_put hV]; simp only [pn_V_s]; rw [ht]; grind) _ _ _ hl hP hD hS
  exact loop5 _ 0 ft 0 (Nat.lt_succ_self _) (Nat.zero_le _) (by decide) rfl _ _ _ hl hP hD hS

set_option maxHeartbeats 4000000 in
set_option maxRecDepth 100000 in
theorem c_R_take (l : Launch) (D : va_G) (cI cZ cB cJ : ClassId) (sz : Nat) (ot qt : Nat) (ft : Nat → Int32) (nt : Nat) (bt : Bool) (oa qa : Nat) (fa : Nat → Int32) (na : Nat) (ba : Bool) (hna : na ≤ 632) : pn_Cv l D (pn_ty cI cZ cB cJ) y_R_take w_R_take ({ frames := 1, cells := 0, slots := 0, locals := 40 } : Room) [.ref ot, .ref oa] [(ot, .inr (1, [.ref qt, .int (nI nt), .int (pn_b bt)])), (qt, .inl (cI, 632, .inl ft)), (oa, .inr (1, [.ref qa, .int (nI na), .int (pn_b ba)])), (qa, .inl (cI, 632, .inl fa))] sz (S := Nat → Int32) (fun g => ∀ i, i < na → g i = fa i) (fun g => [(ot, .inr (1, [.ref qt, .int (nI na), .int (pn_b ba)])), (qt, .inl (cI, 632, .inl g)), (oa, .inr (1, [.ref qa, .int (nI na), .int (pn_b ba)])), (qa, .inl (cI, 632, .inl fa))]) := by
  refine pn_start (by decide) (Nat.le_of_ble_eq_true rfl) ?_
  intro p e s m below meth c A Q ls hQ hAe Fx hr hlocks hN hK hP hD hS hA hl
  have hx := Fx.1
  have hb := Fx.2.1
  have hl : lv_has ls 2 [(0, .ref ot), (1, .ref oa)] := hl
  refine lv_aload_n hx hb d_R_take_0 rfl (lv_at hl 1 rfl) ?_
  refine pw_get Fx hK hP fld_R 2 rfl 0 (by decide) kw_89 (v := .ref qa) rfl d_R_take_1 ?_
  refine lv_iconst (v := nI 0) hx hb d_R_take_4 (by decide) ?_
  refine lv_aload_n hx hb d_R_take_5 rfl (lv_at hl 0 rfl) ?_
  refine pw_get Fx hK hP fld_R 0 rfl 0 (by decide) kw_89 (v := .ref qt) rfl d_R_take_6 ?_
  refine lv_iconst (v := nI 0) hx hb d_R_take_9 (by decide) ?_
  refine lv_aload_n hx hb d_R_take_10 rfl (lv_at hl 1 rfl) ?_
  refine pw_get Fx hK hP fld_R 2 rfl 1 (by decide) kw_93 (v := .int (nI na)) rfl d_R_take_11 ?_
  refine pw_copy Fx (hl.1) kw_293 kw_276 kw_275 kw_13 hK hP hD hS 3 1 0 (f := fa) (g := ft) rfl rfl rfl rfl (sp := 0) (dp := 0) (n := na) (by omega) (by omega) (by decide) (by decide) (rest := []) (by decide) (Nat.le_of_ble_eq_true rfl) (w' := [(ot, .inr (1, [.ref qt, .int (nI nt), .int (pn_b bt)])), (qt, .inl (cI, 632, .inl (va_cpy fa ft 0 0 na))), (oa, .inr (1, [.ref qa, .int (nI na), .int (pn_b ba)])), (qa, .inl (cI, 632, .inl fa))]) rfl d_R_take_14 (fun H locs hP hD hS => ?_)
  refine lv_aload_n hx hb d_R_take_17 rfl (lv_at hl 0 rfl) ?_
  refine lv_aload_n hx hb d_R_take_18 rfl (lv_at hl 1 rfl) ?_
  refine pw_get Fx hK hP fld_R 2 rfl 1 (by decide) kw_93 (v := .int (nI na)) rfl d_R_take_19 ?_
  refine pw_put Fx hK hP hD hS fld_R 0 rfl 1 (by decide) kw_93 rfl rfl rfl (Nat.le_of_ble_eq_true rfl) (w' := [(ot, .inr (1, [.ref qt, .int (nI na), .int (pn_b bt)])), (qt, .inl (cI, 632, .inl (va_cpy fa ft 0 0 na))), (oa, .inr (1, [.ref qa, .int (nI na), .int (pn_b ba)])), (qa, .inl (cI, 632, .inl fa))]) rfl d_R_take_22 (fun H locs hP hD hS => ?_)
  refine lv_aload_n hx hb d_R_take_25 rfl (lv_at hl 0 rfl) ?_
  refine lv_aload_n hx hb d_R_take_26 rfl (lv_at hl 1 rfl) ?_
  refine pw_get Fx hK hP fld_R 2 rfl 2 (by decide) kw_99 (v := .int (pn_b ba)) rfl d_R_take_27 ?_
  refine pw_put Fx hK hP hD hS fld_R 0 rfl 2 (by decide) kw_99 rfl (pn_b_nar _) (pn_b_fit _) (Nat.le_of_ble_eq_true rfl) (w' := [(ot, .inr (1, [.ref qt, .int (nI na), .int (pn_b ba)])), (qt, .inl (cI, 632, .inl (va_cpy fa ft 0 0 na))), (oa, .inr (1, [.ref qa, .int (nI na), .int (pn_b ba)])), (qa, .inl (cI, 632, .inl fa))]) rfl d_R_take_30 (fun H locs hP hD hS => ?_)
  exact pn_retv (va_cpy fa ft 0 0 na) Fx hr hlocks hQ hAe hP hD hS (fun i hi => by rw [pk_cpy_in (Nat.zero_le i) (by omega)]; congr 1; omega) d_R_take_33

set_option maxHeartbeats 4000000 in
set_option maxRecDepth 100000 in
theorem c_R_putBelow (l : Launch) (D : va_G) (cI cZ cB cJ : ClassId) (sz : Nat) (ot qt : Nat) (ft : Nat → Int32) (nt : Nat) (bt : Bool) (x : Int32) (hnt : nt ≤ 631) : pn_Cv l D (pn_ty cI cZ cB cJ) y_R_putBelow w_R_putBelow ({ frames := 1, cells := 0, slots := 0, locals := 40 } : Room) [.ref ot, .int x] [(ot, .inr (1, [.ref qt, .int (nI nt), .int (pn_b bt)])), (qt, .inl (cI, 632, .inl ft))] sz (S := (Nat → Int32) × Nat × Bool) (fun u => u.2.1 ≤ nt + 1 ∧ pn_V u.1 u.2.1 = pn_V ft nt * 4294967296 + pn_u x ∧ pn_nz u.1 u.2.1 ∧ u.2.2 = (bt && decide (0 < u.2.1))) (fun u => [(ot, .inr (1, [.ref qt, .int (nI u.2.1), .int (pn_b u.2.2)])), (qt, .inl (cI, 632, .inl u.1))]) := by
  refine pn_start (by decide) (Nat.le_of_ble_eq_true rfl) ?_
  intro p e s m below meth c A Q ls hQ hAe Fx hr hlocks hN hK hP hD hS hA hl
  have hx := Fx.1
  have hb := Fx.2.1
  have hl : lv_has ls 3 [(0, .ref ot), (1, .int x)] := hl
  refine lv_aload_n hx hb d_R_putBelow_0 rfl (lv_at hl 0 rfl) ?_
  refine pw_get Fx hK hP fld_R 0 rfl 2 (by decide) kw_99 (v := .int (pn_b bt)) rfl d_R_putBelow_1 ?_
  refine lv_istore_n (lv' := [(2, .int (pn_b bt)), (0, .ref ot), (1, .int x)]) hx hb d_R_putBelow_4 rfl hl (by decide) rfl (fun ls hl => ?_)
  refine lv_aload_n hx hb d_R_putBelow_5 rfl (lv_at hl 1 rfl) ?_
  refine pw_get Fx hK hP fld_R 0 rfl 0 (by decide) kw_89 (v := .ref qt) rfl d_R_putBelow_6 ?_
  refine lv_iconst (v := nI 0) hx hb d_R_putBelow_9 (by decide) ?_
  refine lv_aload_n hx hb d_R_putBelow_10 rfl (lv_at hl 1 rfl) ?_
  refine pw_get Fx hK hP fld_R 0 rfl 0 (by decide) kw_89 (v := .ref qt) rfl d_R_putBelow_11 ?_
  refine lv_iconst (v := nI 1) hx hb d_R_putBelow_14 (by decide) ?_
  refine lv_aload_n hx hb d_R_putBelow_15 rfl (lv_at hl 1 rfl) ?_
  refine pw_get Fx hK hP fld_R 0 rfl 1 (by decide) kw_93 (v := .int (nI nt)) rfl d_R_putBelow_16 ?_
  refine pw_copy Fx (hl.1) kw_293 kw_276 kw_275 kw_13 hK hP hD hS 1 1 0 (f := ft) (g := ft) rfl rfl rfl rfl (sp := 0) (dp := 1) (n := nt) (by omega) (by omega) (by decide) (by decide) (rest := []) (by decide) (Nat.le_of_ble_eq_true rfl) (w' := [(ot, .inr (1, [.ref qt, .int (nI nt), .int (pn_b bt)])), (qt, .inl (cI, 632, .inl (va_cpy ft ft 0 1 nt)))]) rfl d_R_putBelow_19 (fun H locs hP hD hS => ?_)
  refine lv_aload_n hx hb d_R_putBelow_22 rfl (lv_at hl 1 rfl) ?_
  refine pw_get Fx hK hP fld_R 0 rfl 0 (by decide) kw_89 (v := .ref qt) rfl d_R_putBelow_23 ?_
  refine lv_iconst (v := nI 0) hx hb d_R_putBelow_26 (by decide) ?_
  refine lv_iload_n hx hb d_R_putBelow_27 rfl (lv_at hl 2 rfl) ?_
  refine pw_iast Fx hK hP hD hS 1 0 (f := va_cpy ft ft 0 1 nt) rfl rfl (k := 0) (by omega) (by decide) (w' := [(ot, .inr (1, [.ref qt, .int (nI nt), .int (pn_b bt)])), (qt, .inl (cI, 632, .inl (upd (va_cpy ft ft 0 1 nt) 0 x)))]) rfl d_R_putBelow_28 (fun H locs hP hD hS => ?_)
  refine lv_aload_n hx hb d_R_putBelow_29 rfl (lv_at hl 1 rfl) ?_
  refine lv_aload_n hx hb d_R_putBelow_30 rfl (lv_at hl 1 rfl) ?_
  refine pw_get Fx hK hP fld_R 0 rfl 1 (by decide) kw_93 (v := .int (nI nt)) rfl d_R_putBelow_31 ?_
  refine lv_iconst (v := nI 1) hx hb d_R_putBelow_34 (by decide) ?_
  refine pw_iadd hx hb d_R_putBelow_35 ?_
  refine pn_bv (wr := []) [0, 1] [] hP hD hS hA (pn_rV [.int (nI (nt + 1))] [] Fx hK hN hP hD [0, 1] rfl rfl (c_R_fit l D cI cZ cB cJ _ ot qt (upd (va_cpy ft ft 0 1 nt) 0 x) nt (nt + 1) bt (by omega)) kw_226 cal_R_fit inst_R_fit sel_R_fit ⟨by decide, by decide⟩ ⟨rfl, rfl⟩ 0 rfl rfl rfl rfl hl.1 (Nat.le_of_ble_eq_true rfl) d_R_putBelow_36 ⟨Nat.zero_le _, Nat.zero_le _⟩) rfl rfl rfl (by decide) (fun u_36 H locs hw hP hD hS => ?_)
  obtain ⟨hj, hVj, hzj⟩ := hw
  have hP : va_P D pn_cl [(ot, .inr (1, [.ref qt, .int (nI u_36), .int (pn_b false)])), (qt, .inl (cI, 632, .inl (upd (va_cpy ft ft 0 1 nt) 0 x)))] H := hP
  have hD : va_D A [(ot, .inr (1, [.ref qt, .int (nI u_36), .int (pn_b false)])), (qt, .inl (cI, 632, .inl (upd (va_cpy ft ft 0 1 nt) 0 x)))] := hD
  refine lv_aload_n hx hb d_R_putBelow_39 rfl (lv_at hl 1 rfl) ?_
  refine lv_iload_n hx hb d_R_putBelow_40 rfl (lv_at hl 0 rfl) ?_
  refine pn_bv (wr := []) [0, 1] [] hP hD hS hA (pn_rV [.int (pn_b bt)] [] Fx hK hN hP hD [0, 1] rfl rfl (c_R_turnBelowIf l D cI cZ cB cJ _ ot qt (upd (va_cpy ft ft 0 1 nt) 0 x) u_36 false bt (by omega)) kw_294 cal_R_turnBelowIf inst_R_turnBelowIf sel_R_turnBelowIf ⟨by decide, by decide⟩ ⟨rfl, rfl⟩ 0 rfl rfl rfl rfl hl.1 (Nat.le_of_ble_eq_true rfl) d_R_putBelow_41 ⟨Nat.zero_le _, Nat.zero_le _⟩) rfl rfl rfl (by decide) (fun u_41 H locs hw hP hD hS => ?_)
  have hP : va_P D pn_cl [(ot, .inr (1, [.ref qt, .int (nI u_36), .int (pn_b u_41)])), (qt, .inl (cI, 632, .inl (upd (va_cpy ft ft 0 1 nt) 0 x)))] H := hP
  have hD : va_D A [(ot, .inr (1, [.ref qt, .int (nI u_36), .int (pn_b u_41)])), (qt, .inl (cI, 632, .inl (upd (va_cpy ft ft 0 1 nt) 0 x)))] := hD
  exact pn_retv ((upd (va_cpy ft ft 0 1 nt) 0 x, u_36, u_41)) Fx hr hlocks hQ hAe hP hD hS (⟨hj, by rw [hVj]; exact pn_V_push pk_us (fun i hi => by rw [pk_un (by omega), pk_cpy_in (by omega) (by omega)]; congr 1; omega), hzj, hw⟩) d_R_putBelow_44
end
section
theorem pn_L_and1 (z : Int) : pn_L z &&& pn_L 1 = pn_L (z % 2) := by
  apply pn_L_ext
  rw [Int64.toBitVec_and, BitVec.toNat_and, pn_L_nat, pn_L_nat, pn_L_nat]
  have h : ((1 : Int) % 18446744073709551616).toNat = 2 ^ 1 - 1 := by decide
  rw [h, Nat.and_two_pow_sub_one_eq_mod]
  omega
section PnAnd
variable {p : Program} {l : Launch} {e : Env} {R : Room} {s : State} {m : MethodId} {args : Array Value} {below : List Frame} {meth : Method} {c : Code} {H : Heap} {locs : List Loc} {cells slots : Nat} {Q : State → Prop} {cc : ByteArray} {pc : Nat} {ls : Array Slot} {rest : List Value}
theorem pw_land1 (hexec : p.tables.exec = Jvm.exec) (hb : c.code = cc) {a : Int} (hdg : decode cc pc = .ok (.land, 1)) (k : W p l e R s m args below meth c H locs cells slots Q (F0 m (pc + 1) ls (.long (pn_L (a % 2)) :: rest))) : W p l e R s m args below meth c H locs cells slots Q (F0 m pc ls (.long (pn_L 1) :: .long (pn_L a) :: rest)) := lv_land hexec hb hdg (by rw [pn_L_and1]; exact k)
end PnAnd
theorem pn_V_2' (f : Nat → Int32) {x : Int} (h0 : 0 ≤ x) (h1 : x < 18446744073709551616) : pn_V (upd (upd f (0) (pn_I x)) (1) (pn_I (x / 4294967296))) 2 = x := by
  have e : pn_I x = pn_I (x % 4294967296) := pn_I_eqm (by omega)
  rw [e, pn_V_2 f (x % 4294967296) (x / 4294967296) (by omega) (by omega) (by omega) (by omega)]
  omega
theorem pn_odd (f : Nat → Int32) (n : Nat) : pn_V f n % 2 = pn_u (pn_cut f n 0) % 2 := by
  cases n with
  | zero => rw [pn_cut_ge (Nat.le_refl 0), pn_u_0, pn_V_0]
  | succ n =>
    rw [pn_cut_lt (Nat.zero_lt_succ n)]
    have e := pn_V_add f 1 n
    rw [Nat.add_comm 1 n] at e
    rw [e, pn_V_s, pn_V_0, pn_E_0, pn_E_1]
    omega
theorem pn_inc_nz {f g : Nat → Int32} {i n : Nat} (hz : pn_nz f n) (h2 : f i ≠ -1) (g2 : g i = f i + 1) (g3 : ∀ j, i < j → g j = f j) (hi : i < n) : pn_nz g n := by
  intro k hk
  rcases (show i = k ∨ i < k by omega) with z | z
  · subst z
    rw [g2]
    intro e
    have e1 := pn_u_inc h2
    rw [e, pn_u_0] at e1
    have := pn_u_nonneg (f i)
    omega
  · rw [g3 k z]
    exact hz k hk
theorem pn_inc_top {f g : Nat → Int32} {n : Nat} (h1 : ∀ j, j < n → f j = -1) (g1 : ∀ j, j < n → g j = 0) : pn_V (upd g n (nI 1)) (n + 1) = pn_V f n + 1 := by
  have e : pn_u (nI 1) = 1 := by decide
  rw [pn_V_upS, pn_V_ones h1, pn_V_zero g1, e]
  omega
theorem pn_udiv {a d : Int} (ha : 0 ≤ a) (hd : 0 < d) : 0 ≤ a - a / 2 ^ 1 / d * 2 ^ 1 * d ∧ a - a / 2 ^ 1 / d * 2 ^ 1 * d < 2 * d ∧ (a - a / 2 ^ 1 / d * 2 ^ 1 * d < d → a / d = a / 2 ^ 1 / d * 2 ^ 1) ∧ (d ≤ a - a / 2 ^ 1 / d * 2 ^ 1 * d → a / d = a / 2 ^ 1 / d * 2 ^ 1 + 1) := by
  obtain ⟨h, hh⟩ : ∃ h, h = a / 2 ^ 1 := ⟨_, rfl⟩
  rw [← hh]
  obtain ⟨q, hq⟩ : ∃ q, q = h / d := ⟨_, rfl⟩
  rw [← hq]
  have e1 : q * d ≤ h := by rw [hq]; exact Int.ediv_mul_le _ (by omega)
  have e2 : h < (q + 1) * d := by rw [hq]; exact Int.lt_ediv_add_one_mul_self _ hd
  have e3 : (q + 1) * d = q * d + d := by grind
  have e4 : q * 2 ^ 1 * d = 2 * (q * d) := by grind
  have e5 : a = 2 * h ∨ a = 2 * h + 1 := by omega
  rw [e4]
  refine ⟨by omega, by omega, fun z => ?_, fun z => ?_⟩
  · have u := Int.ediv_emod_unique (a := a) (b := d) (r := a - 2 * (q * d)) (q := q * 2 ^ 1) hd
    exact (u.mpr ⟨by rw [Int.mul_comm d, e4]; omega, by omega, z⟩).1
  · have u := Int.ediv_emod_unique (a := a) (b := d) (r := a - 2 * (q * d) - d) (q := q * 2 ^ 1 + 1) hd
    exact (u.mpr ⟨by rw [Int.mul_comm d, Int.add_mul, e4]; omega, by omega, by omega⟩).1
theorem pn_divmod {v q r d : Int} (hd : 0 < d) (h : q * d + r = v) (h0 : 0 ≤ r) (h1 : r < d) : v / d = q ∧ v % d = r := (Int.ediv_emod_unique hd).mpr ⟨by rw [Int.mul_comm d]; omega, h0, h1⟩
theorem pn_mod {v d : Int} (hd : 0 < d) : 0 ≤ v - v / d * d ∧ v - v / d * d < d := by
  have e1 : v / d * d ≤ v := Int.ediv_mul_le _ (by omega)
  have e2 : v < (v / d + 1) * d := Int.lt_ediv_add_one_mul_self _ hd
  rw [Int.add_mul] at e2
  omega
theorem pn_quot {left x d : Int} (hd : 0 < d) (h0 : 0 ≤ left) (h1 : left < d) (hx0 : 0 ≤ x) (hx : x < 4294967296) : 0 ≤ (left * 4294967296 + x) / d ∧ (left * 4294967296 + x) / d < 4294967296 := by
  refine ⟨Int.ediv_nonneg (by omega) (by omega), Int.ediv_lt_of_lt_mul hd ?_⟩
  omega

set_option maxHeartbeats 4000000 in
set_option maxRecDepth 100000 in
theorem c_R_become (l : Launch) (D : va_G) (cI cZ cB cJ : ClassId) (sz : Nat) (ot qt : Nat) (ft : Nat → Int32) (nt : Nat) (bt : Bool) (z : Int) (hz0 : -9223372036854775808 ≤ z) (hz1 : z < 9223372036854775808) : pn_Cv l D (pn_ty cI cZ cB cJ) y_R_become w_R_become ({ frames := 1, cells := 0, slots := 0, locals := 32 } : Room) [.ref ot, .long (pn_L z)] [(ot, .inr (1, [.ref qt, .int (nI nt), .int (pn_b bt)])), (qt, .inl (cI, 632, .inl ft))] sz (S := (Nat → Int32) × Nat × Bool) (fun u => u.2.1 ≤ 2 ∧ pn_V u.1 u.2.1 = (z.natAbs : Int) ∧ pn_nz u.1 u.2.1 ∧ u.2.2 = decide (z < 0)) (fun u => [(ot, .inr (1, [.ref qt, .int (nI u.2.1), .int (pn_b u.2.2)])), (qt, .inl (cI, 632, .inl u.1))]) := by
  refine pn_start (by decide) (Nat.le_of_ble_eq_true rfl) ?_
  intro p e s m below meth c A Q ls hQ hAe Fx hr hlocks hN hK hP hD hS hA hl
  have hx := Fx.1
  have hb := Fx.2.1
  have hl : lv_has ls 5 [(0, .ref ot), (1, .long (pn_L z))] := hl
  refine lv_lload_n hx hb d_R_become_0 rfl (lv_at hl 1 rfl) ?_
  refine lv_lconst (v := pn_L 0) hx hb d_R_become_1 (by decide) ?_
  refine W.lcmp hx hb d_R_become_2 ?_
  refine pw_ifl_ge (a := z) (b := 0) (tgt := 11) hx hb d_R_become_3 (by decide) (by omega) (by omega) (by omega) (by omega) (fun h_3 => ?_) (fun h_3 => ?_)
  · skip
    refine lv_lload_n hx hb d_R_become_11 rfl (lv_at hl 1 rfl) ?_
    refine lv_lstore_n (lv' := [(3, .long (pn_L z)), (0, .ref ot), (1, .long (pn_L z))]) hx hb d_R_become_12 rfl hl (by decide) rfl (fun ls hl => ?_)
    refine lv_aload_n hx hb d_R_become_13 rfl (lv_at hl 1 rfl) ?_
    refine pw_get Fx hK hP fld_R 0 rfl 0 (by decide) kw_89 (v := .ref qt) rfl d_R_become_14 ?_
    refine lv_iconst (v := nI 0) hx hb d_R_become_17 (by decide) ?_
    refine lv_lload_n hx hb d_R_become_18 rfl (lv_at hl 0 rfl) ?_
    refine pw_l2i hx hb d_R_become_19 ?_
    refine pw_iast Fx hK hP hD hS 1 0 (f := ft) rfl rfl (k := 0) (by omega) (by decide) (w' := [(ot, .inr (1, [.ref qt, .int (nI nt), .int (pn_b bt)])), (qt, .inl (cI, 632, .inl (upd ft 0 (pn_I z))))]) rfl d_R_become_20 (fun H locs hP hD hS => ?_)
    refine lv_aload_n hx hb d_R_become_21 rfl (lv_at hl 1 rfl) ?_
    refine pw_get Fx hK hP fld_R 0 rfl 0 (by decide) kw_89 (v := .ref qt) rfl d_R_become_22 ?_
    refine lv_iconst (v := nI 1) hx hb d_R_become_25 (by decide) ?_
    refine lv_lload_n hx hb d_R_become_26 rfl (lv_at hl 0 rfl) ?_
    refine lv_bipush (v := 32) hx hb d_R_become_27 (by decide) ?_
    refine pw_lushr32 hx hb d_R_become_29 (by omega) (by omega) ?_
    refine pw_l2i hx hb d_R_become_30 ?_
    refine pw_iast Fx hK hP hD hS 1 0 (f := upd ft 0 (pn_I z)) rfl rfl (k := 1) (by omega) (by decide) (w' := [(ot, .inr (1, [.ref qt, .int (nI nt), .int (pn_b bt)])), (qt, .inl (cI, 632, .inl (upd (upd ft 0 (pn_I z)) 1 (pn_I (z / 4294967296)))))]) rfl d_R_become_31 (fun H locs hP hD hS => ?_)
    refine lv_aload_n hx hb d_R_become_32 rfl (lv_at hl 1 rfl) ?_
    refine lv_iconst (v := nI 2) hx hb d_R_become_33 (by decide) ?_
    refine pn_bv (wr := []) [0, 1] [] hP hD hS hA (pn_rV [.int (nI 2)] [] Fx hK hN hP hD [0, 1] rfl rfl (c_R_fit l D cI cZ cB cJ _ ot qt (upd (upd ft (0) (pn_I z)) (1) (pn_I (z / 4294967296))) nt 2 bt (by omega)) kw_226 cal_R_fit inst_R_fit sel_R_fit ⟨by decide, by decide⟩ ⟨rfl, rfl⟩ 0 rfl rfl rfl rfl hl.1 (Nat.le_of_ble_eq_true rfl) d_R_become_34 ⟨Nat.zero_le _, Nat.zero_le _⟩) rfl rfl rfl (by decide) (fun u_34 H locs hw hP hD hS => ?_)
    obtain ⟨hj, hVj, hzj⟩ := hw
    have hP : va_P D pn_cl [(ot, .inr (1, [.ref qt, .int (nI u_34), .int (pn_b false)])), (qt, .inl (cI, 632, .inl (upd (upd ft (0) (pn_I z)) (1) (pn_I (z / 4294967296)))))] H := hP
    have hD : va_D A [(ot, .inr (1, [.ref qt, .int (nI u_34), .int (pn_b false)])), (qt, .inl (cI, 632, .inl (upd (upd ft (0) (pn_I z)) (1) (pn_I (z / 4294967296)))))] := hD
    refine lv_aload_n hx hb d_R_become_37 rfl (lv_at hl 1 rfl) ?_
    refine lv_lload_n hx hb d_R_become_38 rfl (lv_at hl 2 rfl) ?_
    refine lv_lconst (v := pn_L 0) hx hb d_R_become_39 (by decide) ?_
    refine W.lcmp hx hb d_R_become_40 ?_
    refine pw_ifl_ge (a := z) (b := 0) (tgt := 48) hx hb d_R_become_41 (by decide) (by omega) (by omega) (by omega) (by omega) (fun h_41 => ?_) (fun h_41 => ?_)
    · skip
      refine lv_iconst (v := nI 0) hx hb d_R_become_48 (by decide) ?_
      refine pn_topi (pn_b false) (by decide) ?_
      refine pw_put Fx hK hP hD hS fld_R 0 rfl 2 (by decide) kw_99 rfl (pn_b_nar _) (pn_b_fit _) (Nat.le_of_ble_eq_true rfl) (w' := [(ot, .inr (1, [.ref qt, .int (nI u_34), .int (pn_b false)])), (qt, .inl (cI, 632, .inl (upd (upd ft (0) (pn_I z)) (1) (pn_I (z / 4294967296)))))]) rfl d_R_become_49 (fun H locs hP hD hS => ?_)
      exact pn_retv ((upd (upd ft (0) (pn_I z)) (1) (pn_I (z / 4294967296)), u_34, false)) Fx hr hlocks hQ hAe hP hD hS (by (try dsimp only); first | done | exact (⟨hj, by rw [hVj, pn_V_2' ft (by omega) (by omega)]; omega, hzj, (by simp; omega)⟩)) d_R_become_52
    · skip
      exact absurd h_41 (by omega)
  · skip
    refine lv_lload_n hx hb d_R_become_6 rfl (lv_at hl 1 rfl) ?_
    refine pw_lneg hx hb d_R_become_7 ?_
    refine lv_goto (tgt := 12) hx hb d_R_become_8 (by decide) ?_
    refine lv_lstore_n (lv' := [(3, .long (pn_L (-z))), (0, .ref ot), (1, .long (pn_L z))]) hx hb d_R_become_12 rfl hl (by decide) rfl (fun ls hl => ?_)
    refine lv_aload_n hx hb d_R_become_13 rfl (lv_at hl 1 rfl) ?_
    refine pw_get Fx hK hP fld_R 0 rfl 0 (by decide) kw_89 (v := .ref qt) rfl d_R_become_14 ?_
    refine lv_iconst (v := nI 0) hx hb d_R_become_17 (by decide) ?_
    refine lv_lload_n hx hb d_R_become_18 rfl (lv_at hl 0 rfl) ?_
    refine pw_l2i hx hb d_R_become_19 ?_
    refine pw_iast Fx hK hP hD hS 1 0 (f := ft) rfl rfl (k := 0) (by omega) (by decide) (w' := [(ot, .inr (1, [.ref qt, .int (nI nt), .int (pn_b bt)])), (qt, .inl (cI, 632, .inl (upd ft 0 (pn_I (-z)))))]) rfl d_R_become_20 (fun H locs hP hD hS => ?_)
    refine lv_aload_n hx hb d_R_become_21 rfl (lv_at hl 1 rfl) ?_
    refine pw_get Fx hK hP fld_R 0 rfl 0 (by decide) kw_89 (v := .ref qt) rfl d_R_become_22 ?_
    refine lv_iconst (v := nI 1) hx hb d_R_become_25 (by decide) ?_
    refine lv_lload_n hx hb d_R_become_26 rfl (lv_at hl 0 rfl) ?_
    refine lv_bipush (v := 32) hx hb d_R_become_27 (by decide) ?_
    refine pw_lushr32 hx hb d_R_become_29 (by omega) (by omega) ?_
    refine pw_l2i hx hb d_R_become_30 ?_
    refine pw_iast Fx hK hP hD hS 1 0 (f := upd ft 0 (pn_I (-z))) rfl rfl (k := 1) (by omega) (by decide) (w' := [(ot, .inr (1, [.ref qt, .int (nI nt), .int (pn_b bt)])), (qt, .inl (cI, 632, .inl (upd (upd ft 0 (pn_I (-z))) 1 (pn_I ((-z) / 4294967296)))))]) rfl d_R_become_31 (fun H locs hP hD hS => ?_)
    refine lv_aload_n hx hb d_R_become_32 rfl (lv_at hl 1 rfl) ?_
    refine lv_iconst (v := nI 2) hx hb d_R_become_33 (by decide) ?_
    refine pn_bv (wr := []) [0, 1] [] hP hD hS hA (pn_rV [.int (nI 2)] [] Fx hK hN hP hD [0, 1] rfl rfl (c_R_fit l D cI cZ cB cJ _ ot qt (upd (upd ft (0) (pn_I (-z))) (1) (pn_I ((-z) / 4294967296))) nt 2 bt (by omega)) kw_226 cal_R_fit inst_R_fit sel_R_fit ⟨by decide, by decide⟩ ⟨rfl, rfl⟩ 0 rfl rfl rfl rfl hl.1 (Nat.le_of_ble_eq_true rfl) d_R_become_34 ⟨Nat.zero_le _, Nat.zero_le _⟩) rfl rfl rfl (by decide) (fun u_34 H locs hw hP hD hS => ?_)
    obtain ⟨hj, hVj, hzj⟩ := hw
    have hP : va_P D pn_cl [(ot, .inr (1, [.ref qt, .int (nI u_34), .int (pn_b false)])), (qt, .inl (cI, 632, .inl (upd (upd ft (0) (pn_I (-z))) (1) (pn_I ((-z) / 4294967296)))))] H := hP
    have hD : va_D A [(ot, .inr (1, [.ref qt, .int (nI u_34), .int (pn_b false)])), (qt, .inl (cI, 632, .inl (upd (upd ft (0) (pn_I (-z))) (1) (pn_I ((-z) / 4294967296)))))] := hD
    refine lv_aload_n hx hb d_R_become_37 rfl (lv_at hl 1 rfl) ?_
    refine lv_lload_n hx hb d_R_become_38 rfl (lv_at hl 2 rfl) ?_
    refine lv_lconst (v := pn_L 0) hx hb d_R_become_39 (by decide) ?_
    refine W.lcmp hx hb d_R_become_40 ?_
    refine pw_ifl_ge (a := z) (b := 0) (tgt := 48) hx hb d_R_become_41 (by decide) (by omega) (by omega) (by omega) (by omega) (fun h_41 => ?_) (fun h_41 => ?_)
    · skip
      exact absurd h_41 (by omega)
    · skip
      refine lv_iconst (v := nI 1) hx hb d_R_become_44 (by decide) ?_
      refine lv_goto (tgt := 49) hx hb d_R_become_45 (by decide) ?_
      refine pn_topi (pn_b true) (by decide) ?_
      refine pw_put Fx hK hP hD hS fld_R 0 rfl 2 (by decide) kw_99 rfl (pn_b_nar _) (pn_b_fit _) (Nat.le_of_ble_eq_true rfl) (w' := [(ot, .inr (1, [.ref qt, .int (nI u_34), .int (pn_b true)])), (qt, .inl (cI, 632, .inl (upd (upd ft (0) (pn_I (-z))) (1) (pn_I ((-z) / 4294967296)))))]) rfl d_R_become_49 (fun H locs hP hD hS => ?_)
      exact pn_retv ((upd (upd ft (0) (pn_I (-z))) (1) (pn_I ((-z) / 4294967296)), u_34, true)) Fx hr hlocks hQ hAe hP hD hS (by (try dsimp only); first | done | exact (⟨hj, by rw [hVj, pn_V_2' ft (by omega) (by omega)]; omega, hzj, (by simp; omega)⟩)) d_R_become_52

set_option maxHeartbeats 4000000 in
set_option maxRecDepth 100000 in
theorem c_R_increase (l : Launch) (D : va_G) (cI cZ cB cJ : ClassId) (sz : Nat) (ot qt : Nat) (ft : Nat → Int32) (nt : Nat) (bt : Bool) (hnt : nt ≤ 631) (hz : pn_nz ft nt) : pn_Cv l D (pn_ty cI cZ cB cJ) y_R_increase w_R_increase ({ frames := 0, cells := 0, slots := 0, locals := 0 } : Room) [.ref ot] [(ot, .inr (1, [.ref qt, .int (nI nt), .int (pn_b bt)])), (qt, .inl (cI, 632, .inl ft))] sz (S := (Nat → Int32) × Nat) (fun u => u.2 ≤ nt + 1 ∧ pn_V u.1 u.2 = pn_V ft nt + 1 ∧ pn_nz u.1 u.2) (fun u => [(ot, .inr (1, [.ref qt, .int (nI u.2), .int (pn_b bt)])), (qt, .inl (cI, 632, .inl u.1))]) := by
  refine pn_start (by decide) (Nat.le_of_ble_eq_true rfl) ?_
  intro p e s m below meth c A Q ls hQ hAe Fx hr hlocks hN hK hP hD hS hA hl
  have hx := Fx.1
  have hb := Fx.2.1
  have hl : lv_has ls 2 [(0, .ref ot)] := hl
  refine lv_iconst (v := nI 0) hx hb d_R_increase_0 (by decide) ?_
  refine lv_istore_n (lv' := [(1, .int (nI 0)), (0, .ref ot)]) hx hb d_R_increase_1 rfl hl (by decide) rfl (fun ls hl => ?_)
  have loop2 : ∀ (N : Nat) (i : Nat) (g : Nat → Int32), nt - i < N → (i ≤ nt) → (∀ j, j < i → ft j = -1) → (∀ j, j < i → g j = 0) → (∀ j, i ≤ j → g j = ft j) → ∀ (H : Heap) (locs : List Loc) (ls : Array Slot), lv_has ls 2 [(1, .int (nI i)), (0, .ref ot)] → va_P D pn_cl [(ot, .inr (1, [.ref qt, .int (nI nt), .int (pn_b bt)])), (qt, .inl (cI, 632, .inl g))] H → va_D A [(ot, .inr (1, [.ref qt, .int (nI nt), .int (pn_b bt)])), (qt, .inl (cI, 632, .inl g))] → va_S A s.heap H locs → W p l e ({ frames := 0, cells := 0, slots := 0, locals := 0 } : Room) s m ([.ref ot] : List Value).toArray below meth c H locs 0 0 Q (F0 m 2 ls []) := by
    intro N
    induction N with
    | zero => intro i g hM; exact absurd hM (Nat.not_lt_zero _)
    | succ N ih2 =>
      intro i g hM2 hi h1 g1 g3 H locs ls hl hP hD hS
      refine lv_iload_n hx hb d_R_increase_2 rfl (lv_at hl 0 rfl) ?_
      refine lv_aload_n hx hb d_R_increase_3 rfl (lv_at hl 1 rfl) ?_
      refine pw_get Fx hK hP fld_R 0 rfl 1 (by decide) kw_93 (v := .int (nI nt)) rfl d_R_increase_4 ?_
      refine pw_icmp_ge (a := i) (b := nt) (tgt := 33) hx hb d_R_increase_7 (by decide) (by omega) (by omega) (fun h_7 => ?_) (fun h_7 => ?_)
      · skip
        obtain rfl : nt = i := by omega
        refine lv_iload_n hx hb d_R_increase_33 rfl (lv_at hl 0 rfl) ?_
        refine lv_aload_n hx hb d_R_increase_34 rfl (lv_at hl 1 rfl) ?_
        refine pw_get Fx hK hP fld_R 0 rfl 1 (by decide) kw_93 (v := .int (nI nt)) rfl d_R_increase_35 ?_
        refine pw_icmp_ge (a := nt) (b := nt) (tgt := 54) hx hb d_R_increase_38 (by decide) (by omega) (by omega) (fun h_38 => ?_) (fun h_38 => ?_)
        · skip
          refine lv_aload_n hx hb d_R_increase_54 rfl (lv_at hl 1 rfl) ?_
          refine pw_get Fx hK hP fld_R 0 rfl 1 (by decide) kw_93 (v := .int (nI nt)) rfl d_R_increase_55 ?_
          refine lv_sipush (v := nI 632) hx hb d_R_increase_58 (by decide) ?_
          refine pw_icmp_ge (a := nt) (b := 632) (tgt := 84) hx hb d_R_increase_61 (by decide) (by omega) (by omega) (fun h_61 => ?_) (fun h_61 => ?_)
          · skip
            exact absurd h_61 (by omega)
          · skip
            refine lv_aload_n hx hb d_R_increase_64 rfl (lv_at hl 1 rfl) ?_
            refine pw_get Fx hK hP fld_R 0 rfl 0 (by decide) kw_89 (v := .ref qt) rfl d_R_increase_65 ?_
            refine lv_aload_n hx hb d_R_increase_68 rfl (lv_at hl 1 rfl) ?_
            refine pw_get Fx hK hP fld_R 0 rfl 1 (by decide) kw_93 (v := .int (nI nt)) rfl d_R_increase_69 ?_
            refine lv_iconst (v := nI 1) hx hb d_R_increase_72 (by decide) ?_
            refine pw_iast Fx hK hP hD hS 1 0 (f := g) rfl rfl (k := nt) (by omega) (by decide) (w' := [(ot, .inr (1, [.ref qt, .int (nI nt), .int (pn_b bt)])), (qt, .inl (cI, 632, .inl (upd g nt (nI 1))))]) rfl d_R_increase_73 (fun H locs hP hD hS => ?_)
            refine lv_aload_n hx hb d_R_increase_74 rfl (lv_at hl 1 rfl) ?_
            refine lv_dup hx hb d_R_increase_75 rfl ?_
            refine pw_get Fx hK hP fld_R 0 rfl 1 (by decide) kw_93 (v := .int (nI nt)) rfl d_R_increase_76 ?_
            refine lv_iconst (v := nI 1) hx hb d_R_increase_79 (by decide) ?_
            refine pw_iadd hx hb d_R_increase_80 ?_
            refine pw_put Fx hK hP hD hS fld_R 0 rfl 1 (by decide) kw_93 rfl rfl rfl (Nat.le_of_ble_eq_true rfl) (w' := [(ot, .inr (1, [.ref qt, .int (nI (nt + 1)), .int (pn_b bt)])), (qt, .inl (cI, 632, .inl (upd g nt (nI 1))))]) rfl d_R_increase_81 (fun H locs hP hD hS => ?_)
            exact pn_retv ((upd g nt (nI 1), nt + 1)) Fx hr hlocks hQ hAe hP hD hS (by (try dsimp only); first | done | exact (⟨by omega, pn_inc_top h1 g1, fun k hk => by obtain rfl : nt = k := (by omega); rw [pk_us]; decide⟩)) d_R_increase_84
        · skip
          exact absurd h_38 (by omega)
      · skip
        refine lv_aload_n hx hb d_R_increase_10 rfl (lv_at hl 1 rfl) ?_
        refine pw_get Fx hK hP fld_R 0 rfl 0 (by decide) kw_89 (v := .ref qt) rfl d_R_increase_11 ?_
        refine lv_iload_n hx hb d_R_increase_14 rfl (lv_at hl 0 rfl) ?_
        refine pw_iald Fx hK hP 1 0 (f := g) rfl rfl (k := i) (by omega) (by decide) d_R_increase_15 ?_
        refine lv_iconst (v := (-1)) hx hb d_R_increase_16 (by decide) ?_
        refine lv_icmp_ne (tgt := 33) hx hb d_R_increase_17 (by decide) (fun h_17 => ?_) (fun h_17 => ?_)
        · skip
          refine lv_iload_n hx hb d_R_increase_33 rfl (lv_at hl 0 rfl) ?_
          refine lv_aload_n hx hb d_R_increase_34 rfl (lv_at hl 1 rfl) ?_
          refine pw_get Fx hK hP fld_R 0 rfl 1 (by decide) kw_93 (v := .int (nI nt)) rfl d_R_increase_35 ?_
          refine pw_icmp_ge (a := i) (b := nt) (tgt := 54) hx hb d_R_increase_38 (by decide) (by omega) (by omega) (fun h_38 => ?_) (fun h_38 => ?_)
          · skip
            exact absurd h_38 (by omega)
          · skip
            refine lv_aload_n hx hb d_R_increase_41 rfl (lv_at hl 1 rfl) ?_
            refine pw_get Fx hK hP fld_R 0 rfl 0 (by decide) kw_89 (v := .ref qt) rfl d_R_increase_42 ?_
            refine lv_iload_n hx hb d_R_increase_45 rfl (lv_at hl 0 rfl) ?_
            refine lv_dup2_11 hx hb d_R_increase_46 rfl rfl ?_
            refine pw_iald Fx hK hP 1 0 (f := g) rfl rfl (k := i) (by omega) (by decide) d_R_increase_47 ?_
            refine lv_iconst (v := nI 1) hx hb d_R_increase_48 (by decide) ?_
            refine lv_iadd hx hb d_R_increase_49 ?_
            refine pw_iast Fx hK hP hD hS 1 0 (f := g) rfl rfl (k := i) (by omega) (by decide) (w' := [(ot, .inr (1, [.ref qt, .int (nI nt), .int (pn_b bt)])), (qt, .inl (cI, 632, .inl (upd g i ((g i) + (nI 1)))))]) rfl d_R_increase_50 (fun H locs hP hD hS => ?_)
            refine lv_goto (tgt := 84) hx hb d_R_increase_51 (by decide) ?_
            exact pn_retv ((upd g i (g i + nI 1), nt)) Fx hr hlocks hQ hAe hP hD hS (by (try dsimp only); first | done | exact (⟨by omega, pn_V_inc h_7 h1 (by rw [← g3 i (Nat.le_refl i)]; exact h_17) (fun j h => by rw [pk_un (by omega)]; exact g1 j h) (by rw [pk_us, g3 i (Nat.le_refl i)]; rfl) (fun j h => by rw [pk_un (by omega)]; exact g3 j (by omega)), pn_inc_nz hz (by rw [← g3 i (Nat.le_refl i)]; exact h_17) (by rw [pk_us, g3 i (Nat.le_refl i)]; rfl) (fun j h => by rw [pk_un (by omega)]; exact g3 j (by omega)) h_7⟩)) d_R_increase_84
        · skip
          refine lv_aload_n hx hb d_R_increase_20 rfl (lv_at hl 1 rfl) ?_
          refine pw_get Fx hK hP fld_R 0 rfl 0 (by decide) kw_89 (v := .ref qt) rfl d_R_increase_21 ?_
          refine lv_iload_n hx hb d_R_increase_24 rfl (lv_at hl 0 rfl) ?_
          refine lv_iconst (v := nI 0) hx hb d_R_increase_25 (by decide) ?_
          refine pw_iast Fx hK hP hD hS 1 0 (f := g) rfl rfl (k := i) (by omega) (by decide) (w' := [(ot, .inr (1, [.ref qt, .int (nI nt), .int (pn_b bt)])), (qt, .inl (cI, 632, .inl (upd g i (nI 0))))]) rfl d_R_increase_26 (fun H locs hP hD hS => ?_)
          refine lv_iinc (v := nI (i + 1)) (lv' := [(1, .int (nI (i + 1))), (0, .ref ot)]) hx hb d_R_increase_27 hl (k := 0) rfl (nI_add _ 1) (by decide) rfl (fun ls hl => ?_)
          refine lv_goto (tgt := 2) hx hb d_R_increase_30 (by decide) ?_
          exact ih2 (i + 1) _ (by omega) (by omega) (fun j h => by rcases (show j = i ∨ j < i by omega) with z | z; (· rw [z, ← g3 i (Nat.le_refl i)]; exact h_17); (· exact h1 j z)) (fun j h => by rcases (show j = i ∨ j < i by omega) with z | z; (· rw [z, pk_us]; rfl); (· rw [pk_un (by omega)]; exact g1 j z)) (fun j h => by rw [pk_un (by omega)]; exact g3 j (by omega)) _ _ _ hl hP hD hS
  exact loop2 _ 0 ft (Nat.lt_succ_self _) (Nat.zero_le _) (fun j h => by omega) (fun j h => by omega) (fun j _ => rfl) _ _ _ hl hP hD hS

set_option maxHeartbeats 4000000 in
set_option maxRecDepth 100000 in
theorem c_R_isOdd (l : Launch) (D : va_G) (cI cZ cB cJ : ClassId) (sz : Nat) (ot qt : Nat) (ft : Nat → Int32) (nt : Nat) (bt : Bool) (hnt : nt ≤ 632) : pn_Ci l D (pn_ty cI cZ cB cJ) y_R_isOdd w_R_isOdd ({ frames := 1, cells := 0, slots := 0, locals := 32 } : Room) [.ref ot] [(ot, .inr (1, [.ref qt, .int (nI nt), .int (pn_b bt)])), (qt, .inl (cI, 632, .inl ft))] sz (S := Unit) (fun r _ => r = pn_b (decide (pn_V ft nt % 2 = 1))) (fun _ => [(ot, .inr (1, [.ref qt, .int (nI nt), .int (pn_b bt)])), (qt, .inl (cI, 632, .inl ft))]) := by
  refine pn_start (by decide) (Nat.le_of_ble_eq_true rfl) ?_
  intro p e s m below meth c A Q ls hQ hAe Fx hr hlocks hN hK hP hD hS hA hl
  have hx := Fx.1
  have hb := Fx.2.1
  have hl : lv_has ls 1 [(0, .ref ot)] := hl
  refine lv_aload_n hx hb d_R_isOdd_0 rfl (lv_at hl 0 rfl) ?_
  refine lv_iconst (v := nI 0) hx hb d_R_isOdd_1 (by decide) ?_
  refine pn_bl (wr := []) [0, 1] [] hP hD hS hA (pn_rV [.int (nI 0)] [] Fx hK hN hP hD [0, 1] rfl rfl (c_R_limbAt l D cI cZ cB cJ _ ot qt ft nt 0 bt (by omega) (by omega)) kw_361 cal_R_limbAt inst_R_limbAt sel_R_limbAt ⟨by decide, by decide⟩ ⟨rfl, rfl⟩ 0 rfl rfl rfl rfl hl.1 (Nat.le_of_ble_eq_true rfl) d_R_isOdd_2 ⟨Nat.zero_le _, Nat.zero_le _⟩) rfl rfl rfl (by decide) (fun r_2 u_2 H locs hw hP hD hS => ?_)
  obtain ⟨⟩ := u_2
  obtain rfl := hw
  have hP : va_P D pn_cl [(ot, .inr (1, [.ref qt, .int (nI nt), .int (pn_b bt)])), (qt, .inl (cI, 632, .inl ft))] H := hP
  have hD : va_D A [(ot, .inr (1, [.ref qt, .int (nI nt), .int (pn_b bt)])), (qt, .inl (cI, 632, .inl ft))] := hD
  refine lv_lconst (v := pn_L 1) hx hb d_R_isOdd_5 (by decide) ?_
  refine pw_land1 hx hb d_R_isOdd_6 ?_
  refine lv_lconst (v := pn_L 1) hx hb d_R_isOdd_7 (by decide) ?_
  refine W.lcmp hx hb d_R_isOdd_8 ?_
  refine pw_ifl_ne (a := (pn_u (pn_cut ft nt 0)) % 2) (b := 1) (tgt := 16) hx hb d_R_isOdd_9 (by decide) (by omega) (by omega) (by omega) (by omega) (fun h_9 => ?_) (fun h_9 => ?_)
  · skip
    have hz : pn_b false = pn_b (decide (pn_V ft nt % 2 = 1)) := by rw [pn_odd, decide_eq_false h_9]
    refine lv_iconst (v := nI 0) hx hb d_R_isOdd_16 (by decide) ?_
    refine pn_topi (pn_b false) (by decide) ?_
    exact pn_retz (()) Fx hr (hn := pn_b_nar _) hlocks hQ hAe hP hD hS (by (try dsimp only); first | done | exact (hz)) d_R_isOdd_17
  · skip
    have hz : pn_b true = pn_b (decide (pn_V ft nt % 2 = 1)) := by rw [pn_odd, decide_eq_true h_9]
    refine lv_iconst (v := nI 1) hx hb d_R_isOdd_12 (by decide) ?_
    refine lv_goto (tgt := 17) hx hb d_R_isOdd_13 (by decide) ?_
    refine pn_topi (pn_b true) (by decide) ?_
    exact pn_retz (()) Fx hr (hn := pn_b_nar _) hlocks hQ hAe hP hD hS (by (try dsimp only); first | done | exact (hz)) d_R_isOdd_17

set_option maxHeartbeats 4000000 in
set_option maxRecDepth 100000 in
theorem c_D_unsigned (l : Launch) (D : va_G) (cI cZ cB cJ : ClassId) (sz : Nat) (a d : Int) (ha0 : 0 ≤ a) (ha : a < 18446744073709551616) (hd0 : 0 < d) (hd : d < 4294967296) : pn_Cl l D (pn_ty cI cZ cB cJ) y_D_unsigned w_D_unsigned ({ frames := 0, cells := 0, slots := 0, locals := 0 } : Room) [.long (pn_L a), .long (pn_L d)] [] sz (S := Unit) (fun r _ => r = pn_L (a / d)) (fun _ => []) := by
  refine pn_start (by decide) (Nat.le_of_ble_eq_true rfl) ?_
  intro p e s m below meth c A Q ls hQ hAe Fx hr hlocks hN hK hP hD hS hA hl
  have hx := Fx.1
  have hb := Fx.2.1
  have hl : lv_has ls 6 [(0, .long (pn_L a)), (2, .long (pn_L d))] := hl
  refine lv_lload_n hx hb d_D_unsigned_0 rfl (lv_at hl 1 rfl) ?_
  refine lv_lconst (v := pn_L 0) hx hb d_D_unsigned_1 (by decide) ?_
  refine W.lcmp hx hb d_D_unsigned_2 ?_
  refine pw_ifl_gt (a := d) (b := 0) (tgt := 8) hx hb d_D_unsigned_3 (by decide) (by omega) (by omega) (by omega) (by omega) (fun h_3 => ?_) (fun h_3 => ?_)
  · skip
    by_cases hs : a < 9223372036854775808
    · skip
      refine lv_lload_n hx hb d_D_unsigned_8 rfl (lv_at hl 0 rfl) ?_
      refine pn_topl (pn_L a) (rfl) ?_
      refine lv_lconst (v := pn_L 0) hx hb d_D_unsigned_9 (by decide) ?_
      refine W.lcmp hx hb d_D_unsigned_10 ?_
      refine pw_ifl_lt (a := a) (b := 0) (tgt := 18) hx hb d_D_unsigned_11 (by decide) (by omega) (by omega) (by omega) (by omega) (fun h_11 => ?_) (fun h_11 => ?_)
      · skip
        exact absurd h_11 (by omega)
      · skip
        refine lv_lload_n hx hb d_D_unsigned_14 rfl (lv_at hl 0 rfl) ?_
        refine lv_lload_n hx hb d_D_unsigned_15 rfl (lv_at hl 1 rfl) ?_
        refine pw_ldiv hx hb d_D_unsigned_16 (by omega) (by omega) (by omega) (by omega) ?_
        exact pn_retl (()) Fx hr hlocks hQ hAe hP hD hS (by (try dsimp only); first | done | exact (rfl)) d_D_unsigned_17
    · skip
      have ud := pn_udiv ha0 hd0
      refine lv_lload_n hx hb d_D_unsigned_8 rfl (lv_at hl 0 rfl) ?_
      refine pn_topl (pn_L (a - 18446744073709551616)) (pn_L_eqm (by omega)) ?_
      refine lv_lconst (v := pn_L 0) hx hb d_D_unsigned_9 (by decide) ?_
      refine W.lcmp hx hb d_D_unsigned_10 ?_
      refine pw_ifl_lt (a := a - 18446744073709551616) (b := 0) (tgt := 18) hx hb d_D_unsigned_11 (by decide) (by omega) (by omega) (by omega) (by omega) (fun h_11 => ?_) (fun h_11 => ?_)
      · skip
        refine lv_lload_n hx hb d_D_unsigned_18 rfl (lv_at hl 0 rfl) ?_
        refine lv_iconst (v := nI 1) hx hb d_D_unsigned_19 (by decide) ?_
        refine pw_lushr hx hb d_D_unsigned_20 (by omega) (by omega) 1 (by decide) ?_
        refine lv_lload_n hx hb d_D_unsigned_21 rfl (lv_at hl 1 rfl) ?_
        refine pw_ldiv hx hb d_D_unsigned_22 (by omega) (by omega) hd0 (by omega) ?_
        refine lv_iconst (v := nI 1) hx hb d_D_unsigned_23 (by decide) ?_
        refine pw_lshl hx hb d_D_unsigned_24 1 (by decide) ?_
        refine lv_lstore (lv' := [(4, .long (pn_L ((a / 2 ^ 1) / d * 2 ^ 1))), (0, .long (pn_L a)), (2, .long (pn_L d))]) hx hb d_D_unsigned_25 hl (by decide) rfl (fun ls hl => ?_)
        refine lv_lload_n hx hb d_D_unsigned_27 rfl (lv_at hl 1 rfl) ?_
        refine lv_lload hx hb d_D_unsigned_28 (lv_at hl 0 rfl) ?_
        refine lv_lload_n hx hb d_D_unsigned_30 rfl (lv_at hl 2 rfl) ?_
        refine pw_lmul hx hb d_D_unsigned_31 ?_
        refine pw_lsub hx hb d_D_unsigned_32 ?_
        refine lv_lload_n hx hb d_D_unsigned_33 rfl (lv_at hl 2 rfl) ?_
        refine W.lcmp hx hb d_D_unsigned_34 ?_
        refine pw_ifl_lt (a := a - (((a / 2 ^ 1) / d * 2 ^ 1) * d)) (b := d) (tgt := 45) hx hb d_D_unsigned_35 (by decide) (by omega) (by omega) (by omega) (by omega) (fun h_35 => ?_) (fun h_35 => ?_)
        · skip
          have hz := ud.2.2.1 h_35
          refine lv_lload hx hb d_D_unsigned_45 (lv_at hl 0 rfl) ?_
          exact pn_retl (()) Fx hr hlocks hQ hAe hP hD hS (by (try dsimp only); first | done | exact (by rw [hz])) d_D_unsigned_47
        · skip
          have hz := ud.2.2.2 h_35
          refine lv_lload hx hb d_D_unsigned_38 (lv_at hl 0 rfl) ?_
          refine lv_lconst (v := pn_L 1) hx hb d_D_unsigned_40 (by decide) ?_
          refine pw_ladd hx hb d_D_unsigned_41 ?_
          refine lv_goto (tgt := 47) hx hb d_D_unsigned_42 (by decide) ?_
          exact pn_retl (()) Fx hr hlocks hQ hAe hP hD hS (by (try dsimp only); first | done | exact (by rw [hz])) d_D_unsigned_47
      · skip
        exact absurd h_11 (by omega)
  · skip
    exact absurd h_3 (by omega)
end
