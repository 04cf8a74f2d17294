section
/-! ints and longs by the whole numbers behind them -/
def pn_L (z : Int) : Int64 := Int64.ofInt z
def pn_I (z : Int) : Int32 := Int32.ofInt z
def pn_u (x : Int32) : Int := (x.toBitVec.toNat : Int)
theorem pn_L_of (x : Int64) : x = pn_L x.toInt := (Int64.ofInt_toInt x).symm
theorem pn_I_of (x : Int32) : x = pn_I x.toInt := (Int32.ofInt_toInt x).symm
theorem pn_L_add (a b : Int) : pn_L a + pn_L b = pn_L (a + b) := (Int64.ofInt_add a b).symm
theorem pn_L_sub (a b : Int) : pn_L a - pn_L b = pn_L (a - b) := (Int64.ofInt_sub a b).symm
theorem pn_L_mul (a b : Int) : pn_L a * pn_L b = pn_L (a * b) := (Int64.ofInt_mul a b).symm
theorem pn_L_neg (a : Int) : -pn_L a = pn_L (-a) := (Int64.ofInt_neg a).symm
theorem pn_I_add (a b : Int) : pn_I a + pn_I b = pn_I (a + b) := (Int32.ofInt_add a b).symm
theorem pn_I_sub (a b : Int) : pn_I a - pn_I b = pn_I (a - b) := (Int32.ofInt_sub a b).symm
theorem pn_I_mul (a b : Int) : pn_I a * pn_I b = pn_I (a * b) := (Int32.ofInt_mul a b).symm
theorem pn_I_neg (a : Int) : -pn_I a = pn_I (-a) := (Int32.ofInt_neg a).symm
theorem pn_I_nI (n : Nat) : pn_I (n : Int) = nI n := Int32.ofInt_eq_ofNat
theorem pn_L_lN (n : Nat) : pn_L (n : Int) = lN n := Int64.ofInt_eq_ofNat
theorem pn_L_toInt {z : Int} (h1 : -9223372036854775808 ≤ z) (h2 : z < 9223372036854775808) : (pn_L z).toInt = z := Int64.toInt_ofInt_of_le (by omega) (by omega)
theorem pn_I_toInt {z : Int} (h1 : -2147483648 ≤ z) (h2 : z < 2147483648) : (pn_I z).toInt = z := Int32.toInt_ofInt_of_le (by omega) (by omega)
theorem pn_L_nat (z : Int) : (pn_L z).toBitVec.toNat = (z % 18446744073709551616).toNat := by
  show (BitVec.ofInt 64 z).toNat = _
  rw [BitVec.toNat_ofInt]
  rfl
theorem pn_I_nat (z : Int) : (pn_I z).toBitVec.toNat = (z % 4294967296).toNat := by
  show (BitVec.ofInt 32 z).toNat = _
  rw [BitVec.toNat_ofInt]
  rfl
theorem pn_L_ext {x y : Int64} (h : x.toBitVec.toNat = y.toBitVec.toNat) : x = y := Int64.toBitVec_inj.mp (BitVec.eq_of_toNat_eq h)
theorem pn_I_ext {x y : Int32} (h : x.toBitVec.toNat = y.toBitVec.toNat) : x = y := Int32.toBitVec_inj.mp (BitVec.eq_of_toNat_eq h)
theorem pn_L_eqm {a b : Int} (h : a % 18446744073709551616 = b % 18446744073709551616) : pn_L a = pn_L b := pn_L_ext (by rw [pn_L_nat, pn_L_nat, h])
theorem pn_I_eqm {a b : Int} (h : a % 4294967296 = b % 4294967296) : pn_I a = pn_I b := pn_I_ext (by rw [pn_I_nat, pn_I_nat, h])
theorem pn_u_nonneg (x : Int32) : 0 ≤ pn_u x := Int.natCast_nonneg _
theorem pn_u_lt (x : Int32) : pn_u x < 4294967296 := by
  have h := x.toBitVec.isLt
  unfold pn_u
  omega
theorem pn_u_I (z : Int) : pn_u (pn_I z) = z % 4294967296 := by
  unfold pn_u
  rw [pn_I_nat]
  omega
theorem pn_u_Ilt {z : Int} (h0 : 0 ≤ z) (h1 : z < 4294967296) : pn_u (pn_I z) = z := by
  rw [pn_u_I]
  omega
theorem pn_u_inj {x y : Int32} (h : pn_u x = pn_u y) : x = y := pn_I_ext (by unfold pn_u at h; omega)
theorem pn_u_0 : pn_u 0 = 0 := by decide
theorem pn_u_eq0 {x : Int32} : pn_u x = 0 ↔ x = 0 := ⟨fun h => pn_u_inj (by rw [h, pn_u_0]), fun h => by rw [h, pn_u_0]⟩
theorem pn_u_pos {x : Int32} (h : x ≠ 0) : 1 ≤ pn_u x := by
  have h1 := pn_u_nonneg x
  have h2 : pn_u x ≠ 0 := fun e => h (pn_u_eq0.mp e)
  omega
theorem pn_u_toInt (x : Int32) : x.toInt % 4294967296 = pn_u x := by
  have h := BitVec.toInt_eq_toNat_cond x.toBitVec
  have h2 := x.toBitVec.isLt
  have h3 : x.toInt = x.toBitVec.toInt := rfl
  unfold pn_u
  rw [h3, h]
  split <;> omega
/-- the int that a limb is, out of its number -/
theorem pn_I_u (x : Int32) : pn_I (pn_u x) = x := pn_u_inj (pn_u_Ilt (pn_u_nonneg x) (pn_u_lt x))
theorem pn_i2l (x : Int32) : x.toInt64 = pn_L x.toInt := (Int64.ofInt_int32ToInt x).symm
theorem pn_L_i (z : Int) : (pn_L z).toInt32 = pn_I z := Int64.toInt32_ofInt
theorem pn_L_mask (z : Int) : pn_L z &&& 4294967295 = pn_L (z % 4294967296) := by
  apply pn_L_ext
  rw [Int64.toBitVec_and, BitVec.toNat_and, pn_L_nat, pn_L_nat]
  have h : (4294967295 : Int64).toBitVec.toNat = 2 ^ 32 - 1 := by decide
  rw [h, Nat.and_two_pow_sub_one_eq_mod]
  omega
/-- a limb read without its sign -/
theorem pn_limb (x : Int32) : x.toInt64 &&& 4294967295 = pn_L (pn_u x) := by
  rw [pn_i2l, pn_L_mask, pn_u_toInt]
theorem pn_L_ushr {z : Int} (h0 : 0 ≤ z) (h1 : z < 18446744073709551616) (y : Int32) (k : Nat) (hk : k < 64) (hy : y = nI k) :
    ((pn_L z).toUInt64 >>> (y.toInt64.toUInt64 &&& Int64.toUInt64 63)).toInt64 = pn_L (z / 2 ^ k) := by
  subst hy
  have hs : ((nI k).toInt64.toUInt64 &&& Int64.toUInt64 63).toNat % 64 = k := by
    rw [nI_l (by omega), UInt64.toNat_and]
    have e : (lN k).toUInt64.toNat = k % 2 ^ 64 := rfl
    have e2 : (Int64.toUInt64 63).toNat = 2 ^ 6 - 1 := by decide
    rw [e, e2, Nat.and_two_pow_sub_one_eq_mod]
    omega
  apply pn_L_ext
  show ((pn_L z).toUInt64 >>> ((nI k).toInt64.toUInt64 &&& Int64.toUInt64 63)).toNat = _
  rw [UInt64.toNat_shiftRight, hs, Nat.shiftRight_eq_div_pow, pn_L_nat]
  have e3 : (pn_L z).toUInt64.toNat = (z % 18446744073709551616).toNat := pn_L_nat z
  rw [e3]
  obtain ⟨n, rfl⟩ := Int.eq_ofNat_of_zero_le h0
  have e4 : ((n : Int) / 2 ^ k) = ((n / 2 ^ k : Nat) : Int) := by rw [Int.natCast_ediv, Int.natCast_pow]; rfl
  have e5 : n / 2 ^ k ≤ n := Nat.div_le_self _ _
  rw [e4]
  have e6 : ((n : Int) % 18446744073709551616).toNat = n := by omega
  rw [e6]
  generalize n / 2 ^ k = w at e5 ⊢
  omega
theorem pn_L_ushr32 {z : Int} (h0 : 0 ≤ z) (h1 : z < 18446744073709551616) : ((pn_L z).toUInt64 >>> ((32 : Int32).toInt64.toUInt64 &&& Int64.toUInt64 63)).toInt64 = pn_L (z / 4294967296) := pn_L_ushr h0 h1 32 32 (by decide) (by decide)
theorem pn_L_shr32 {z : Int} (h0 : -9223372036854775808 ≤ z) (h1 : z < 9223372036854775808) : pn_L z >>> ((32 : Int32).toInt64 &&& 63) = pn_L (z / 4294967296) := by
  apply Int64.toInt_inj.mp
  rw [pn_L_toInt (by omega) (by omega)]
  have hs : (((32 : Int32).toInt64 &&& 63).toBitVec.smod 64) = 32#64 := by decide
  show ((pn_L z).toBitVec.sshiftRight' (((32 : Int32).toInt64 &&& 63).toBitVec.smod 64)).toInt = _
  rw [hs]
  show ((pn_L z).toBitVec.sshiftRight 32).toInt = _
  rw [BitVec.toInt_sshiftRight]
  have e : (pn_L z).toBitVec.toInt = z := pn_L_toInt h0 h1
  rw [e, Int.shiftRight_eq_div_pow]
  rfl
theorem pn_L_shl (z : Int) (y : Int32) (k : Nat) (hk : k < 64) (hy : y = nI k) : pn_L z <<< (y.toInt64 &&& 63) = pn_L (z * 2 ^ k) := by
  subst hy
  have hs : (((nI k).toInt64 &&& 63).toBitVec.smod 64).toNat = k := by
    have h0 : ∀ j : Fin 64, (((nI j.val).toInt64 &&& 63).toBitVec.smod 64).toNat = j.val := by decide +kernel
    exact h0 ⟨k, hk⟩
  apply pn_L_ext
  show ((pn_L z).toBitVec <<< (((nI k).toInt64 &&& 63).toBitVec.smod 64).toNat).toNat = _
  rw [BitVec.toNat_shiftLeft, hs, Nat.shiftLeft_eq, pn_L_nat, pn_L_nat]
  have h2 : ((z % 18446744073709551616).toNat : Int) = z % 18446744073709551616 := Int.toNat_of_nonneg (Int.emod_nonneg _ (by decide))
  apply Int.natCast_inj.mp
  rw [Int.natCast_emod, Int.natCast_mul, h2, Int.natCast_pow]
  have h3 : ((z * 2 ^ k % 18446744073709551616).toNat : Int) = z * 2 ^ k % 18446744073709551616 := Int.toNat_of_nonneg (Int.emod_nonneg _ (by decide))
  rw [h3]
  show z % 18446744073709551616 * 2 ^ k % 18446744073709551616 = _
  rw [Int.mul_emod (z % 18446744073709551616), Int.emod_emod_of_dvd _ (Int.dvd_refl _), ← Int.mul_emod]
theorem pn_L_or {a b : Int} (ha0 : 0 ≤ a) (ha : a < 4294967296) (hb0 : 0 ≤ b) (hb : b < 4294967296) : pn_L (a * 4294967296) ||| pn_L b = pn_L (a * 4294967296 + b) := by
  apply pn_L_ext
  rw [Int64.toBitVec_or, BitVec.toNat_or, pn_L_nat, pn_L_nat, pn_L_nat]
  obtain ⟨n, rfl⟩ := Int.eq_ofNat_of_zero_le ha0
  obtain ⟨k, rfl⟩ := Int.eq_ofNat_of_zero_le hb0
  have e1 : ((n : Int) * 4294967296 % 18446744073709551616).toNat = 2 ^ 32 * n := by omega
  have e2 : ((k : Int) % 18446744073709551616).toNat = k := by omega
  have e3 : (((n : Int) * 4294967296 + k) % 18446744073709551616).toNat = 2 ^ 32 * n + k := by omega
  rw [e1, e2, e3]
  exact (Nat.two_pow_add_eq_or_of_lt (i := 32) (by omega) n).symm
theorem pn_L_lt {a b : Int} (ha0 : -9223372036854775808 ≤ a) (ha : a < 9223372036854775808) (hb0 : -9223372036854775808 ≤ b) (hb : b < 9223372036854775808) : pn_L a < pn_L b ↔ a < b := by
  rw [Int64.lt_iff_toInt_lt, pn_L_toInt ha0 ha, pn_L_toInt hb0 hb]
theorem pn_L_le {a b : Int} (ha0 : -9223372036854775808 ≤ a) (ha : a < 9223372036854775808) (hb0 : -9223372036854775808 ≤ b) (hb : b < 9223372036854775808) : pn_L a ≤ pn_L b ↔ a ≤ b := by
  rw [Int64.le_iff_toInt_le, pn_L_toInt ha0 ha, pn_L_toInt hb0 hb]
theorem pn_L_eq {a b : Int} (ha0 : -9223372036854775808 ≤ a) (ha : a < 9223372036854775808) (hb0 : -9223372036854775808 ≤ b) (hb : b < 9223372036854775808) : pn_L a = pn_L b ↔ a = b := by
  rw [← Int64.toInt_inj, pn_L_toInt ha0 ha, pn_L_toInt hb0 hb]
theorem pn_I_lt {a b : Int} (ha0 : -2147483648 ≤ a) (ha : a < 2147483648) (hb0 : -2147483648 ≤ b) (hb : b < 2147483648) : pn_I a < pn_I b ↔ a < b := by
  rw [Int32.lt_iff_toInt_lt, pn_I_toInt ha0 ha, pn_I_toInt hb0 hb]
theorem pn_I_le {a b : Int} (ha0 : -2147483648 ≤ a) (ha : a < 2147483648) (hb0 : -2147483648 ≤ b) (hb : b < 2147483648) : pn_I a ≤ pn_I b ↔ a ≤ b := by
  rw [Int32.le_iff_toInt_le, pn_I_toInt ha0 ha, pn_I_toInt hb0 hb]
theorem pn_I_eq {a b : Int} (ha0 : -2147483648 ≤ a) (ha : a < 2147483648) (hb0 : -2147483648 ≤ b) (hb : b < 2147483648) : pn_I a = pn_I b ↔ a = b := by
  rw [← Int32.toInt_inj, pn_I_toInt ha0 ha, pn_I_toInt hb0 hb]
theorem pn_L_div {a b : Int} (ha0 : 0 ≤ a) (ha : a < 9223372036854775808) (hb0 : 0 < b) (hb : b < 9223372036854775808) : pn_L a / pn_L b = pn_L (a / b) := by
  have m1 : Int64.minValue.toInt = -9223372036854775808 := by decide
  have m2 : Int64.maxValue.toInt = 9223372036854775807 := by decide
  have h := Int64.ofInt_tdiv (a := a) (b := b) (by rw [m1]; omega) (by rw [m2]; omega) (by rw [m1]; omega) (by rw [m2]; omega)
  rw [Int.tdiv_eq_ediv_of_nonneg ha0] at h
  exact h.symm
/-- unsigned comparison by adding the sign's bit: any whole numbers below 2^64 -/
theorem pn_L_ule {a b : Int} (ha0 : 0 ≤ a) (ha : a < 18446744073709551616) (hb0 : 0 ≤ b) (hb : b < 18446744073709551616) : pn_L a + pn_L (-9223372036854775808) ≤ pn_L b + pn_L (-9223372036854775808) ↔ a ≤ b := by
  rw [pn_L_add, pn_L_add, pn_L_le (by omega) (by omega) (by omega) (by omega)]
  omega
end
section
/-! numbers by their limbs: pn_V f n is the number whose n lowest limbs are f 0 .. f (n - 1) -/
def pn_E (n : Nat) : Int := 4294967296 ^ n
theorem pn_E_0 : pn_E 0 = 1 := rfl
theorem pn_E_s (n : Nat) : pn_E (n + 1) = pn_E n * 4294967296 := Int.pow_succ _ _
theorem pn_E_1 : pn_E 1 = 4294967296 := rfl
theorem pn_E_pos (n : Nat) : 0 < pn_E n := by
  induction n with
  | zero => decide
  | succ n ih => rw [pn_E_s]; omega
theorem pn_E_add (a b : Nat) : pn_E (a + b) = pn_E a * pn_E b := Int.pow_add _ _ _
theorem pn_E_mono {a b : Nat} (h : a ≤ b) : pn_E a ≤ pn_E b := by
  obtain ⟨k, rfl⟩ := Nat.le.dest h
  rw [pn_E_add]
  have h1 := pn_E_pos a
  have h2 := pn_E_pos k
  have h3 := Int.mul_le_mul_of_nonneg_left (a := 1) (b := pn_E k) (c := pn_E a) (by omega) (by omega)
  omega
def pn_V (f : Nat → Int32) : Nat → Int
  | 0 => 0
  | n + 1 => pn_V f n + pn_u (f n) * pn_E n
theorem pn_V_0 (f : Nat → Int32) : pn_V f 0 = 0 := rfl
theorem pn_V_s (f : Nat → Int32) (n : Nat) : pn_V f (n + 1) = pn_V f n + pn_u (f n) * pn_E n := rfl
theorem pn_mul_nonneg {a b : Int} (ha : 0 ≤ a) (hb : 0 ≤ b) : 0 ≤ a * b := Int.mul_nonneg ha hb
theorem pn_mul_le {a b c : Int} (h : a ≤ b) (hc : 0 ≤ c) : a * c ≤ b * c := Int.mul_le_mul_of_nonneg_right h hc
theorem pn_le_mul {a b c : Int} (h : a ≤ b) (hc : 0 ≤ c) : c * a ≤ c * b := Int.mul_le_mul_of_nonneg_left h hc
theorem pn_V_nonneg (f : Nat → Int32) (n : Nat) : 0 ≤ pn_V f n := by
  induction n with
  | zero => exact Int.le_refl 0
  | succ n ih =>
    have h1 := pn_mul_nonneg (pn_u_nonneg (f n)) (Int.le_of_lt (pn_E_pos n))
    rw [pn_V_s]
    omega
theorem pn_V_lt (f : Nat → Int32) (n : Nat) : pn_V f n < pn_E n := by
  induction n with
  | zero => rw [pn_V_0, pn_E_0]; decide
  | succ n ih =>
    have h1 := pn_mul_le (a := pn_u (f n)) (b := 4294967295) (by have := pn_u_lt (f n); omega) (Int.le_of_lt (pn_E_pos n))
    rw [pn_V_s, pn_E_s]
    omega
theorem pn_V_congr {f g : Nat → Int32} {n : Nat} (h : ∀ i, i < n → f i = g i) : pn_V f n = pn_V g n := by
  induction n with
  | zero => rfl
  | succ n ih => rw [pn_V_s, pn_V_s, ih (fun i hi => h i (by omega)), h n (by omega)]
theorem pn_V_up {f : Nat → Int32} {k n : Nat} {x : Int32} (h : n ≤ k) : pn_V (upd f k x) n = pn_V f n := pn_V_congr (fun i hi => pk_un (by omega))
theorem pn_V_upS {f : Nat → Int32} {n : Nat} {x : Int32} : pn_V (upd f n x) (n + 1) = pn_V f n + pn_u x * pn_E n := by
  rw [pn_V_s, pn_V_up (Nat.le_refl n), pk_us]
theorem pn_V_in {f : Nat → Int32} {k n : Nat} {x : Int32} (h : k < n) : pn_V (upd f k x) n = pn_V f n + (pn_u x - pn_u (f k)) * pn_E k := by
  induction n with
  | zero => omega
  | succ n ih =>
    rcases Nat.lt_or_ge k n with h1 | h1
    · rw [pn_V_s, pn_V_s, ih h1, pk_un (show n ≠ k by omega)]
      omega
    · have e : k = n := by omega
      subst e
      rw [pn_V_upS, pn_V_s, Int.sub_mul]
      omega
theorem pn_V_more {f : Nat → Int32} {n m : Nat} (h : n ≤ m) (hz : ∀ i, n ≤ i → i < m → f i = 0) : pn_V f m = pn_V f n := by
  induction m with
  | zero => have e : n = 0 := by omega
            subst e; rfl
  | succ m ih =>
    rcases Nat.lt_or_ge m n with h1 | h1
    · have e : n = m + 1 := by omega
      subst e; rfl
    · rw [pn_V_s, hz m h1 (by omega), pn_u_0, ih h1 (fun i a b => hz i a (by omega))]
      omega
theorem pn_V_zero {f : Nat → Int32} {n : Nat} (hz : ∀ i, i < n → f i = 0) : pn_V f n = 0 := pn_V_more (Nat.zero_le n) (fun i _ h => hz i h)
theorem pn_V_add (f : Nat → Int32) (m n : Nat) : pn_V f (m + n) = pn_V f m + pn_E m * pn_V (fun i => f (m + i)) n := by
  induction n with
  | zero => rw [pn_V_0, Int.mul_zero, Int.add_zero]; rfl
  | succ n ih =>
    show pn_V f (m + n) + pn_u (f (m + n)) * pn_E (m + n) = _
    rw [pn_V_s, ih, pn_E_add, Int.mul_add]
    have e : pn_u (f (m + n)) * (pn_E m * pn_E n) = pn_E m * (pn_u (f (m + n)) * pn_E n) := by
      rw [← Int.mul_assoc, Int.mul_comm (pn_u _) (pn_E m), Int.mul_assoc]
    omega
/-- the count is the least that holds the number: the limb below it isn't 0 -/
def pn_nz (f : Nat → Int32) (n : Nat) : Prop := ∀ k, n = k + 1 → f k ≠ 0
theorem pn_nz_0 {f : Nat → Int32} : pn_nz f 0 := fun k h => by omega
theorem pn_nz_congr {f g : Nat → Int32} {n : Nat} (h : ∀ i, i < n → f i = g i) (hf : pn_nz f n) : pn_nz g n := fun k e => by rw [← h k (by omega)]; exact hf k e
theorem pn_V_low {f : Nat → Int32} {k : Nat} (h : pn_nz f (k + 1)) : pn_E k ≤ pn_V f (k + 1) := by
  have h1 := pn_V_nonneg f k
  have h2 := pn_mul_le (pn_u_pos (h k rfl)) (Int.le_of_lt (pn_E_pos k))
  rw [pn_V_s]
  omega
theorem pn_V_ne0 {f : Nat → Int32} {n : Nat} (h : pn_nz f n) : pn_V f n = 0 ↔ n = 0 := by
  refine ⟨fun e => ?_, fun e => by subst e; rfl⟩
  cases n with
  | zero => rfl
  | succ k =>
    have h1 := pn_V_low h
    have h2 := pn_E_pos k
    omega
/-- digits and what is below them, apart -/
theorem pn_apart {a b x y E : Int} (ha0 : 0 ≤ a) (ha : a < E) (hb0 : 0 ≤ b) (hb : b < E) (h : a + x * E = b + y * E) : x = y ∧ a = b := by
  have hE : 0 ≤ E := by omega
  have e : x = y := by
    rcases Int.lt_trichotomy x y with q | q | q
    · have h1 := pn_mul_le (show x + 1 ≤ y by omega) hE
      rw [Int.add_mul] at h1
      omega
    · exact q
    · have h1 := pn_mul_le (show y + 1 ≤ x by omega) hE
      rw [Int.add_mul] at h1
      omega
  subst e
  exact ⟨rfl, by omega⟩
theorem pn_V_inj {f g : Nat → Int32} {n : Nat} (h : pn_V f n = pn_V g n) : ∀ i, i < n → f i = g i := by
  induction n with
  | zero => intro i hi; omega
  | succ n ih =>
    rw [pn_V_s, pn_V_s] at h
    obtain ⟨h1, h2⟩ := pn_apart (pn_V_nonneg f n) (pn_V_lt f n) (pn_V_nonneg g n) (pn_V_lt g n) h
    intro i hi
    rcases Nat.lt_or_ge i n with q | q
    · exact ih h2 i q
    · have e : i = n := by omega
      subst e
      exact pn_u_inj h1
theorem pn_V_cnt {f g : Nat → Int32} {n m : Nat} (hf : pn_nz f n) (hg : pn_nz g m) (h : pn_V f n = pn_V g m) : n = m := by
  rcases Nat.lt_trichotomy n m with q | q | q
  · cases m with
    | zero => omega
    | succ m =>
      have h1 := pn_V_low hg
      have h2 := pn_V_lt f n
      have h3 := pn_E_mono (show n ≤ m by omega)
      omega
  · exact q
  · cases n with
    | zero => omega
    | succ n =>
      have h1 := pn_V_low hf
      have h2 := pn_V_lt g m
      have h3 := pn_E_mono (show m ≤ n by omega)
      omega
/-! sizes compared -/
theorem pn_V_fewer {f g : Nat → Int32} {n m : Nat} (hg : pn_nz g m) (h : n < m) : pn_V f n < pn_V g m := by
  cases m with
  | zero => omega
  | succ m =>
    have h1 := pn_V_low hg
    have h2 := pn_V_lt f n
    have h3 := pn_E_mono (show n ≤ m by omega)
    omega
theorem pn_V_above {f g : Nat → Int32} {k n : Nat} (hk : k ≤ n) (h : ∀ j, k ≤ j → j < n → f j = g j) : pn_V f n - pn_V g n = pn_V f k - pn_V g k := by
  induction n with
  | zero => have e : k = 0 := by omega
            subst e; rfl
  | succ n ih =>
    rcases Nat.lt_or_ge n k with q | q
    · have e : k = n + 1 := by omega
      subst e; rfl
    · rw [pn_V_s, pn_V_s, h n q (by omega)]
      have := ih q (fun j a b => h j a (by omega))
      omega
theorem pn_V_less {f g : Nat → Int32} {i : Nat} (h : pn_u (f i) < pn_u (g i)) : pn_V f (i + 1) < pn_V g (i + 1) := by
  have h1 := pn_V_lt f i
  have h2 := pn_V_nonneg g i
  have h3 := pn_mul_le (show pn_u (f i) + 1 ≤ pn_u (g i) by omega) (Int.le_of_lt (pn_E_pos i))
  rw [Int.add_mul] at h3
  rw [pn_V_s, pn_V_s]
  omega
/-- a digit of t goes out, what is above it is carried on -/
theorem pn_step (o c t E S : Int) (h : o + c * E = S) : o + t % 4294967296 * E + t / 4294967296 * (E * 4294967296) = S + (t - c) * E := by
  have e : t = t % 4294967296 + 4294967296 * (t / 4294967296) := by omega
  have e2 : t * E = t % 4294967296 * E + t / 4294967296 * (E * 4294967296) := by
    conv => lhs; rw [e]
    rw [Int.add_mul, Int.mul_comm 4294967296 (t / 4294967296), Int.mul_assoc, Int.mul_comm 4294967296 E]
  rw [Int.sub_mul]
  omega
/-! a product of two limbs -/
theorem pn_prod_le {x y : Int} (hx0 : 0 ≤ x) (hx : x ≤ 4294967295) (hy0 : 0 ≤ y) (hy : y ≤ 4294967295) : 0 ≤ x * y ∧ x * y ≤ 18446744065119617025 := by
  refine ⟨Int.mul_nonneg hx0 hy0, ?_⟩
  have h1 := pn_mul_le hx hy0
  omega
end
section
/-! long division: a limb of the quotient, guessed from three limbs of the dividend and two of the divisor -/
theorem pn_kn_test {q h l u2 u1 u0 r : Int} (hr : r = u2 * 4294967296 + u1 - q * h) : q * l ≤ r * 4294967296 + u0 ↔ q * (h * 4294967296 + l) ≤ (u2 * 4294967296 + u1) * 4294967296 + u0 := by
  have e : q * (h * 4294967296 + l) = q * h * 4294967296 + q * l := by grind
  rw [e]
  subst hr
  omega
theorem pn_kn_up {q h l u2 u1 u0 : Int} (hq : u2 * 4294967296 + u1 < (q + 1) * h) (hu : u0 < 4294967296) (hq0 : 0 ≤ q) (hl : 0 ≤ l) : (u2 * 4294967296 + u1) * 4294967296 + u0 < (q + 1) * (h * 4294967296 + l) := by
  have e : (q + 1) * (h * 4294967296 + l) = (q + 1) * h * 4294967296 + (q + 1) * l := by grind
  have h1 := pn_mul_nonneg (show 0 ≤ q + 1 by omega) hl
  rw [e]
  omega
/-- the first guess is too great by 2 at most -/
theorem pn_kn_two {q h l u2 u1 u0 : Int} (hh : 2147483648 ≤ h) (hl0 : 0 ≤ l) (hl : l ≤ 4294967295) (hq0 : 0 ≤ q) (hq : q ≤ 4294967295) (hqh : q * h ≤ u2 * 4294967296 + u1) (hu0 : 0 ≤ u0) :
    (q - 2) * (h * 4294967296 + l) ≤ (u2 * 4294967296 + u1) * 4294967296 + u0 := by
  have e : (q - 2) * (h * 4294967296 + l) = q * h * 4294967296 + q * l - 2 * (h * 4294967296 + l) := by grind
  have h1 := (pn_prod_le hq0 hq hl0 hl).2
  rw [e]
  omega
/-- a guess that is right for the highest limbs is right for the whole, or too great by 1 -/
theorem pn_kn_q {q U3 V2 E lo vlo : Int} (hE : 0 < E) (hlo0 : 0 ≤ lo) (hlo : lo < E) (hv0 : 0 ≤ vlo) (hv : vlo < E) (hV2 : 4294967296 ≤ V2) (h0 : 0 ≤ q) (h1 : q ≤ 4294967295) (h2 : q * V2 ≤ U3)
    (h3 : q = 4294967295 ∨ U3 < (q + 1) * V2) (hUV : U3 * E + lo < 4294967296 * (V2 * E + vlo)) :
    q * (V2 * E + vlo) ≤ (U3 * E + lo) + (V2 * E + vlo) ∧ U3 * E + lo < (q + 1) * (V2 * E + vlo) := by
  have a1 := pn_mul_le h2 (Int.le_of_lt hE)
  have a2 := pn_mul_le h1 hv0
  have a3 := pn_mul_le hV2 (Int.le_of_lt hE)
  have a4 := pn_mul_nonneg (show 0 ≤ q + 1 by omega) hv0
  have e1 : q * (V2 * E + vlo) = q * V2 * E + q * vlo := by grind
  have e2 : (q + 1) * (V2 * E + vlo) = (q + 1) * V2 * E + (q + 1) * vlo := by grind
  constructor
  · rw [e1]
    omega
  · rcases h3 with h3 | h3
    · rw [h3]
      omega
    · have a5 := pn_mul_le (show U3 + 1 ≤ (q + 1) * V2 by omega) (Int.le_of_lt hE)
      rw [Int.add_mul] at a5
      rw [e2]
      omega
/-- a step of the subtraction of a multiple -/
theorem pn_kn_take {o c t u E S b : Int} (h : o - c * E = S) (hb : b = 0 ∨ b = 1) : o + (u - t % 4294967296 + b * 4294967296) * E - (t / 4294967296 + b) * (E * 4294967296) = S + (u - (t - c)) * E := by
  have e : t = t % 4294967296 + 4294967296 * (t / 4294967296) := by omega
  generalize t % 4294967296 = r at *
  generalize t / 4294967296 = k at *
  subst e
  subst h
  grind
/-- the carry of that subtraction stays a limb -/
theorem pn_kn_carry {c f v u : Int} (hc0 : 0 ≤ c) (hc : c ≤ 4294967295) (hf0 : 0 ≤ f) (hf : f ≤ 4294967295) (hv0 : 0 ≤ v) (hv : v ≤ 4294967295) (hu0 : 0 ≤ u) {b : Int} (hb : b = if u - (c + f * v) % 4294967296 < 0 then 1 else 0) :
    0 ≤ (c + f * v) / 4294967296 + b ∧ (c + f * v) / 4294967296 + b ≤ 4294967295 := by
  have h1 := pn_prod_le hf0 hf hv0 hv
  generalize f * v = w at *
  subst hb
  split <;> omega
end
section
/-! greatest common divisors: steps that the leading bits foresee are Euclid's own -/
theorem pn_gcd_step (X Y q : Int) : Int.gcd Y (X - q * Y) = Int.gcd X Y := by
  rw [Int.gcd_sub_mul_right_right, Int.gcd_comm]
theorem pn_leh_core {s X Y L U l u q : Int} (hs : 0 < s) (hX1 : s * L ≤ X) (hX2 : X ≤ s * U) (hY1 : s * l ≤ Y) (hY2 : Y ≤ s * u) (hq0 : 0 ≤ q) (hq1 : q * u ≤ L) (hq2 : U < (q + 1) * l) : 0 ≤ X - q * Y ∧ X - q * Y < Y := by
  have a1 := pn_le_mul hY2 hq0
  have a2 := pn_le_mul hq1 (Int.le_of_lt hs)
  have a3 := pn_le_mul (show U + 1 ≤ (q + 1) * l by omega) (Int.le_of_lt hs)
  have a4 := pn_le_mul hY1 (show 0 ≤ q + 1 by omega)
  have e1 : q * (s * u) = s * (q * u) := by grind
  have e2 : (q + 1) * (s * l) = s * ((q + 1) * l) := by grind
  have e3 : (q + 1) * Y = q * Y + Y := by grind
  have e4 : s * (U + 1) = s * U + s := by grind
  omega
theorem pn_leh_bd {a b x0 y0 e g s : Int} (ha : 0 ≤ a) (hb : b ≤ 0) (he0 : 0 ≤ e) (he : e ≤ s) (hg0 : 0 ≤ g) (hg : g ≤ s) :
    s * (a * x0 + b * y0 + b) ≤ a * (s * x0 + e) + b * (s * y0 + g) ∧ a * (s * x0 + e) + b * (s * y0 + g) ≤ s * (a * x0 + b * y0 + a) := by
  have a1 := pn_mul_nonneg ha he0
  have a2 := pn_le_mul he ha
  have a3 := pn_mul_nonneg (show 0 ≤ -b by omega) hg0
  have a4 := pn_le_mul hg (show 0 ≤ -b by omega)
  have e1 : s * (a * x0 + b * y0 + b) = s * (a * x0 + b * y0) - -b * s := by grind
  have e2 : s * (a * x0 + b * y0 + a) = s * (a * x0 + b * y0) + a * s := by grind
  have e3 : a * (s * x0 + e) + b * (s * y0 + g) = s * (a * x0 + b * y0) + a * e - -b * g := by grind
  omega
/-- what holds of the four factors while steps are foreseen: x = s * x0 + e, y = s * y0 + g are the long numbers, x0, y0 their leading bits -/
def pn_lehS (a b c d : Int) : Prop := (0 ≤ a ∧ b ≤ 0 ∧ c ≤ 0 ∧ 0 ≤ d) ∨ (a ≤ 0 ∧ 0 ≤ b ∧ 0 ≤ c ∧ d ≤ 0)
def pn_lehI (x y x0 y0 xc yc a b c d : Int) : Prop :=
  xc = a * x0 + b * y0 ∧ yc = c * x0 + d * y0 ∧ pn_lehS a b c d ∧ 0 ≤ xc + a ∧ 0 ≤ xc + b ∧ 0 ≤ xc ∧ 0 ≤ yc ∧ 0 ≤ c * x + d * y ∧ Int.gcd (a * x + b * y) (c * x + d * y) = Int.gcd x y
/-- at least one of Euclid's steps has been made -/
def pn_lehM (x y a b c d : Int) : Prop := c * x + d * y < a * x + b * y ∧ a * x + b * y ≤ y ∧ 2 * ((a * x + b * y) * (c * x + d * y)) ≤ x * y
theorem pn_leh_q {xc yc a b c d q : Int} (hc : 0 < yc + c) (hd : 0 < yc + d) (ha : 0 ≤ xc + a) (hb : 0 ≤ xc + b) (h1 : q = (xc + a) / (yc + c)) (h2 : q = (xc + b) / (yc + d)) :
    0 ≤ q ∧ q * (yc + c) ≤ xc + a ∧ xc + a < (q + 1) * (yc + c) ∧ q * (yc + d) ≤ xc + b ∧ xc + b < (q + 1) * (yc + d) := by
  refine ⟨by rw [h1]; exact Int.ediv_nonneg ha (Int.le_of_lt hc), ?_, ?_, ?_, ?_⟩
  · rw [h1]; exact Int.ediv_mul_le _ (by omega)
  · rw [h1]; exact Int.lt_ediv_add_one_mul_self _ hc
  · rw [h2]; exact Int.ediv_mul_le _ (by omega)
  · rw [h2]; exact Int.lt_ediv_add_one_mul_self _ hd
/-- one step: the long numbers' own, in range, and the leading ones stay leading -/
theorem pn_leh_step {s x y e g x0 y0 xc yc a b c d q : Int} (hs : 0 < s) (hx : x = s * x0 + e) (hy : y = s * y0 + g) (he0 : 0 ≤ e) (he : e ≤ s) (hg0 : 0 ≤ g) (hg : g ≤ s)
    (I : pn_lehI x y x0 y0 xc yc a b c d) (hc : 0 < yc + c) (hd : 0 < yc + d) (h1 : q = (xc + a) / (yc + c)) (h2 : q = (xc + b) / (yc + d)) :
    pn_lehI x y x0 y0 yc (xc - q * yc) c d (a - q * c) (b - q * d) ∧ (a - q * c) * x + (b - q * d) * y < c * x + d * y ∧ xc - q * yc < yc ∧ 0 ≤ q := by
  obtain ⟨ex, ey, hS, ha, hb, hx0, hy0, hY, hG⟩ := I
  obtain ⟨hq0, q1, q2, q3, q4⟩ := pn_leh_q hc hd ha hb h1 h2
  have k1 : (a - q * c) * x + (b - q * d) * y = a * x + b * y - q * (c * x + d * y) := by grind
  have core : 0 ≤ a * x + b * y - q * (c * x + d * y) ∧ a * x + b * y - q * (c * x + d * y) < c * x + d * y := by
    rcases hS with ⟨s1, s2, s3, s4⟩ | ⟨s1, s2, s3, s4⟩
    · have b1 := pn_leh_bd (x0 := x0) (y0 := y0) s1 s2 he0 he hg0 hg
      have b2 := pn_leh_bd (x0 := y0) (y0 := x0) s4 s3 hg0 hg he0 he
      rw [← hx, ← hy, ← ex] at b1
      rw [← hx, ← hy, Int.add_comm (d * y0) (c * x0), ← ey, Int.add_comm (d * y) (c * x)] at b2
      exact pn_leh_core hs b1.1 b1.2 b2.1 b2.2 hq0 q3 q2
    · have b1 := pn_leh_bd (x0 := y0) (y0 := x0) s2 s1 hg0 hg he0 he
      have b2 := pn_leh_bd (x0 := x0) (y0 := y0) s3 s4 he0 he hg0 hg
      rw [← hx, ← hy, Int.add_comm (b * y0) (a * x0), ← ex, Int.add_comm (b * y) (a * x)] at b1
      rw [← hx, ← hy, ← ey] at b2
      exact pn_leh_core hs b1.1 b1.2 b2.1 b2.2 hq0 q1 q4
  have m1 := pn_mul_nonneg hq0 (show 0 ≤ (if 0 ≤ c then c else -c) by split <;> omega)
  have m2 := pn_mul_nonneg hq0 (show 0 ≤ (if 0 ≤ d then d else -d) by split <;> omega)
  have p1 : q * (yc + c) = q * yc + q * c := Int.mul_add _ _ _
  have p2 : (q + 1) * (yc + c) = q * yc + q * c + yc + c := by grind
  have p3 : q * (yc + d) = q * yc + q * d := Int.mul_add _ _ _
  have p4 : (q + 1) * (yc + d) = q * yc + q * d + yc + d := by grind
  have sg : (c ≤ 0 → q * c ≤ 0) ∧ (0 ≤ c → 0 ≤ q * c) ∧ (d ≤ 0 → q * d ≤ 0) ∧ (0 ≤ d → 0 ≤ q * d) := by
    refine ⟨fun h => ?_, fun h => pn_mul_nonneg hq0 h, fun h => ?_, fun h => pn_mul_nonneg hq0 h⟩
    · have := pn_mul_nonneg hq0 (show 0 ≤ -c by omega)
      rw [Int.mul_neg] at this
      omega
    · have := pn_mul_nonneg hq0 (show 0 ≤ -d by omega)
      rw [Int.mul_neg] at this
      omega
  refine ⟨⟨ey, by rw [ex, ey]; grind, ?_, by omega, by omega, hy0, ?_, by rw [k1]; exact core.1, by rw [k1, pn_gcd_step]; exact hG⟩, by rw [k1]; exact core.2, ?_, hq0⟩
  · rcases hS with ⟨s1, s2, s3, s4⟩ | ⟨s1, s2, s3, s4⟩
    · have := sg.1 s3
      have := sg.2.2.2 s4
      exact Or.inr ⟨s3, s4, by omega, by omega⟩
    · have := sg.2.1 s3
      have := sg.2.2.1 s4
      exact Or.inl ⟨s3, s4, by omega, by omega⟩
  · rcases hS with ⟨s1, s2, s3, s4⟩ | ⟨s1, s2, s3, s4⟩
    · have := sg.1 s3
      have := sg.2.2.2 s4
      omega
    · have := sg.2.1 s3
      have := sg.2.2.1 s4
      omega
  · rcases hS with ⟨s1, s2, s3, s4⟩ | ⟨s1, s2, s3, s4⟩
    · have := sg.1 s3
      have := sg.2.2.2 s4
      omega
    · have := sg.2.1 s3
      have := sg.2.2.1 s4
      omega
/-- the product of both falls by half with Euclid's step -/
theorem pn_half {X Y r q : Int} (hY : 0 ≤ Y) (hXY : Y ≤ X) (hr : r = X - q * Y) (h0 : 0 ≤ r) (h1 : r < Y) : 2 * (Y * r) ≤ X * Y := by
  have hq : 1 ≤ q := by
    rcases (show q < 1 ∨ 1 ≤ q by omega) with z | z
    · have := pn_mul_le (show q ≤ 0 by omega) hY
      omega
    · exact z
  have h2 := pn_mul_le hq hY
  have h3 : 2 * r ≤ X := by omega
  have h4 := pn_mul_le h3 hY
  have e : 2 * r * Y = 2 * (Y * r) := by grind
  omega
end
section
/-! the kit's one-instruction rows for numbers that are known as whole numbers: ints nI n (n a natural), longs pn_L z (z whole) -/
section PnRows
variable {p : Program} {l : Launch} {e : Env} {R : Room} {s : State} {m : MethodId} {args : Array Value} {below : List Frame} {meth : Method} {c : Code} {H : Heap} {locs : List Loc} {cells slots : Nat} {Q : State → Prop}
variable {cc : ByteArray} {pc : Nat} {ls : Array Slot} {rest : List Value}
theorem pw_ladd (hexec : p.tables.exec = Jvm.exec) (hb : c.code = cc) {a b : Int} (hdg : decode cc pc = .ok (.ladd, 1)) 
    (k : W p l e R s m args below meth c H locs cells slots Q (F0 m (pc + 1) ls (.long (pn_L (a + b)) :: rest))) : W p l e R s m args below meth c H locs cells slots Q (F0 m pc ls (.long (pn_L b) :: .long (pn_L a) :: rest)) := lv_ladd hexec hb hdg (by rw [pn_L_add]; exact k)
theorem pw_lsub (hexec : p.tables.exec = Jvm.exec) (hb : c.code = cc) {a b : Int} (hdg : decode cc pc = .ok (.lsub, 1)) 
    (k : W p l e R s m args below meth c H locs cells slots Q (F0 m (pc + 1) ls (.long (pn_L (a - b)) :: rest))) : W p l e R s m args below meth c H locs cells slots Q (F0 m pc ls (.long (pn_L b) :: .long (pn_L a) :: rest)) := lv_lsub hexec hb hdg (by rw [pn_L_sub]; exact k)
theorem pw_lmul (hexec : p.tables.exec = Jvm.exec) (hb : c.code = cc) {a b : Int} (hdg : decode cc pc = .ok (.lmul, 1)) 
    (k : W p l e R s m args below meth c H locs cells slots Q (F0 m (pc + 1) ls (.long (pn_L (a * b)) :: rest))) : W p l e R s m args below meth c H locs cells slots Q (F0 m pc ls (.long (pn_L b) :: .long (pn_L a) :: rest)) := lv_lmul hexec hb hdg (by rw [pn_L_mul]; exact k)
theorem pw_lneg (hexec : p.tables.exec = Jvm.exec) (hb : c.code = cc) {a : Int} (hdg : decode cc pc = .ok (.lneg, 1)) 
    (k : W p l e R s m args below meth c H locs cells slots Q (F0 m (pc + 1) ls (.long (pn_L (-a)) :: rest))) : W p l e R s m args below meth c H locs cells slots Q (F0 m pc ls (.long (pn_L a) :: rest)) := lv_lneg hexec hb hdg (by rw [pn_L_neg]; exact k)
theorem pw_lmask (hexec : p.tables.exec = Jvm.exec) (hb : c.code = cc) {a : Int} (hdg : decode cc pc = .ok (.land, 1)) 
    (k : W p l e R s m args below meth c H locs cells slots Q (F0 m (pc + 1) ls (.long (pn_L (a % 4294967296)) :: rest))) : W p l e R s m args below meth c H locs cells slots Q (F0 m pc ls (.long 4294967295 :: .long (pn_L a) :: rest)) := lv_land hexec hb hdg (by rw [pn_L_mask]; exact k)
theorem pw_limb (hexec : p.tables.exec = Jvm.exec) (hb : c.code = cc) {x : Int32} (hdg : decode cc pc = .ok (.land, 1)) 
    (k : W p l e R s m args below meth c H locs cells slots Q (F0 m (pc + 1) ls (.long (pn_L (pn_u x)) :: rest))) : W p l e R s m args below meth c H locs cells slots Q (F0 m pc ls (.long 4294967295 :: .long x.toInt64 :: rest)) := lv_land hexec hb hdg (by rw [pn_limb]; exact k)
theorem pw_i2l (hexec : p.tables.exec = Jvm.exec) (hb : c.code = cc) {x : Int32} (hdg : decode cc pc = .ok (.i2l, 1)) 
    (k : W p l e R s m args below meth c H locs cells slots Q (F0 m (pc + 1) ls (.long x.toInt64 :: rest))) : W p l e R s m args below meth c H locs cells slots Q (F0 m pc ls (.int x :: rest)) := lv_i2l hexec hb hdg rfl k
theorem pw_l2i (hexec : p.tables.exec = Jvm.exec) (hb : c.code = cc) {a : Int} (hdg : decode cc pc = .ok (.l2i, 1)) 
    (k : W p l e R s m args below meth c H locs cells slots Q (F0 m (pc + 1) ls (.int (pn_I a) :: rest))) : W p l e R s m args below meth c H locs cells slots Q (F0 m pc ls (.long (pn_L a) :: rest)) := lv_l2i hexec hb hdg (pn_L_i a) k
theorem pw_lushr32 (hexec : p.tables.exec = Jvm.exec) (hb : c.code = cc) {a : Int} (hdg : decode cc pc = .ok (.lushr, 1)) (h0 : 0 ≤ a) (h1 : a < 18446744073709551616)
    (k : W p l e R s m args below meth c H locs cells slots Q (F0 m (pc + 1) ls (.long (pn_L (a / 4294967296)) :: rest))) : W p l e R s m args below meth c H locs cells slots Q (F0 m pc ls (.int 32 :: .long (pn_L a) :: rest)) := lv_lushr hexec hb hdg (pn_L_ushr32 h0 h1) k
theorem pw_lshr32 (hexec : p.tables.exec = Jvm.exec) (hb : c.code = cc) {a : Int} (hdg : decode cc pc = .ok (.lshr, 1)) (h0 : -9223372036854775808 ≤ a) (h1 : a < 9223372036854775808)
    (k : W p l e R s m args below meth c H locs cells slots Q (F0 m (pc + 1) ls (.long (pn_L (a / 4294967296)) :: rest))) : W p l e R s m args below meth c H locs cells slots Q (F0 m pc ls (.int 32 :: .long (pn_L a) :: rest)) := lv_lshr hexec hb hdg (pn_L_shr32 h0 h1) k
theorem pw_lushr (hexec : p.tables.exec = Jvm.exec) (hb : c.code = cc) {a : Int} (hdg : decode cc pc = .ok (.lushr, 1)) (h0 : 0 ≤ a) (h1 : a < 18446744073709551616) (j : Nat) (hj : j < 64)
    (k : W p l e R s m args below meth c H locs cells slots Q (F0 m (pc + 1) ls (.long (pn_L (a / 2 ^ j)) :: rest))) : W p l e R s m args below meth c H locs cells slots Q (F0 m pc ls (.int (nI j) :: .long (pn_L a) :: rest)) := lv_lushr hexec hb hdg (pn_L_ushr h0 h1 _ j hj rfl) k
theorem pw_lshl32 (hexec : p.tables.exec = Jvm.exec) (hb : c.code = cc) {a : Int} (hdg : decode cc pc = .ok (.lshl, 1)) 
    (k : W p l e R s m args below meth c H locs cells slots Q (F0 m (pc + 1) ls (.long (pn_L (a * 4294967296)) :: rest))) : W p l e R s m args below meth c H locs cells slots Q (F0 m pc ls (.int 32 :: .long (pn_L a) :: rest)) := lv_lshl hexec hb hdg (pn_L_shl a 32 32 (by decide) (by decide)) k
theorem pw_lshl (hexec : p.tables.exec = Jvm.exec) (hb : c.code = cc) {a : Int} (hdg : decode cc pc = .ok (.lshl, 1)) (j : Nat) (hj : j < 64)
    (k : W p l e R s m args below meth c H locs cells slots Q (F0 m (pc + 1) ls (.long (pn_L (a * 2 ^ j)) :: rest))) : W p l e R s m args below meth c H locs cells slots Q (F0 m pc ls (.int (nI j) :: .long (pn_L a) :: rest)) := lv_lshl hexec hb hdg (pn_L_shl a _ j hj rfl) k
theorem pw_lor (hexec : p.tables.exec = Jvm.exec) (hb : c.code = cc) {a b : Int} (hdg : decode cc pc = .ok (.lor, 1)) (ha0 : 0 ≤ a) (ha : a < 4294967296) (hb0 : 0 ≤ b) (hb1 : b < 4294967296)
    (k : W p l e R s m args below meth c H locs cells slots Q (F0 m (pc + 1) ls (.long (pn_L (a * 4294967296 + b)) :: rest))) : W p l e R s m args below meth c H locs cells slots Q (F0 m pc ls (.long (pn_L b) :: .long (pn_L (a * 4294967296)) :: rest)) := lv_lor hexec hb hdg (by rw [pn_L_or ha0 ha hb0 hb1]; exact k)
theorem pw_ldiv (hexec : p.tables.exec = Jvm.exec) (hb : c.code = cc) {a b : Int} (hdg : decode cc pc = .ok (.ldiv, 1)) (ha0 : 0 ≤ a) (ha : a < 9223372036854775808) (hb0 : 0 < b) (hb1 : b < 9223372036854775808)
    (k : W p l e R s m args below meth c H locs cells slots Q (F0 m (pc + 1) ls (.long (pn_L (a / b)) :: rest))) : W p l e R s m args below meth c H locs cells slots Q (F0 m pc ls (.long (pn_L b) :: .long (pn_L a) :: rest)) := lv_ldiv hexec hb hdg (fun z => by have := (pn_L_eq (a := b) (b := 0) (by omega) hb1 (by omega) (by omega)).mp z; omega) (by rw [pn_L_div ha0 ha hb0 hb1]; exact k)
theorem pw_iadd (hexec : p.tables.exec = Jvm.exec) (hb : c.code = cc) {a b : Nat} (hdg : decode cc pc = .ok (.iadd, 1)) 
    (k : W p l e R s m args below meth c H locs cells slots Q (F0 m (pc + 1) ls (.int (nI (a + b)) :: rest))) : W p l e R s m args below meth c H locs cells slots Q (F0 m pc ls (.int (nI b) :: .int (nI a) :: rest)) := lv_iadd hexec hb hdg (by rw [nI_add]; exact k)
theorem pw_iadd1 (hexec : p.tables.exec = Jvm.exec) (hb : c.code = cc) {a : Nat} (hdg : decode cc pc = .ok (.iadd, 1)) 
    (k : W p l e R s m args below meth c H locs cells slots Q (F0 m (pc + 1) ls (.int (nI (a + 1)) :: rest))) : W p l e R s m args below meth c H locs cells slots Q (F0 m pc ls (.int 1 :: .int (nI a) :: rest)) := lv_iadd hexec hb hdg (by rw [nI_1]; exact k)
theorem pw_isub (hexec : p.tables.exec = Jvm.exec) (hb : c.code = cc) {a b : Nat} (hdg : decode cc pc = .ok (.isub, 1)) (h : b ≤ a)
    (k : W p l e R s m args below meth c H locs cells slots Q (F0 m (pc + 1) ls (.int (nI (a - b)) :: rest))) : W p l e R s m args below meth c H locs cells slots Q (F0 m pc ls (.int (nI b) :: .int (nI a) :: rest)) := lv_isub hexec hb hdg (by rw [pk_sub h]; exact k)
theorem pw_isub1 (hexec : p.tables.exec = Jvm.exec) (hb : c.code = cc) {a : Nat} (hdg : decode cc pc = .ok (.isub, 1)) 
    (k : W p l e R s m args below meth c H locs cells slots Q (F0 m (pc + 1) ls (.int (nI a) :: rest))) : W p l e R s m args below meth c H locs cells slots Q (F0 m pc ls (.int 1 :: .int (nI (a + 1)) :: rest)) := lv_isub hexec hb hdg (by rw [nI_pred]; exact k)
theorem pw_icmp_eq (hexec : p.tables.exec = Jvm.exec) (hb : c.code = cc) {a b : Nat} {off : Int} {tgt : Nat} (hdg : decode cc pc = .ok (.if_icmp .eq off, 3)) (ht : (pc : Int) + off = (tgt : Int)) (ha : a < 2 ^ 31) (hb1 : b < 2 ^ 31)
    (kt : a = b → W p l e R s m args below meth c H locs cells slots Q (F0 m tgt ls rest)) (kf : ¬ a = b → W p l e R s m args below meth c H locs cells slots Q (F0 m (pc + 3) ls rest)) : W p l e R s m args below meth c H locs cells slots Q (F0 m pc ls (.int (nI b) :: .int (nI a) :: rest)) := lv_icmp_eq hexec hb hdg ht (fun z => kt ((nI_eq ha hb1).mp z)) (fun z => kf (fun y => z ((nI_eq ha hb1).mpr y)))
theorem pw_icmp_ne (hexec : p.tables.exec = Jvm.exec) (hb : c.code = cc) {a b : Nat} {off : Int} {tgt : Nat} (hdg : decode cc pc = .ok (.if_icmp .ne off, 3)) (ht : (pc : Int) + off = (tgt : Int)) (ha : a < 2 ^ 31) (hb1 : b < 2 ^ 31)
    (kt : ¬ a = b → W p l e R s m args below meth c H locs cells slots Q (F0 m tgt ls rest)) (kf : a = b → W p l e R s m args below meth c H locs cells slots Q (F0 m (pc + 3) ls rest)) : W p l e R s m args below meth c H locs cells slots Q (F0 m pc ls (.int (nI b) :: .int (nI a) :: rest)) := lv_icmp_ne hexec hb hdg ht (fun z => kt (fun y => z ((nI_eq ha hb1).mpr y))) (fun z => kf ((nI_eq ha hb1).mp z))
theorem pw_icmp_lt (hexec : p.tables.exec = Jvm.exec) (hb : c.code = cc) {a b : Nat} {off : Int} {tgt : Nat} (hdg : decode cc pc = .ok (.if_icmp .lt off, 3)) (ht : (pc : Int) + off = (tgt : Int)) (ha : a < 2 ^ 31) (hb1 : b < 2 ^ 31)
    (kt : a < b → W p l e R s m args below meth c H locs cells slots Q (F0 m tgt ls rest)) (kf : b ≤ a → W p l e R s m args below meth c H locs cells slots Q (F0 m (pc + 3) ls rest)) : W p l e R s m args below meth c H locs cells slots Q (F0 m pc ls (.int (nI b) :: .int (nI a) :: rest)) := lv_icmp_lt hexec hb hdg ht (fun z => kt ((nI_ltI ha hb1).mp z)) (fun z => kf (Nat.not_lt.mp (fun y => z ((nI_ltI ha hb1).mpr y))))
theorem pw_icmp_ge (hexec : p.tables.exec = Jvm.exec) (hb : c.code = cc) {a b : Nat} {off : Int} {tgt : Nat} (hdg : decode cc pc = .ok (.if_icmp .ge off, 3)) (ht : (pc : Int) + off = (tgt : Int)) (ha : a < 2 ^ 31) (hb1 : b < 2 ^ 31)
    (kt : b ≤ a → W p l e R s m args below meth c H locs cells slots Q (F0 m tgt ls rest)) (kf : a < b → W p l e R s m args below meth c H locs cells slots Q (F0 m (pc + 3) ls rest)) : W p l e R s m args below meth c H locs cells slots Q (F0 m pc ls (.int (nI b) :: .int (nI a) :: rest)) := lv_icmp_ge hexec hb hdg ht (fun z => kt ((nI_leI hb1 ha).mp z)) (fun z => kf (Nat.not_le.mp (fun y => z ((nI_leI hb1 ha).mpr y))))
theorem pw_icmp_gt (hexec : p.tables.exec = Jvm.exec) (hb : c.code = cc) {a b : Nat} {off : Int} {tgt : Nat} (hdg : decode cc pc = .ok (.if_icmp .gt off, 3)) (ht : (pc : Int) + off = (tgt : Int)) (ha : a < 2 ^ 31) (hb1 : b < 2 ^ 31)
    (kt : b < a → W p l e R s m args below meth c H locs cells slots Q (F0 m tgt ls rest)) (kf : a ≤ b → W p l e R s m args below meth c H locs cells slots Q (F0 m (pc + 3) ls rest)) : W p l e R s m args below meth c H locs cells slots Q (F0 m pc ls (.int (nI b) :: .int (nI a) :: rest)) := lv_icmp_gt hexec hb hdg ht (fun z => kt ((nI_ltI hb1 ha).mp z)) (fun z => kf (Nat.not_lt.mp (fun y => z ((nI_ltI hb1 ha).mpr y))))
theorem pw_icmp_le (hexec : p.tables.exec = Jvm.exec) (hb : c.code = cc) {a b : Nat} {off : Int} {tgt : Nat} (hdg : decode cc pc = .ok (.if_icmp .le off, 3)) (ht : (pc : Int) + off = (tgt : Int)) (ha : a < 2 ^ 31) (hb1 : b < 2 ^ 31)
    (kt : a ≤ b → W p l e R s m args below meth c H locs cells slots Q (F0 m tgt ls rest)) (kf : b < a → W p l e R s m args below meth c H locs cells slots Q (F0 m (pc + 3) ls rest)) : W p l e R s m args below meth c H locs cells slots Q (F0 m pc ls (.int (nI b) :: .int (nI a) :: rest)) := lv_icmp_le hexec hb hdg ht (fun z => kt ((nI_leI ha hb1).mp z)) (fun z => kf (Nat.not_le.mp (fun y => z ((nI_leI ha hb1).mpr y))))
theorem pw_if_eq (hexec : p.tables.exec = Jvm.exec) (hb : c.code = cc) {a : Nat} {off : Int} {tgt : Nat} (hdg : decode cc pc = .ok (.ifCond .eq off, 3)) (ht : (pc : Int) + off = (tgt : Int)) (ha : a < 2 ^ 31)
    (kt : a = 0 → W p l e R s m args below meth c H locs cells slots Q (F0 m tgt ls rest)) (kf : ¬ a = 0 → W p l e R s m args below meth c H locs cells slots Q (F0 m (pc + 3) ls rest)) : W p l e R s m args below meth c H locs cells slots Q (F0 m pc ls (.int (nI a) :: rest)) := lv_if_eq hexec hb hdg ht (fun z => kt ((nI_eq ha (by decide : (0:Nat) < 2 ^ 31)).mp (z.trans nI_0.symm))) (fun z => kf (fun y => z (by rw [y]; exact nI_0)))
theorem pw_if_ne (hexec : p.tables.exec = Jvm.exec) (hb : c.code = cc) {a : Nat} {off : Int} {tgt : Nat} (hdg : decode cc pc = .ok (.ifCond .ne off, 3)) (ht : (pc : Int) + off = (tgt : Int)) (ha : a < 2 ^ 31)
    (kt : ¬ a = 0 → W p l e R s m args below meth c H locs cells slots Q (F0 m tgt ls rest)) (kf : a = 0 → W p l e R s m args below meth c H locs cells slots Q (F0 m (pc + 3) ls rest)) : W p l e R s m args below meth c H locs cells slots Q (F0 m pc ls (.int (nI a) :: rest)) := lv_if_ne hexec hb hdg ht (fun z => kt (fun y => z (by rw [y]; exact nI_0))) (fun z => kf ((nI_eq ha (by decide : (0:Nat) < 2 ^ 31)).mp (z.trans nI_0.symm)))
theorem pw_if_lt (hexec : p.tables.exec = Jvm.exec) (hb : c.code = cc) {a : Nat} {off : Int} {tgt : Nat} (hdg : decode cc pc = .ok (.ifCond .lt off, 3)) (ht : (pc : Int) + off = (tgt : Int)) (ha : a < 2 ^ 31)
    (kt : False → W p l e R s m args below meth c H locs cells slots Q (F0 m tgt ls rest)) (kf : 0 ≤ a → W p l e R s m args below meth c H locs cells slots Q (F0 m (pc + 3) ls rest)) : W p l e R s m args below meth c H locs cells slots Q (F0 m pc ls (.int (nI a) :: rest)) := lv_if_lt hexec hb hdg ht (fun z => kt (nI_pos ha z)) (fun _ => kf (Nat.zero_le a))
theorem pw_if_ge (hexec : p.tables.exec = Jvm.exec) (hb : c.code = cc) {a : Nat} {off : Int} {tgt : Nat} (hdg : decode cc pc = .ok (.ifCond .ge off, 3)) (ht : (pc : Int) + off = (tgt : Int)) (ha : a < 2 ^ 31)
    (kt : 0 ≤ a → W p l e R s m args below meth c H locs cells slots Q (F0 m tgt ls rest)) (kf : False → W p l e R s m args below meth c H locs cells slots Q (F0 m (pc + 3) ls rest)) : W p l e R s m args below meth c H locs cells slots Q (F0 m pc ls (.int (nI a) :: rest)) := lv_if_ge hexec hb hdg ht (fun _ => kt (Nat.zero_le a)) (fun z => kf (z (nI_pos' ha)))
theorem pw_if_gt (hexec : p.tables.exec = Jvm.exec) (hb : c.code = cc) {a : Nat} {off : Int} {tgt : Nat} (hdg : decode cc pc = .ok (.ifCond .gt off, 3)) (ht : (pc : Int) + off = (tgt : Int)) (ha : a < 2 ^ 31)
    (kt : 0 < a → W p l e R s m args below meth c H locs cells slots Q (F0 m tgt ls rest)) (kf : a = 0 → W p l e R s m args below meth c H locs cells slots Q (F0 m (pc + 3) ls rest)) : W p l e R s m args below meth c H locs cells slots Q (F0 m pc ls (.int (nI a) :: rest)) := lv_if_gt hexec hb hdg ht (fun z => kt (Nat.pos_of_ne_zero (fun y => absurd z (by rw [y]; decide)))) (fun z => kf (Nat.eq_zero_of_not_pos (fun y => z (by rw [← nI_0]; exact nI_lt y ha))))
theorem pw_if_le (hexec : p.tables.exec = Jvm.exec) (hb : c.code = cc) {a : Nat} {off : Int} {tgt : Nat} (hdg : decode cc pc = .ok (.ifCond .le off, 3)) (ht : (pc : Int) + off = (tgt : Int)) (ha : a < 2 ^ 31)
    (kt : a = 0 → W p l e R s m args below meth c H locs cells slots Q (F0 m tgt ls rest)) (kf : 0 < a → W p l e R s m args below meth c H locs cells slots Q (F0 m (pc + 3) ls rest)) : W p l e R s m args below meth c H locs cells slots Q (F0 m pc ls (.int (nI a) :: rest)) := lv_if_le hexec hb hdg ht (fun z => kt (Nat.eq_zero_of_not_pos (fun y => nI_nle y ha z))) (fun z => kf (Nat.pos_of_ne_zero (fun y => z (by rw [y]; decide))))
end PnRows
end
section
/-! one turn of the loops over limbs -/
theorem pn_put {o : Nat → Int32} {i : Nat} {c t S : Int} (h : pn_V o i + c * pn_E i = S) : pn_V (upd o i (pn_I t)) (i + 1) + t / 4294967296 * pn_E (i + 1) = S + (t - c) * pn_E i := by
  rw [pn_V_upS, pn_u_I, pn_E_s]
  exact pn_step _ _ _ _ _ h
/-- a row read as if 0s stood behind its last limb -/
def pn_cut (f : Nat → Int32) (n : Nat) : Nat → Int32 := fun k => if k < n then f k else 0
theorem pn_cut_lt {f : Nat → Int32} {n k : Nat} (h : k < n) : pn_cut f n k = f k := if_pos h
theorem pn_cut_ge {f : Nat → Int32} {n k : Nat} (h : n ≤ k) : pn_cut f n k = 0 := if_neg (by omega)
theorem pn_V_cut {f : Nat → Int32} {n m : Nat} (h : n ≤ m) : pn_V (pn_cut f n) m = pn_V f n := by
  rw [pn_V_more h (fun i h1 _ => pn_cut_ge h1)]
  exact pn_V_congr (fun i hi => pn_cut_lt hi)
theorem pn_V_cutL {f : Nat → Int32} {n m : Nat} (h : m ≤ n) : pn_V (pn_cut f n) m = pn_V f m := pn_V_congr (fun i hi => pn_cut_lt (by omega))
/-! length in bits -/
def pn_len (v : Int) : Nat := if v = 0 then 0 else v.toNat.log2 + 1
theorem pn_len_0 : pn_len 0 = 0 := rfl
theorem pn_two (L : Nat) : ((2 : Int) ^ L) = ((2 ^ L : Nat) : Int) := by rw [Int.natCast_pow]; rfl
theorem pn_len_le {v : Int} (h : 0 ≤ v) (L : Nat) : pn_len v ≤ L ↔ v < 2 ^ L := by
  obtain ⟨n, rfl⟩ := Int.eq_ofNat_of_zero_le h
  have e : ((n : Int) < 2 ^ L) ↔ n < 2 ^ L := by
    rw [pn_two]
    omega
  rw [e]
  unfold pn_len
  split
  · have h0 : n = 0 := by omega
    subst h0
    exact ⟨fun _ => Nat.two_pow_pos L, fun _ => Nat.zero_le L⟩
  · rw [Int.toNat_natCast, Nat.add_one_le_iff, Nat.log2_lt (by omega)]
theorem pn_len_lt {v : Int} (h : 0 ≤ v) (L : Nat) : L < pn_len v ↔ 2 ^ L ≤ v := by
  have := pn_len_le h L
  omega
theorem pn_len_mono {v w : Int} (h : 0 ≤ v) (hw : v ≤ w) : pn_len v ≤ pn_len w := by
  rw [pn_len_le h]
  have := (pn_len_le (show 0 ≤ w by omega) (pn_len w)).mp (Nat.le_refl _)
  omega
theorem pn_len_is {v : Int} {L : Nat} (h : 0 ≤ v) (h1 : 2 ^ L ≤ v) (h2 : v < 2 ^ (L + 1)) : pn_len v = L + 1 := by
  have a := (pn_len_le h (L + 1)).mpr h2
  have b := (pn_len_lt h L).mpr h1
  omega
theorem pn_len_eq0 {v : Int} (h : 0 ≤ v) : pn_len v = 0 ↔ v = 0 := by
  have := pn_len_le h 0
  have e : (2 : Int) ^ 0 = 1 := rfl
  rw [e] at this
  omega
theorem pn_E_two (k : Nat) : pn_E k = 2 ^ (32 * k) := by
  rw [Int.pow_mul]
  rfl
/-- the length out of the highest limb -/
theorem pn_len_V {f : Nat → Int32} {k : Nat} (h : pn_nz f (k + 1)) : pn_len (pn_V f (k + 1)) = 32 * k + pn_len (pn_u (f k)) := by
  have hu := pn_u_nonneg (f k)
  have hp := pn_u_pos (h k rfl)
  obtain ⟨j, hj⟩ : ∃ j, pn_len (pn_u (f k)) = j + 1 := by
    have := (pn_len_eq0 hu)
    exact ⟨pn_len (pn_u (f k)) - 1, by omega⟩
  have a1 := (pn_len_le hu (j + 1)).mp (by omega)
  have a2 := (pn_len_lt hu j).mp (by omega)
  have hE := Int.le_of_lt (pn_E_pos k)
  have b1 := pn_mul_le (show pn_u (f k) + 1 ≤ 2 ^ (j + 1) by omega) hE
  have b2 := pn_mul_le a2 hE
  rw [Int.add_mul] at b1
  have c1 := pn_V_lt f k
  have c2 := pn_V_nonneg f k
  rw [hj]
  refine pn_len_is (L := 32 * k + j) (pn_V_nonneg _ _) ?_ ?_
  · rw [Int.pow_add, ← pn_E_two, pn_V_s, Int.mul_comm]
    omega
  · rw [show 32 * k + j + 1 = 32 * k + (j + 1) by omega, Int.pow_add, ← pn_E_two, pn_V_s, Int.mul_comm (pn_E k)]
    omega
theorem pn_len_u (x : Int32) : pn_len (pn_u x) ≤ 32 := (pn_len_le (pn_u_nonneg x) 32).mpr (pn_u_lt x)
/-! dividing a number by one limb, from its highest limb down: g is f with its limbs from i on replaced by the quotient's -/
theorem pn_shrink {f g : Nat → Int32} {n i : Nat} {d left q left2 : Int} (hin : i < n) (hlow : ∀ j, j ≤ i → g j = f j) (h : (pn_V g n - pn_V f (i + 1)) * d + left * pn_E (i + 1) = pn_V f n - pn_V f (i + 1))
    (hq0 : 0 ≤ q) (hq : q < 4294967296) (hd : q * d + left2 = left * 4294967296 + pn_u (f i)) : (pn_V (upd g i (pn_I q)) n - pn_V f i) * d + left2 * pn_E i = pn_V f n - pn_V f i := by
  rw [pn_V_in hin, pn_u_Ilt hq0 hq, hlow i (Nat.le_refl i)]
  rw [pn_V_s, pn_E_s] at h
  have e : left2 = left * 4294967296 + pn_u (f i) - q * d := by omega
  subst e
  grind
/-! multiples -/
theorem pn_multiple {o b : Nat → Int32} {o0 : Nat → Int32} {at_ i : Nat} {c f t : Int} (h : pn_V o (at_ + i) + c * pn_E (at_ + i) = pn_V o0 (at_ + i) + f * pn_V b i * pn_E at_)
    (ht : t = c + (f * pn_u (b i) + pn_u (o0 (at_ + i)))) : pn_V (upd o (at_ + i) (pn_I t)) (at_ + i + 1) + t / 4294967296 * pn_E (at_ + i + 1) = pn_V o0 (at_ + i + 1) + f * pn_V b (i + 1) * pn_E at_ := by
  rw [pn_put h, pn_V_s, pn_V_s, pn_E_add, ht]
  grind
end
section
/-! a stretch of a row, from one place on -/
def pn_sh (f : Nat → Int32) (a : Nat) : Nat → Int32 := fun i => f (a + i)
theorem pn_sh_upd (f : Nat → Int32) (a i : Nat) (x : Int32) : pn_sh (upd f (a + i) x) a = upd (pn_sh f a) i x := by
  funext j
  unfold pn_sh upd
  by_cases h : j = i
  · rw [if_pos h, if_pos (by omega)]
  · rw [if_neg h, if_neg (by omega)]
theorem pn_V_sh (f : Nat → Int32) (a n : Nat) : pn_V f (a + n) = pn_V f a + pn_E a * pn_V (pn_sh f a) n := pn_V_add f a n
theorem pn_sh_1 (f : Nat → Int32) (a n : Nat) : pn_V (pn_sh f a) (n + 1) = pn_u (f a) + 4294967296 * pn_V (pn_sh f (a + 1)) n := by
  have h := pn_V_add (pn_sh f a) 1 n
  rw [Nat.add_comm n 1, h, pn_E_1]
  have e1 : pn_V (pn_sh f a) 1 = pn_u (f a) := by
    rw [pn_V_s, pn_V_0, pn_E_0, Int.mul_one, Int.zero_add]
    rfl
  have e2 : pn_V (fun i => pn_sh f a (1 + i)) n = pn_V (pn_sh f (a + 1)) n := pn_V_congr (fun i _ => by unfold pn_sh; rw [Nat.add_assoc])
  rw [e1, e2]
theorem pn_div_ok {w0 w1 top c f Vd E U : Int} (hU : U = w0 + top * E) (h1 : w1 - c * E = w0 - f * Vd) (hw0 : 0 ≤ w1) (hVd : Vd ≤ E) (hlt : U < (f + 1) * Vd) (hc : c ≤ top) (hE : 0 < E) : U = f * Vd + w1 ∧ w1 < Vd := by
  have e1 : (f + 1) * Vd = f * Vd + Vd := by grind
  have e2 : (top - c) * E = top * E - c * E := Int.sub_mul _ _ _
  have ht : top = c := by
    rcases (show c < top ∨ top ≤ c by omega) with z | z
    · have h3 := pn_mul_le (show 1 ≤ top - c by omega) (Int.le_of_lt hE)
      omega
    · omega
  subst ht
  omega
theorem pn_div_back {w0 w1 w2 top c c2 f Vd E U : Int} (hU : U = w0 + top * E) (h1 : w1 - c * E = w0 - f * Vd) (hw1 : w1 < E) (h2 : w2 + c2 * E = w1 + Vd) (hw20 : 0 ≤ w2) (hw2 : w2 < E) (hVd : Vd ≤ E) (hge : f * Vd ≤ U + Vd) (hc : top < c) (hE : 0 < E) : U = (f - 1) * Vd + w2 ∧ w2 < Vd := by
  have e1 : (f - 1) * Vd = f * Vd - Vd := by grind
  have e2 : (c - top) * E = c * E - top * E := Int.sub_mul _ _ _
  have h3 := pn_mul_le (show 1 ≤ c - top by omega) (Int.le_of_lt hE)
  have e3 : U - f * Vd + Vd + 0 * E = w2 + (c2 - (c - top)) * E := by
    have e4 : (c2 - (c - top)) * E = c2 * E - (c - top) * E := Int.sub_mul _ _ _
    omega
  have h4 := pn_apart (a := U - f * Vd + Vd) (b := w2) (E := E) (by omega) (by omega) hw20 hw2 e3
  omega
/-- one limb more of the quotient -/
theorem pn_div_next {D D2 q : Nat → Int32} {k n j : Nat} {T f Vd : Int} (hT : T = Vd * (pn_E (k + 1) * pn_V (pn_sh q (k + 1)) j) + pn_V D (k + 1 + n)) (hlow : ∀ i, i < k → D2 i = D i)
    (hU : pn_V (pn_sh D k) (n + 1) = f * Vd + pn_V (pn_sh D2 k) n) (hf0 : 0 ≤ f) (hf : f < 4294967296) :
    T = Vd * (pn_E k * pn_V (pn_sh (upd q k (pn_I f)) k) (j + 1)) + pn_V D2 (k + n) := by
  have e1 : pn_V D (k + 1 + n) = pn_V D k + pn_E k * pn_V (pn_sh D k) (n + 1) := by
    rw [show k + 1 + n = k + (n + 1) by omega]
    exact pn_V_sh D k (n + 1)
  have e2 : pn_V D2 (k + n) = pn_V D k + pn_E k * pn_V (pn_sh D2 k) n := by
    rw [pn_V_sh, pn_V_congr hlow]
  have e3 : pn_V (pn_sh (upd q k (pn_I f)) k) (j + 1) = f + 4294967296 * pn_V (pn_sh q (k + 1)) j := by
    rw [pn_sh_1, pk_us, pn_u_Ilt hf0 hf]
    have : pn_V (pn_sh (upd q k (pn_I f)) (k + 1)) j = pn_V (pn_sh q (k + 1)) j := pn_V_congr (fun i _ => by unfold pn_sh; exact pk_un (by omega))
    rw [this]
  rw [hT, e1, e2, e3, hU, pn_E_s]
  grind
/-- the stretch that is divided next is less than the divisor times 2^32 -/
theorem pn_div_room {D : Nat → Int32} {k n : Nat} {Vd : Int} (h : pn_V (pn_sh D (k + 1)) n < Vd) : pn_V (pn_sh D k) (n + 1) < 4294967296 * Vd := by
  rw [pn_sh_1]
  have := pn_u_lt (D k)
  omega
/-! adding 1 -/
theorem pn_V_ones {f : Nat → Int32} {i : Nat} (h : ∀ j, j < i → f j = -1) : pn_V f i = pn_E i - 1 := by
  induction i with
  | zero => rfl
  | succ i ih =>
    have e : pn_u (-1) = 4294967295 := by decide
    rw [pn_V_s, ih (fun j hj => h j (by omega)), h i (by omega), e, pn_E_s]
    omega
theorem pn_u_inc {x : Int32} (h : x ≠ -1) : pn_u (x + 1) = pn_u x + 1 := by
  have e : x + 1 = pn_I (pn_u x + 1) := by
    have e1 : (1 : Int32) = pn_I 1 := by decide
    conv => lhs; rw [← pn_I_u x, e1, pn_I_add]
  have e2 : pn_u x ≠ 4294967295 := fun z => h (pn_u_inj (by rw [z]; decide))
  have h1 := pn_u_lt x
  have h2 := pn_u_nonneg x
  rw [e, pn_u_Ilt (by omega) (by omega)]
theorem pn_V_inc {f g : Nat → Int32} {i n : Nat} (hi : i < n) (h1 : ∀ j, j < i → f j = -1) (h2 : f i ≠ -1) (g1 : ∀ j, j < i → g j = 0) (g2 : g i = f i + 1) (g3 : ∀ j, i < j → g j = f j) : pn_V g n = pn_V f n + 1 := by
  have a := pn_V_above (f := g) (g := f) (show i + 1 ≤ n by omega) (fun j hj _ => g3 j (by omega))
  have e1 := pn_V_ones h1
  have e2 := pn_V_zero g1
  rw [pn_V_s, pn_V_s, e1, e2, g2, pn_u_inc h2, Int.add_mul] at a
  omega
end
