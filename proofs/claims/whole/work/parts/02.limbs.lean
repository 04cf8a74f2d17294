/-! numbers by their limbs: pn_V f n is the number whose n lowest limbs are f 0 .. f (n - 1) -/
def pn_E (n : Nat) : Int := 4294967296 ^ n
theorem pn_E_0 : pn_E 0 = 1 := rfl
theorem pn_E_s (n : Nat) : pn_E (n + 1) = pn_E n * 4294967296 := Int.pow_succ _ _
theorem pn_E_1 : pn_E 1 = 4294967296 := rfl
theorem pn_E_pos (n : Nat) : 0 < pn_E n := by
  induction n with
  | zero => decide
  | succ n ih => rw [pn_E_s]; omega
theorem pn_E_add (a b : Nat) : pn_E (a + b) = pn_E a * pn_E b := Int.pow_add _ _ _
theorem pn_E_mono {a b : Nat} (h : a ≤ b) : pn_E a ≤ pn_E b := by
  obtain ⟨k, rfl⟩ := Nat.le.dest h
  rw [pn_E_add]
  have h1 := pn_E_pos a
  have h2 := pn_E_pos k
  have h3 := Int.mul_le_mul_of_nonneg_left (a := 1) (b := pn_E k) (c := pn_E a) (by omega) (by omega)
  omega
def pn_V (f : Nat → Int32) : Nat → Int
  | 0 => 0
  | n + 1 => pn_V f n + pn_u (f n) * pn_E n
theorem pn_V_0 (f : Nat → Int32) : pn_V f 0 = 0 := rfl
theorem pn_V_s (f : Nat → Int32) (n : Nat) : pn_V f (n + 1) = pn_V f n + pn_u (f n) * pn_E n := rfl
theorem pn_mul_nonneg {a b : Int} (ha : 0 ≤ a) (hb : 0 ≤ b) : 0 ≤ a * b := Int.mul_nonneg ha hb
theorem pn_mul_le {a b c : Int} (h : a ≤ b) (hc : 0 ≤ c) : a * c ≤ b * c := Int.mul_le_mul_of_nonneg_right h hc
theorem pn_le_mul {a b c : Int} (h : a ≤ b) (hc : 0 ≤ c) : c * a ≤ c * b := Int.mul_le_mul_of_nonneg_left h hc
theorem pn_V_nonneg (f : Nat → Int32) (n : Nat) : 0 ≤ pn_V f n := by
  induction n with
  | zero => exact Int.le_refl 0
  | succ n ih =>
    have h1 := pn_mul_nonneg (pn_u_nonneg (f n)) (Int.le_of_lt (pn_E_pos n))
    rw [pn_V_s]
    omega
theorem pn_V_lt (f : Nat → Int32) (n : Nat) : pn_V f n < pn_E n := by
  induction n with
  | zero => rw [pn_V_0, pn_E_0]; decide
  | succ n ih =>
    have h1 := pn_mul_le (a := pn_u (f n)) (b := 4294967295) (by have := pn_u_lt (f n); omega) (Int.le_of_lt (pn_E_pos n))
    rw [pn_V_s, pn_E_s]
    omega
theorem pn_V_congr {f g : Nat → Int32} {n : Nat} (h : ∀ i, i < n → f i = g i) : pn_V f n = pn_V g n := by
  induction n with
  | zero => rfl
  | succ n ih => rw [pn_V_s, pn_V_s, ih (fun i hi => h i (by omega)), h n (by omega)]
theorem pn_V_up {f : Nat → Int32} {k n : Nat} {x : Int32} (h : n ≤ k) : pn_V (upd f k x) n = pn_V f n := pn_V_congr (fun i hi => pk_un (by omega))
theorem pn_V_upS {f : Nat → Int32} {n : Nat} {x : Int32} : pn_V (upd f n x) (n + 1) = pn_V f n + pn_u x * pn_E n := by
  rw [pn_V_s, pn_V_up (Nat.le_refl n), pk_us]
theorem pn_V_in {f : Nat → Int32} {k n : Nat} {x : Int32} (h : k < n) : pn_V (upd f k x) n = pn_V f n + (pn_u x - pn_u (f k)) * pn_E k := by
  induction n with
  | zero => omega
  | succ n ih =>
    rcases Nat.lt_or_ge k n with h1 | h1
    · rw [pn_V_s, pn_V_s, ih h1, pk_un (show n ≠ k by omega)]
      omega
    · have e : k = n := by omega
      subst e
      rw [pn_V_upS, pn_V_s, Int.sub_mul]
      omega
theorem pn_V_more {f : Nat → Int32} {n m : Nat} (h : n ≤ m) (hz : ∀ i, n ≤ i → i < m → f i = 0) : pn_V f m = pn_V f n := by
  induction m with
  | zero => have e : n = 0 := by omega
            subst e; rfl
  | succ m ih =>
    rcases Nat.lt_or_ge m n with h1 | h1
    · have e : n = m + 1 := by omega
      subst e; rfl
    · rw [pn_V_s, hz m h1 (by omega), pn_u_0, ih h1 (fun i a b => hz i a (by omega))]
      omega
theorem pn_V_zero {f : Nat → Int32} {n : Nat} (hz : ∀ i, i < n → f i = 0) : pn_V f n = 0 := pn_V_more (Nat.zero_le n) (fun i _ h => hz i h)
theorem pn_V_add (f : Nat → Int32) (m n : Nat) : pn_V f (m + n) = pn_V f m + pn_E m * pn_V (fun i => f (m + i)) n := by
  induction n with
  | zero => rw [pn_V_0, Int.mul_zero, Int.add_zero]; rfl
  | succ n ih =>
    show pn_V f (m + n) + pn_u (f (m + n)) * pn_E (m + n) = _
    rw [pn_V_s, ih, pn_E_add, Int.mul_add]
    have e : pn_u (f (m + n)) * (pn_E m * pn_E n) = pn_E m * (pn_u (f (m + n)) * pn_E n) := by
      rw [← Int.mul_assoc, Int.mul_comm (pn_u _) (pn_E m), Int.mul_assoc]
    omega
/-- the count is the least that holds the number: the limb below it isn't 0 -/
def pn_nz (f : Nat → Int32) (n : Nat) : Prop := ∀ k, n = k + 1 → f k ≠ 0
theorem pn_nz_0 {f : Nat → Int32} : pn_nz f 0 := fun k h => by omega
theorem pn_nz_congr {f g : Nat → Int32} {n : Nat} (h : ∀ i, i < n → f i = g i) (hf : pn_nz f n) : pn_nz g n := fun k e => by rw [← h k (by omega)]; exact hf k e
theorem pn_V_low {f : Nat → Int32} {k : Nat} (h : pn_nz f (k + 1)) : pn_E k ≤ pn_V f (k + 1) := by
  have h1 := pn_V_nonneg f k
  have h2 := pn_mul_le (pn_u_pos (h k rfl)) (Int.le_of_lt (pn_E_pos k))
  rw [pn_V_s]
  omega
theorem pn_V_ne0 {f : Nat → Int32} {n : Nat} (h : pn_nz f n) : pn_V f n = 0 ↔ n = 0 := by
  refine ⟨fun e => ?_, fun e => by subst e; rfl⟩
  cases n with
  | zero => rfl
  | succ k =>
    have h1 := pn_V_low h
    have h2 := pn_E_pos k
    omega
/-- digits and what is below them, apart -/
theorem pn_apart {a b x y E : Int} (ha0 : 0 ≤ a) (ha : a < E) (hb0 : 0 ≤ b) (hb : b < E) (h : a + x * E = b + y * E) : x = y ∧ a = b := by
  have hE : 0 ≤ E := by omega
  have e : x = y := by
    rcases Int.lt_trichotomy x y with q | q | q
    · have h1 := pn_mul_le (show x + 1 ≤ y by omega) hE
      rw [Int.add_mul] at h1
      omega
    · exact q
    · have h1 := pn_mul_le (show y + 1 ≤ x by omega) hE
      rw [Int.add_mul] at h1
      omega
  subst e
  exact ⟨rfl, by omega⟩
theorem pn_V_inj {f g : Nat → Int32} {n : Nat} (h : pn_V f n = pn_V g n) : ∀ i, i < n → f i = g i := by
  induction n with
  | zero => intro i hi; omega
  | succ n ih =>
    rw [pn_V_s, pn_V_s] at h
    obtain ⟨h1, h2⟩ := pn_apart (pn_V_nonneg f n) (pn_V_lt f n) (pn_V_nonneg g n) (pn_V_lt g n) h
    intro i hi
    rcases Nat.lt_or_ge i n with q | q
    · exact ih h2 i q
    · have e : i = n := by omega
      subst e
      exact pn_u_inj h1
theorem pn_V_cnt {f g : Nat → Int32} {n m : Nat} (hf : pn_nz f n) (hg : pn_nz g m) (h : pn_V f n = pn_V g m) : n = m := by
  rcases Nat.lt_trichotomy n m with q | q | q
  · cases m with
    | zero => omega
    | succ m =>
      have h1 := pn_V_low hg
      have h2 := pn_V_lt f n
      have h3 := pn_E_mono (show n ≤ m by omega)
      omega
  · exact q
  · cases n with
    | zero => omega
    | succ n =>
      have h1 := pn_V_low hf
      have h2 := pn_V_lt g m
      have h3 := pn_E_mono (show m ≤ n by omega)
      omega
/-! sizes compared -/
theorem pn_V_fewer {f g : Nat → Int32} {n m : Nat} (hg : pn_nz g m) (h : n < m) : pn_V f n < pn_V g m := by
  cases m with
  | zero => omega
  | succ m =>
    have h1 := pn_V_low hg
    have h2 := pn_V_lt f n
    have h3 := pn_E_mono (show n ≤ m by omega)
    omega
theorem pn_V_above {f g : Nat → Int32} {k n : Nat} (hk : k ≤ n) (h : ∀ j, k ≤ j → j < n → f j = g j) : pn_V f n - pn_V g n = pn_V f k - pn_V g k := by
  induction n with
  | zero => have e : k = 0 := by omega
            subst e; rfl
  | succ n ih =>
    rcases Nat.lt_or_ge n k with q | q
    · have e : k = n + 1 := by omega
      subst e; rfl
    · rw [pn_V_s, pn_V_s, h n q (by omega)]
      have := ih q (fun j a b => h j a (by omega))
      omega
theorem pn_V_less {f g : Nat → Int32} {i : Nat} (h : pn_u (f i) < pn_u (g i)) : pn_V f (i + 1) < pn_V g (i + 1) := by
  have h1 := pn_V_lt f i
  have h2 := pn_V_nonneg g i
  have h3 := pn_mul_le (show pn_u (f i) + 1 ≤ pn_u (g i) by omega) (Int.le_of_lt (pn_E_pos i))
  rw [Int.add_mul] at h3
  rw [pn_V_s, pn_V_s]
  omega
/-- a digit of t goes out, what is above it is carried on -/
theorem pn_step (o c t E S : Int) (h : o + c * E = S) : o + t % 4294967296 * E + t / 4294967296 * (E * 4294967296) = S + (t - c) * E := by
  have e : t = t % 4294967296 + 4294967296 * (t / 4294967296) := by omega
  have e2 : t * E = t % 4294967296 * E + t / 4294967296 * (E * 4294967296) := by
    conv => lhs; rw [e]
    rw [Int.add_mul, Int.mul_comm 4294967296 (t / 4294967296), Int.mul_assoc, Int.mul_comm 4294967296 E]
  rw [Int.sub_mul]
  omega
/-! a product of two limbs -/
theorem pn_prod_le {x y : Int} (hx0 : 0 ≤ x) (hx : x ≤ 4294967295) (hy0 : 0 ≤ y) (hy : y ≤ 4294967295) : 0 ≤ x * y ∧ x * y ≤ 18446744065119617025 := by
  refine ⟨Int.mul_nonneg hx0 hy0, ?_⟩
  have h1 := pn_mul_le hx hy0
  omega
