/-! long division: a limb of the quotient, guessed from three limbs of the dividend and two of the divisor -/
theorem pn_kn_test {q h l u2 u1 u0 r : Int} (hr : r = u2 * 4294967296 + u1 - q * h) : q * l ≤ r * 4294967296 + u0 ↔ q * (h * 4294967296 + l) ≤ (u2 * 4294967296 + u1) * 4294967296 + u0 := by
  have e : q * (h * 4294967296 + l) = q * h * 4294967296 + q * l := by grind
  rw [e]
  subst hr
  omega
theorem pn_kn_up {q h l u2 u1 u0 : Int} (hq : u2 * 4294967296 + u1 < (q + 1) * h) (hu : u0 < 4294967296) (hq0 : 0 ≤ q) (hl : 0 ≤ l) : (u2 * 4294967296 + u1) * 4294967296 + u0 < (q + 1) * (h * 4294967296 + l) := by
  have e : (q + 1) * (h * 4294967296 + l) = (q + 1) * h * 4294967296 + (q + 1) * l := by grind
  have h1 := pn_mul_nonneg (show 0 ≤ q + 1 by omega) hl
  rw [e]
  omega
/-- the first guess is too great by 2 at most -/
theorem pn_kn_two {q h l u2 u1 u0 : Int} (hh : 2147483648 ≤ h) (hl0 : 0 ≤ l) (hl : l ≤ 4294967295) (hq0 : 0 ≤ q) (hq : q ≤ 4294967295) (hqh : q * h ≤ u2 * 4294967296 + u1) (hu0 : 0 ≤ u0) :
    (q - 2) * (h * 4294967296 + l) ≤ (u2 * 4294967296 + u1) * 4294967296 + u0 := by
  have e : (q - 2) * (h * 4294967296 + l) = q * h * 4294967296 + q * l - 2 * (h * 4294967296 + l) := by grind
  have h1 := (pn_prod_le hq0 hq hl0 hl).2
  rw [e]
  omega
/-- a guess that is right for the highest limbs is right for the whole, or too great by 1 -/
theorem pn_kn_q {q U3 V2 E lo vlo : Int} (hE : 0 < E) (hlo0 : 0 ≤ lo) (hlo : lo < E) (hv0 : 0 ≤ vlo) (hv : vlo < E) (hV2 : 4294967296 ≤ V2) (h0 : 0 ≤ q) (h1 : q ≤ 4294967295) (h2 : q * V2 ≤ U3)
    (h3 : q = 4294967295 ∨ U3 < (q + 1) * V2) (hUV : U3 * E + lo < 4294967296 * (V2 * E + vlo)) :
    q * (V2 * E + vlo) ≤ (U3 * E + lo) + (V2 * E + vlo) ∧ U3 * E + lo < (q + 1) * (V2 * E + vlo) := by
  have a1 := pn_mul_le h2 (Int.le_of_lt hE)
  have a2 := pn_mul_le h1 hv0
  have a3 := pn_mul_le hV2 (Int.le_of_lt hE)
  have a4 := pn_mul_nonneg (show 0 ≤ q + 1 by omega) hv0
  have e1 : q * (V2 * E + vlo) = q * V2 * E + q * vlo := by grind
  have e2 : (q + 1) * (V2 * E + vlo) = (q + 1) * V2 * E + (q + 1) * vlo := by grind
  constructor
  · rw [e1]
    omega
  · rcases h3 with h3 | h3
    · rw [h3]
      omega
    · have a5 := pn_mul_le (show U3 + 1 ≤ (q + 1) * V2 by omega) (Int.le_of_lt hE)
      rw [Int.add_mul] at a5
      rw [e2]
      omega
/-- a step of the subtraction of a multiple -/
theorem pn_kn_take {o c t u E S b : Int} (h : o - c * E = S) (hb : b = 0 ∨ b = 1) : o + (u - t % 4294967296 + b * 4294967296) * E - (t / 4294967296 + b) * (E * 4294967296) = S + (u - (t - c)) * E := by
  have e : t = t % 4294967296 + 4294967296 * (t / 4294967296) := by omega
  generalize t % 4294967296 = r at *
  generalize t / 4294967296 = k at *
  subst e
  subst h
  grind
/-- the carry of that subtraction stays a limb -/
theorem pn_kn_carry {c f v u : Int} (hc0 : 0 ≤ c) (hc : c ≤ 4294967295) (hf0 : 0 ≤ f) (hf : f ≤ 4294967295) (hv0 : 0 ≤ v) (hv : v ≤ 4294967295) (hu0 : 0 ≤ u) {b : Int} (hb : b = if u - (c + f * v) % 4294967296 < 0 then 1 else 0) :
    0 ≤ (c + f * v) / 4294967296 + b ∧ (c + f * v) / 4294967296 + b ≤ 4294967295 := by
  have h1 := pn_prod_le hf0 hf hv0 hv
  generalize f * v = w at *
  subst hb
  split <;> omega
