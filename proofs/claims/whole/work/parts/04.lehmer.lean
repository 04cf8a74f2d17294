/-! greatest common divisors: steps that the leading bits foresee are Euclid's own -/
theorem pn_gcd_step (X Y q : Int) : Int.gcd Y (X - q * Y) = Int.gcd X Y := by
  rw [Int.gcd_sub_mul_right_right, Int.gcd_comm]
theorem pn_leh_core {s X Y L U l u q : Int} (hs : 0 < s) (hX1 : s * L ≤ X) (hX2 : X ≤ s * U) (hY1 : s * l ≤ Y) (hY2 : Y ≤ s * u) (hq0 : 0 ≤ q) (hq1 : q * u ≤ L) (hq2 : U < (q + 1) * l) : 0 ≤ X - q * Y ∧ X - q * Y < Y := by
  have a1 := pn_le_mul hY2 hq0
  have a2 := pn_le_mul hq1 (Int.le_of_lt hs)
  have a3 := pn_le_mul (show U + 1 ≤ (q + 1) * l by omega) (Int.le_of_lt hs)
  have a4 := pn_le_mul hY1 (show 0 ≤ q + 1 by omega)
  have e1 : q * (s * u) = s * (q * u) := by grind
  have e2 : (q + 1) * (s * l) = s * ((q + 1) * l) := by grind
  have e3 : (q + 1) * Y = q * Y + Y := by grind
  have e4 : s * (U + 1) = s * U + s := by grind
  omega
theorem pn_leh_bd {a b x0 y0 e g s : Int} (ha : 0 ≤ a) (hb : b ≤ 0) (he0 : 0 ≤ e) (he : e ≤ s) (hg0 : 0 ≤ g) (hg : g ≤ s) :
    s * (a * x0 + b * y0 + b) ≤ a * (s * x0 + e) + b * (s * y0 + g) ∧ a * (s * x0 + e) + b * (s * y0 + g) ≤ s * (a * x0 + b * y0 + a) := by
  have a1 := pn_mul_nonneg ha he0
  have a2 := pn_le_mul he ha
  have a3 := pn_mul_nonneg (show 0 ≤ -b by omega) hg0
  have a4 := pn_le_mul hg (show 0 ≤ -b by omega)
  have e1 : s * (a * x0 + b * y0 + b) = s * (a * x0 + b * y0) - -b * s := by grind
  have e2 : s * (a * x0 + b * y0 + a) = s * (a * x0 + b * y0) + a * s := by grind
  have e3 : a * (s * x0 + e) + b * (s * y0 + g) = s * (a * x0 + b * y0) + a * e - -b * g := by grind
  omega
/-- what holds of the four factors while steps are foreseen: x = s * x0 + e, y = s * y0 + g are the long numbers, x0, y0 their leading bits -/
def pn_lehS (a b c d : Int) : Prop := (0 ≤ a ∧ b ≤ 0 ∧ c ≤ 0 ∧ 0 ≤ d) ∨ (a ≤ 0 ∧ 0 ≤ b ∧ 0 ≤ c ∧ d ≤ 0)
def pn_lehI (x y x0 y0 xc yc a b c d : Int) : Prop :=
  xc = a * x0 + b * y0 ∧ yc = c * x0 + d * y0 ∧ pn_lehS a b c d ∧ 0 ≤ xc + a ∧ 0 ≤ xc + b ∧ 0 ≤ xc ∧ 0 ≤ yc ∧ 0 ≤ c * x + d * y ∧ Int.gcd (a * x + b * y) (c * x + d * y) = Int.gcd x y
/-- at least one of Euclid's steps has been made -/
def pn_lehM (x y a b c d : Int) : Prop := c * x + d * y < a * x + b * y ∧ a * x + b * y ≤ y ∧ 2 * ((a * x + b * y) * (c * x + d * y)) ≤ x * y
theorem pn_leh_q {xc yc a b c d q : Int} (hc : 0 < yc + c) (hd : 0 < yc + d) (ha : 0 ≤ xc + a) (hb : 0 ≤ xc + b) (h1 : q = (xc + a) / (yc + c)) (h2 : q = (xc + b) / (yc + d)) :
    0 ≤ q ∧ q * (yc + c) ≤ xc + a ∧ xc + a < (q + 1) * (yc + c) ∧ q * (yc + d) ≤ xc + b ∧ xc + b < (q + 1) * (yc + d) := by
  refine ⟨by rw [h1]; exact Int.ediv_nonneg ha (Int.le_of_lt hc), ?_, ?_, ?_, ?_⟩
  · rw [h1]; exact Int.ediv_mul_le _ (by omega)
  · rw [h1]; exact Int.lt_ediv_add_one_mul_self _ hc
  · rw [h2]; exact Int.ediv_mul_le _ (by omega)
  · rw [h2]; exact Int.lt_ediv_add_one_mul_self _ hd
/-- one step: the long numbers' own, in range, and the leading ones stay leading -/
theorem pn_leh_step {s x y e g x0 y0 xc yc a b c d q : Int} (hs : 0 < s) (hx : x = s * x0 + e) (hy : y = s * y0 + g) (he0 : 0 ≤ e) (he : e ≤ s) (hg0 : 0 ≤ g) (hg : g ≤ s)
    (I : pn_lehI x y x0 y0 xc yc a b c d) (hc : 0 < yc + c) (hd : 0 < yc + d) (h1 : q = (xc + a) / (yc + c)) (h2 : q = (xc + b) / (yc + d)) :
    pn_lehI x y x0 y0 yc (xc - q * yc) c d (a - q * c) (b - q * d) ∧ (a - q * c) * x + (b - q * d) * y < c * x + d * y ∧ xc - q * yc < yc ∧ 0 ≤ q := by
  obtain ⟨ex, ey, hS, ha, hb, hx0, hy0, hY, hG⟩ := I
  obtain ⟨hq0, q1, q2, q3, q4⟩ := pn_leh_q hc hd ha hb h1 h2
  have k1 : (a - q * c) * x + (b - q * d) * y = a * x + b * y - q * (c * x + d * y) := by grind
  have core : 0 ≤ a * x + b * y - q * (c * x + d * y) ∧ a * x + b * y - q * (c * x + d * y) < c * x + d * y := by
    rcases hS with ⟨s1, s2, s3, s4⟩ | ⟨s1, s2, s3, s4⟩
    · have b1 := pn_leh_bd (x0 := x0) (y0 := y0) s1 s2 he0 he hg0 hg
      have b2 := pn_leh_bd (x0 := y0) (y0 := x0) s4 s3 hg0 hg he0 he
      rw [← hx, ← hy, ← ex] at b1
      rw [← hx, ← hy, Int.add_comm (d * y0) (c * x0), ← ey, Int.add_comm (d * y) (c * x)] at b2
      exact pn_leh_core hs b1.1 b1.2 b2.1 b2.2 hq0 q3 q2
    · have b1 := pn_leh_bd (x0 := y0) (y0 := x0) s2 s1 hg0 hg he0 he
      have b2 := pn_leh_bd (x0 := x0) (y0 := y0) s3 s4 he0 he hg0 hg
      rw [← hx, ← hy, Int.add_comm (b * y0) (a * x0), ← ex, Int.add_comm (b * y) (a * x)] at b1
      rw [← hx, ← hy, ← ey] at b2
      exact pn_leh_core hs b1.1 b1.2 b2.1 b2.2 hq0 q1 q4
  have m1 := pn_mul_nonneg hq0 (show 0 ≤ (if 0 ≤ c then c else -c) by split <;> omega)
  have m2 := pn_mul_nonneg hq0 (show 0 ≤ (if 0 ≤ d then d else -d) by split <;> omega)
  have p1 : q * (yc + c) = q * yc + q * c := Int.mul_add _ _ _
  have p2 : (q + 1) * (yc + c) = q * yc + q * c + yc + c := by grind
  have p3 : q * (yc + d) = q * yc + q * d := Int.mul_add _ _ _
  have p4 : (q + 1) * (yc + d) = q * yc + q * d + yc + d := by grind
  have sg : (c ≤ 0 → q * c ≤ 0) ∧ (0 ≤ c → 0 ≤ q * c) ∧ (d ≤ 0 → q * d ≤ 0) ∧ (0 ≤ d → 0 ≤ q * d) := by
    refine ⟨fun h => ?_, fun h => pn_mul_nonneg hq0 h, fun h => ?_, fun h => pn_mul_nonneg hq0 h⟩
    · have := pn_mul_nonneg hq0 (show 0 ≤ -c by omega)
      rw [Int.mul_neg] at this
      omega
    · have := pn_mul_nonneg hq0 (show 0 ≤ -d by omega)
      rw [Int.mul_neg] at this
      omega
  refine ⟨⟨ey, by rw [ex, ey]; grind, ?_, by omega, by omega, hy0, ?_, by rw [k1]; exact core.1, by rw [k1, pn_gcd_step]; exact hG⟩, by rw [k1]; exact core.2, ?_, hq0⟩
  · rcases hS with ⟨s1, s2, s3, s4⟩ | ⟨s1, s2, s3, s4⟩
    · have := sg.1 s3
      have := sg.2.2.2 s4
      exact Or.inr ⟨s3, s4, by omega, by omega⟩
    · have := sg.2.1 s3
      have := sg.2.2.1 s4
      exact Or.inl ⟨s3, s4, by omega, by omega⟩
  · rcases hS with ⟨s1, s2, s3, s4⟩ | ⟨s1, s2, s3, s4⟩
    · have := sg.1 s3
      have := sg.2.2.2 s4
      omega
    · have := sg.2.1 s3
      have := sg.2.2.1 s4
      omega
  · rcases hS with ⟨s1, s2, s3, s4⟩ | ⟨s1, s2, s3, s4⟩
    · have := sg.1 s3
      have := sg.2.2.2 s4
      omega
    · have := sg.2.1 s3
      have := sg.2.2.1 s4
      omega
/-- the product of both falls by half with Euclid's step -/
theorem pn_half {X Y r q : Int} (hY : 0 ≤ Y) (hXY : Y ≤ X) (hr : r = X - q * Y) (h0 : 0 ≤ r) (h1 : r < Y) : 2 * (Y * r) ≤ X * Y := by
  have hq : 1 ≤ q := by
    rcases (show q < 1 ∨ 1 ≤ q by omega) with z | z
    · have := pn_mul_le (show q ≤ 0 by omega) hY
      omega
    · exact z
  have h2 := pn_mul_le hq hY
  have h3 : 2 * r ≤ X := by omega
  have h4 := pn_mul_le h3 hY
  have e : 2 * r * Y = 2 * (Y * r) := by grind
  omega
