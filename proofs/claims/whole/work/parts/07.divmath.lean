/-! a stretch of a row, from one place on -/
def pn_sh (f : Nat → Int32) (a : Nat) : Nat → Int32 := fun i => f (a + i)
theorem pn_sh_upd (f : Nat → Int32) (a i : Nat) (x : Int32) : pn_sh (upd f (a + i) x) a = upd (pn_sh f a) i x := by
  funext j
  unfold pn_sh upd
  by_cases h : j = i
  · rw [if_pos h, if_pos (by omega)]
  · rw [if_neg h, if_neg (by omega)]
theorem pn_V_sh (f : Nat → Int32) (a n : Nat) : pn_V f (a + n) = pn_V f a + pn_E a * pn_V (pn_sh f a) n := pn_V_add f a n
theorem pn_sh_1 (f : Nat → Int32) (a n : Nat) : pn_V (pn_sh f a) (n + 1) = pn_u (f a) + 4294967296 * pn_V (pn_sh f (a + 1)) n := by
  have h := pn_V_add (pn_sh f a) 1 n
  rw [Nat.add_comm n 1, h, pn_E_1]
  have e1 : pn_V (pn_sh f a) 1 = pn_u (f a) := by
    rw [pn_V_s, pn_V_0, pn_E_0, Int.mul_one, Int.zero_add]
    rfl
  have e2 : pn_V (fun i => pn_sh f a (1 + i)) n = pn_V (pn_sh f (a + 1)) n := pn_V_congr (fun i _ => by unfold pn_sh; rw [Nat.add_assoc])
  rw [e1, e2]
theorem pn_div_ok {w0 w1 top c f Vd E U : Int} (hU : U = w0 + top * E) (h1 : w1 - c * E = w0 - f * Vd) (hw0 : 0 ≤ w1) (hVd : Vd ≤ E) (hlt : U < (f + 1) * Vd) (hc : c ≤ top) (hE : 0 < E) : U = f * Vd + w1 ∧ w1 < Vd := by
  have e1 : (f + 1) * Vd = f * Vd + Vd := by grind
  have e2 : (top - c) * E = top * E - c * E := Int.sub_mul _ _ _
  have ht : top = c := by
    rcases (show c < top ∨ top ≤ c by omega) with z | z
    · have h3 := pn_mul_le (show 1 ≤ top - c by omega) (Int.le_of_lt hE)
      omega
    · omega
  subst ht
  omega
theorem pn_div_back {w0 w1 w2 top c c2 f Vd E U : Int} (hU : U = w0 + top * E) (h1 : w1 - c * E = w0 - f * Vd) (hw1 : w1 < E) (h2 : w2 + c2 * E = w1 + Vd) (hw20 : 0 ≤ w2) (hw2 : w2 < E) (hVd : Vd ≤ E) (hge : f * Vd ≤ U + Vd) (hc : top < c) (hE : 0 < E) : U = (f - 1) * Vd + w2 ∧ w2 < Vd := by
  have e1 : (f - 1) * Vd = f * Vd - Vd := by grind
  have e2 : (c - top) * E = c * E - top * E := Int.sub_mul _ _ _
  have h3 := pn_mul_le (show 1 ≤ c - top by omega) (Int.le_of_lt hE)
  have e3 : U - f * Vd + Vd + 0 * E = w2 + (c2 - (c - top)) * E := by
    have e4 : (c2 - (c - top)) * E = c2 * E - (c - top) * E := Int.sub_mul _ _ _
    omega
  have h4 := pn_apart (a := U - f * Vd + Vd) (b := w2) (E := E) (by omega) (by omega) hw20 hw2 e3
  omega
/-- one limb more of the quotient -/
theorem pn_div_next {D D2 q : Nat → Int32} {k n j : Nat} {T f Vd : Int} (hT : T = Vd * (pn_E (k + 1) * pn_V (pn_sh q (k + 1)) j) + pn_V D (k + 1 + n)) (hlow : ∀ i, i < k → D2 i = D i)
    (hU : pn_V (pn_sh D k) (n + 1) = f * Vd + pn_V (pn_sh D2 k) n) (hf0 : 0 ≤ f) (hf : f < 4294967296) :
    T = Vd * (pn_E k * pn_V (pn_sh (upd q k (pn_I f)) k) (j + 1)) + pn_V D2 (k + n) := by
  have e1 : pn_V D (k + 1 + n) = pn_V D k + pn_E k * pn_V (pn_sh D k) (n + 1) := by
    rw [show k + 1 + n = k + (n + 1) by omega]
    exact pn_V_sh D k (n + 1)
  have e2 : pn_V D2 (k + n) = pn_V D k + pn_E k * pn_V (pn_sh D2 k) n := by
    rw [pn_V_sh, pn_V_congr hlow]
  have e3 : pn_V (pn_sh (upd q k (pn_I f)) k) (j + 1) = f + 4294967296 * pn_V (pn_sh q (k + 1)) j := by
    rw [pn_sh_1, pk_us, pn_u_Ilt hf0 hf]
    have : pn_V (pn_sh (upd q k (pn_I f)) (k + 1)) j = pn_V (pn_sh q (k + 1)) j := pn_V_congr (fun i _ => by unfold pn_sh; exact pk_un (by omega))
    rw [this]
  rw [hT, e1, e2, e3, hU, pn_E_s]
  grind
/-- the stretch that is divided next is less than the divisor times 2^32 -/
theorem pn_div_room {D : Nat → Int32} {k n : Nat} {Vd : Int} (h : pn_V (pn_sh D (k + 1)) n < Vd) : pn_V (pn_sh D k) (n + 1) < 4294967296 * Vd := by
  rw [pn_sh_1]
  have := pn_u_lt (D k)
  omega
/-! adding 1 -/
theorem pn_V_ones {f : Nat → Int32} {i : Nat} (h : ∀ j, j < i → f j = -1) : pn_V f i = pn_E i - 1 := by
  induction i with
  | zero => rfl
  | succ i ih =>
    have e : pn_u (-1) = 4294967295 := by decide
    rw [pn_V_s, ih (fun j hj => h j (by omega)), h i (by omega), e, pn_E_s]
    omega
theorem pn_u_inc {x : Int32} (h : x ≠ -1) : pn_u (x + 1) = pn_u x + 1 := by
  have e : x + 1 = pn_I (pn_u x + 1) := by
    have e1 : (1 : Int32) = pn_I 1 := by decide
    conv => lhs; rw [← pn_I_u x, e1, pn_I_add]
  have e2 : pn_u x ≠ 4294967295 := fun z => h (pn_u_inj (by rw [z]; decide))
  have h1 := pn_u_lt x
  have h2 := pn_u_nonneg x
  rw [e, pn_u_Ilt (by omega) (by omega)]
theorem pn_V_inc {f g : Nat → Int32} {i n : Nat} (hi : i < n) (h1 : ∀ j, j < i → f j = -1) (h2 : f i ≠ -1) (g1 : ∀ j, j < i → g j = 0) (g2 : g i = f i + 1) (g3 : ∀ j, i < j → g j = f j) : pn_V g n = pn_V f n + 1 := by
  have a := pn_V_above (f := g) (g := f) (show i + 1 ≤ n by omega) (fun j hj _ => g3 j (by omega))
  have e1 := pn_V_ones h1
  have e2 := pn_V_zero g1
  rw [pn_V_s, pn_V_s, e1, e2, g2, pn_u_inc h2, Int.add_mul] at a
  omega
