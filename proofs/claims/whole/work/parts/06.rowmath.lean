/-! one turn of the loops over limbs -/
theorem pn_put {o : Nat → Int32} {i : Nat} {c t S : Int} (h : pn_V o i + c * pn_E i = S) : pn_V (upd o i (pn_I t)) (i + 1) + t / 4294967296 * pn_E (i + 1) = S + (t - c) * pn_E i := by
  rw [pn_V_upS, pn_u_I, pn_E_s]
  exact pn_step _ _ _ _ _ h
/-- a row read as if 0s stood behind its last limb -/
def pn_cut (f : Nat → Int32) (n : Nat) : Nat → Int32 := fun k => if k < n then f k else 0
theorem pn_cut_lt {f : Nat → Int32} {n k : Nat} (h : k < n) : pn_cut f n k = f k := if_pos h
theorem pn_cut_ge {f : Nat → Int32} {n k : Nat} (h : n ≤ k) : pn_cut f n k = 0 := if_neg (by omega)
theorem pn_V_cut {f : Nat → Int32} {n m : Nat} (h : n ≤ m) : pn_V (pn_cut f n) m = pn_V f n := by
  rw [pn_V_more h (fun i h1 _ => pn_cut_ge h1)]
  exact pn_V_congr (fun i hi => pn_cut_lt hi)
theorem pn_V_cutL {f : Nat → Int32} {n m : Nat} (h : m ≤ n) : pn_V (pn_cut f n) m = pn_V f m := pn_V_congr (fun i hi => pn_cut_lt (by omega))
/-! length in bits -/
def pn_len (v : Int) : Nat := if v = 0 then 0 else v.toNat.log2 + 1
theorem pn_len_0 : pn_len 0 = 0 := rfl
theorem pn_two (L : Nat) : ((2 : Int) ^ L) = ((2 ^ L : Nat) : Int) := by rw [Int.natCast_pow]; rfl
theorem pn_len_le {v : Int} (h : 0 ≤ v) (L : Nat) : pn_len v ≤ L ↔ v < 2 ^ L := by
  obtain ⟨n, rfl⟩ := Int.eq_ofNat_of_zero_le h
  have e : ((n : Int) < 2 ^ L) ↔ n < 2 ^ L := by
    rw [pn_two]
    omega
  rw [e]
  unfold pn_len
  split
  · have h0 : n = 0 := by omega
    subst h0
    exact ⟨fun _ => Nat.two_pow_pos L, fun _ => Nat.zero_le L⟩
  · rw [Int.toNat_natCast, Nat.add_one_le_iff, Nat.log2_lt (by omega)]
theorem pn_len_lt {v : Int} (h : 0 ≤ v) (L : Nat) : L < pn_len v ↔ 2 ^ L ≤ v := by
  have := pn_len_le h L
  omega
theorem pn_len_mono {v w : Int} (h : 0 ≤ v) (hw : v ≤ w) : pn_len v ≤ pn_len w := by
  rw [pn_len_le h]
  have := (pn_len_le (show 0 ≤ w by omega) (pn_len w)).mp (Nat.le_refl _)
  omega
theorem pn_len_is {v : Int} {L : Nat} (h : 0 ≤ v) (h1 : 2 ^ L ≤ v) (h2 : v < 2 ^ (L + 1)) : pn_len v = L + 1 := by
  have a := (pn_len_le h (L + 1)).mpr h2
  have b := (pn_len_lt h L).mpr h1
  omega
theorem pn_len_eq0 {v : Int} (h : 0 ≤ v) : pn_len v = 0 ↔ v = 0 := by
  have := pn_len_le h 0
  have e : (2 : Int) ^ 0 = 1 := rfl
  rw [e] at this
  omega
theorem pn_E_two (k : Nat) : pn_E k = 2 ^ (32 * k) := by
  rw [Int.pow_mul]
  rfl
/-- the length out of the highest limb -/
theorem pn_len_V {f : Nat → Int32} {k : Nat} (h : pn_nz f (k + 1)) : pn_len (pn_V f (k + 1)) = 32 * k + pn_len (pn_u (f k)) := by
  have hu := pn_u_nonneg (f k)
  have hp := pn_u_pos (h k rfl)
  obtain ⟨j, hj⟩ : ∃ j, pn_len (pn_u (f k)) = j + 1 := by
    have := (pn_len_eq0 hu)
    exact ⟨pn_len (pn_u (f k)) - 1, by omega⟩
  have a1 := (pn_len_le hu (j + 1)).mp (by omega)
  have a2 := (pn_len_lt hu j).mp (by omega)
  have hE := Int.le_of_lt (pn_E_pos k)
  have b1 := pn_mul_le (show pn_u (f k) + 1 ≤ 2 ^ (j + 1) by omega) hE
  have b2 := pn_mul_le a2 hE
  rw [Int.add_mul] at b1
  have c1 := pn_V_lt f k
  have c2 := pn_V_nonneg f k
  rw [hj]
  refine pn_len_is (L := 32 * k + j) (pn_V_nonneg _ _) ?_ ?_
  · rw [Int.pow_add, ← pn_E_two, pn_V_s, Int.mul_comm]
    omega
  · rw [show 32 * k + j + 1 = 32 * k + (j + 1) by omega, Int.pow_add, ← pn_E_two, pn_V_s, Int.mul_comm (pn_E k)]
    omega
theorem pn_len_u (x : Int32) : pn_len (pn_u x) ≤ 32 := (pn_len_le (pn_u_nonneg x) 32).mpr (pn_u_lt x)
/-! dividing a number by one limb, from its highest limb down: g is f with its limbs from i on replaced by the quotient's -/
theorem pn_shrink {f g : Nat → Int32} {n i : Nat} {d left q left2 : Int} (hin : i < n) (hlow : ∀ j, j ≤ i → g j = f j) (h : (pn_V g n - pn_V f (i + 1)) * d + left * pn_E (i + 1) = pn_V f n - pn_V f (i + 1))
    (hq0 : 0 ≤ q) (hq : q < 4294967296) (hd : q * d + left2 = left * 4294967296 + pn_u (f i)) : (pn_V (upd g i (pn_I q)) n - pn_V f i) * d + left2 * pn_E i = pn_V f n - pn_V f i := by
  rw [pn_V_in hin, pn_u_Ilt hq0 hq, hlow i (Nat.le_refl i)]
  rw [pn_V_s, pn_E_s] at h
  have e : left2 = left * 4294967296 + pn_u (f i) - q * d := by omega
  subst e
  grind
/-! multiples -/
theorem pn_multiple {o b : Nat → Int32} {o0 : Nat → Int32} {at_ i : Nat} {c f t : Int} (h : pn_V o (at_ + i) + c * pn_E (at_ + i) = pn_V o0 (at_ + i) + f * pn_V b i * pn_E at_)
    (ht : t = c + (f * pn_u (b i) + pn_u (o0 (at_ + i)))) : pn_V (upd o (at_ + i) (pn_I t)) (at_ + i + 1) + t / 4294967296 * pn_E (at_ + i + 1) = pn_V o0 (at_ + i + 1) + f * pn_V b (i + 1) * pn_E at_ := by
  rw [pn_put h, pn_V_s, pn_V_s, pn_E_add, ht]
  grind
