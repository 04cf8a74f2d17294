/-! what the wrapper answers and what the reference answers are the same -/
def lw_ok (r : Int32) (v : Nat) (f0 : Int64) (r2 : Int32) (X K : (Nat → Int) → Prop) : Prop := v ≤ 3 ∧ r = nI v ∧ (v = 0 → f0 = r2.toInt64) ∧ ∃ ρ2, X ρ2 ∧ K ρ2
def lw_T (tc : Nat → Nat) (s0 pl : Nat) (pr : Nat → Nat) : Prop := s0 ≤ 6031 ∧ pl = 6031 - s0 ∧ ∀ i, i < pl → tc (s0 + i) = pr i
theorem pn_nI0 {j : Nat} (h : j < 2 ^ 31) : (0 : Int32) ≤ nI j := by
  rw [Int32.le_iff_toInt_le, nI_toInt h]; simp
theorem pn_nI1 {j : Nat} (h1 : 1 ≤ j) (h : j < 2 ^ 31) : (1 : Int32) ≤ nI j := by
  rw [Int32.le_iff_toInt_le, nI_toInt h, show (1 : Int32).toInt = 1 from rfl]; omega
theorem mt_set {X K : (Nat → Int) → Prop} {ρ : Nat → Int} {r r2 : Int32} {f0 : Int64} {v0 : Nat} {x : Int32} {z : Int} (hw : (r = nI 0 ∧ ∃ r0 : Int32, f0 = r0.toInt64 ∧ ∃ k, k < 24 ∧ x = nI k ∧ r0 = nI (pn_lenI z) ∧ X (pn_up ρ k z)) ∨ (r = nI 1 ∧ X ρ ∧ (¬ pn_isR x))) (hm : (v0 = 1 ∧ ¬ (pn_isR x) ∧ K ρ) ∨ (∃ k, k < 24 ∧ x = nI k ∧ r2 = nI (pn_lenI z) ∧ v0 = 0 ∧ K (pn_up ρ k z))) : lw_ok r v0 f0 r2 X K := by
  rcases hw with ⟨rfl, r0, e0, k, hk, rfl, er, hX⟩ | ⟨rfl, hX, hno⟩
  · rcases hm with ⟨-, hno, -⟩ | ⟨k9, gk, ek, em, hv, hK⟩
    · exact absurd (pn_isR_nI hk) hno
    · obtain rfl := pn_nI24 hk gk ek
      exact ⟨by omega, by rw [hv], fun _ => by rw [e0, er, em], _, hX, hK⟩
  · rcases hm with ⟨hv, -, hK⟩ | ⟨k9, gk, rfl, em, hv, hK⟩
    · exact ⟨by omega, by rw [hv], fun h => absurd h (by omega), _, hX, hK⟩
    · exact absurd (pn_isR_nI gk) hno
theorem mt_push {X K : (Nat → Int) → Prop} {ρ : Nat → Int} {r r2 : Int32} {f0 : Int64} {v0 : Nat} {x y : Int32} (hw : (r = nI 0 ∧ ∃ r0 : Int32, f0 = r0.toInt64 ∧ ∃ k, k < 24 ∧ x = nI k ∧ pn_lenI (pn_push (ρ k) y) ≤ 20000 ∧ r0 = nI (pn_lenI (pn_push (ρ k) y)) ∧ X (pn_up ρ k (pn_push (ρ k) y))) ∨ (r = nI 1 ∧ X ρ ∧ (¬ pn_isR x)) ∨ (r = nI 2 ∧ X ρ ∧ (∃ k, k < 24 ∧ x = nI k ∧ 20000 < pn_lenI (pn_push (ρ k) y)))) (hm : (v0 = 1 ∧ ¬ (pn_isR x) ∧ K ρ) ∨ (∃ k, k < 24 ∧ x = nI k ∧ ((pn_lenI (pn_push (ρ k) y) ≤ 20000 ∧ r2 = nI (pn_lenI (pn_push (ρ k) y)) ∧ v0 = 0 ∧ K (pn_up ρ k (pn_push (ρ k) y))) ∨ (20000 < pn_lenI (pn_push (ρ k) y) ∧ v0 = 2 ∧ K ρ)))) : lw_ok r v0 f0 r2 X K := by
  rcases hw with ⟨rfl, r0, e0, k, hk, rfl, hle, er, hX⟩ | ⟨rfl, hX, hno⟩ | ⟨rfl, hX, k, hk, rfl, hgt⟩
  · rcases hm with ⟨-, hno, -⟩ | ⟨k9, gk, ek, ⟨-, em, hv, hK⟩ | ⟨hgt, -, -⟩⟩
    · exact absurd (pn_isR_nI hk) hno
    · obtain rfl := pn_nI24 hk gk ek
      exact ⟨by omega, by rw [hv], fun _ => by rw [e0, er, em], _, hX, hK⟩
    · obtain rfl := pn_nI24 hk gk ek
      exact absurd hgt (Nat.not_lt.mpr hle)
  · rcases hm with ⟨hv, -, hK⟩ | ⟨k9, gk, rfl, -⟩
    · exact ⟨by omega, by rw [hv], fun h => absurd h (by omega), _, hX, hK⟩
    · exact absurd (pn_isR_nI gk) hno
  · rcases hm with ⟨-, hno, -⟩ | ⟨k9, gk, ek, ⟨hle, -, -, -⟩ | ⟨-, hv, hK⟩⟩
    · exact absurd (pn_isR_nI hk) hno
    · obtain rfl := pn_nI24 hk gk ek
      exact absurd hgt (Nat.not_lt.mpr hle)
    · exact ⟨by omega, by rw [hv], fun h => absurd h (by omega), _, hX, hK⟩
theorem mt_copy {X K : (Nat → Int) → Prop} {ρ : Nat → Int} {r r2 : Int32} {f0 : Int64} {v0 : Nat} {x y : Int32} (hw : (r = nI 0 ∧ ∃ r0 : Int32, f0 = r0.toInt64 ∧ ∃ k a, k < 24 ∧ a < 24 ∧ x = nI k ∧ y = nI a ∧ r0 = nI (pn_lenI (ρ a)) ∧ X (pn_up ρ k (ρ a))) ∨ (r = nI 1 ∧ X ρ ∧ (¬ (pn_isR x ∧ pn_isR y)))) (hm : (v0 = 1 ∧ ¬ (pn_isR x ∧ pn_isR y) ∧ K ρ) ∨ (∃ k a, k < 24 ∧ a < 24 ∧ x = nI k ∧ y = nI a ∧ r2 = nI (pn_lenI (ρ a)) ∧ v0 = 0 ∧ K (pn_up ρ k (ρ a)))) : lw_ok r v0 f0 r2 X K := by
  rcases hw with ⟨rfl, r0, e0, k, a, hk, ha, rfl, rfl, er, hX⟩ | ⟨rfl, hX, hno⟩
  · rcases hm with ⟨-, hno, -⟩ | ⟨k9, a9, gk, ga, ek, ea, em, hv, hK⟩
    · exact absurd ⟨pn_isR_nI hk, pn_isR_nI ha⟩ hno
    · obtain rfl := pn_nI24 hk gk ek; obtain rfl := pn_nI24 ha ga ea
      exact ⟨by omega, by rw [hv], fun _ => by rw [e0, er, em], _, hX, hK⟩
  · rcases hm with ⟨hv, -, hK⟩ | ⟨k9, a9, gk, ga, rfl, rfl, em, hv, hK⟩
    · exact ⟨by omega, by rw [hv], fun h => absurd h (by omega), _, hX, hK⟩
    · exact absurd ⟨pn_isR_nI gk, pn_isR_nI ga⟩ hno
theorem mt_swap {X K : (Nat → Int) → Prop} {ρ : Nat → Int} {r r2 : Int32} {f0 : Int64} {v0 : Nat} {x y : Int32} (hw : (r = nI 0 ∧ ∃ r0 : Int32, f0 = r0.toInt64 ∧ ∃ k a, k < 24 ∧ a < 24 ∧ x = nI k ∧ y = nI a ∧ r0 = nI (pn_lenI (ρ a)) ∧ X (pn_up (pn_up ρ k (ρ a)) a (ρ k))) ∨ (r = nI 1 ∧ X ρ ∧ (¬ (pn_isR x ∧ pn_isR y)))) (hm : (v0 = 1 ∧ ¬ (pn_isR x ∧ pn_isR y) ∧ K ρ) ∨ (∃ k a, k < 24 ∧ a < 24 ∧ x = nI k ∧ y = nI a ∧ r2 = nI (pn_lenI (ρ a)) ∧ v0 = 0 ∧ K (pn_up (pn_up ρ k (ρ a)) a (ρ k)))) : lw_ok r v0 f0 r2 X K := by
  rcases hw with ⟨rfl, r0, e0, k, a, hk, ha, rfl, rfl, er, hX⟩ | ⟨rfl, hX, hno⟩
  · rcases hm with ⟨-, hno, -⟩ | ⟨k9, a9, gk, ga, ek, ea, em, hv, hK⟩
    · exact absurd ⟨pn_isR_nI hk, pn_isR_nI ha⟩ hno
    · obtain rfl := pn_nI24 hk gk ek; obtain rfl := pn_nI24 ha ga ea
      exact ⟨by omega, by rw [hv], fun _ => by rw [e0, er, em], _, hX, hK⟩
  · rcases hm with ⟨hv, -, hK⟩ | ⟨k9, a9, gk, ga, rfl, rfl, em, hv, hK⟩
    · exact ⟨by omega, by rw [hv], fun h => absurd h (by omega), _, hX, hK⟩
    · exact absurd ⟨pn_isR_nI gk, pn_isR_nI ga⟩ hno
theorem mt_negate {X K : (Nat → Int) → Prop} {ρ : Nat → Int} {r r2 : Int32} {f0 : Int64} {v0 : Nat} {x : Int32} (hw : (r = nI 0 ∧ ∃ r0 : Int32, f0 = r0.toInt64 ∧ ∃ k, k < 24 ∧ x = nI k ∧ r0 = nI (pn_lenI (ρ k)) ∧ X (pn_up ρ k (-ρ k))) ∨ (r = nI 1 ∧ X ρ ∧ (¬ pn_isR x))) (hm : (v0 = 1 ∧ ¬ (pn_isR x) ∧ K ρ) ∨ (∃ k, k < 24 ∧ x = nI k ∧ r2 = nI (pn_lenI (ρ k)) ∧ v0 = 0 ∧ K (pn_up ρ k (-ρ k)))) : lw_ok r v0 f0 r2 X K := by
  rcases hw with ⟨rfl, r0, e0, k, hk, rfl, er, hX⟩ | ⟨rfl, hX, hno⟩
  · rcases hm with ⟨-, hno, -⟩ | ⟨k9, gk, ek, em, hv, hK⟩
    · exact absurd (pn_isR_nI hk) hno
    · obtain rfl := pn_nI24 hk gk ek
      exact ⟨by omega, by rw [hv], fun _ => by rw [e0, er, em], _, hX, hK⟩
  · rcases hm with ⟨hv, -, hK⟩ | ⟨k9, gk, rfl, em, hv, hK⟩
    · exact ⟨by omega, by rw [hv], fun h => absurd h (by omega), _, hX, hK⟩
    · exact absurd (pn_isR_nI gk) hno
theorem mt_add {X K : (Nat → Int) → Prop} {ρ : Nat → Int} {r r2 : Int32} {f0 : Int64} {v0 : Nat} {x y z : Int32} (hw : (r = nI 0 ∧ ∃ r0 : Int32, f0 = r0.toInt64 ∧ ∃ k a b, k < 24 ∧ a < 24 ∧ b < 24 ∧ x = nI k ∧ y = nI a ∧ z = nI b ∧ pn_lenI (pn_sum false (ρ a) (ρ b)) ≤ 20000 ∧ r0 = nI (pn_lenI (pn_sum false (ρ a) (ρ b))) ∧ X (pn_up ρ k (pn_sum false (ρ a) (ρ b)))) ∨ (r = nI 1 ∧ X ρ ∧ (¬ (pn_isR x ∧ pn_isR y ∧ pn_isR z))) ∨ (r = nI 2 ∧ X ρ ∧ (∃ k a b, k < 24 ∧ a < 24 ∧ b < 24 ∧ x = nI k ∧ y = nI a ∧ z = nI b ∧ 20000 < pn_lenI (pn_sum false (ρ a) (ρ b))))) (hm : (v0 = 1 ∧ ¬ (pn_isR x ∧ pn_isR y ∧ pn_isR z) ∧ K ρ) ∨ (∃ k a b, k < 24 ∧ a < 24 ∧ b < 24 ∧ x = nI k ∧ y = nI a ∧ z = nI b ∧ ((pn_lenI (pn_sum false (ρ a) (ρ b)) ≤ 20000 ∧ r2 = nI (pn_lenI (pn_sum false (ρ a) (ρ b))) ∧ v0 = 0 ∧ K (pn_up ρ k (pn_sum false (ρ a) (ρ b)))) ∨ (20000 < pn_lenI (pn_sum false (ρ a) (ρ b)) ∧ v0 = 2 ∧ K ρ)))) : lw_ok r v0 f0 r2 X K := by
  rcases hw with ⟨rfl, r0, e0, k, a, b, hk, ha, hb, rfl, rfl, rfl, hle, er, hX⟩ | ⟨rfl, hX, hno⟩ | ⟨rfl, hX, k, a, b, hk, ha, hb, rfl, rfl, rfl, hgt⟩
  · rcases hm with ⟨-, hno, -⟩ | ⟨k9, a9, b9, gk, ga, gb, ek, ea, eb, ⟨-, em, hv, hK⟩ | ⟨hgt, -, -⟩⟩
    · exact absurd ⟨pn_isR_nI hk, pn_isR_nI ha, pn_isR_nI hb⟩ hno
    · obtain rfl := pn_nI24 hk gk ek; obtain rfl := pn_nI24 ha ga ea; obtain rfl := pn_nI24 hb gb eb
      exact ⟨by omega, by rw [hv], fun _ => by rw [e0, er, em], _, hX, hK⟩
    · obtain rfl := pn_nI24 hk gk ek; obtain rfl := pn_nI24 ha ga ea; obtain rfl := pn_nI24 hb gb eb
      exact absurd hgt (Nat.not_lt.mpr hle)
  · rcases hm with ⟨hv, -, hK⟩ | ⟨k9, a9, b9, gk, ga, gb, rfl, rfl, rfl, -⟩
    · exact ⟨by omega, by rw [hv], fun h => absurd h (by omega), _, hX, hK⟩
    · exact absurd ⟨pn_isR_nI gk, pn_isR_nI ga, pn_isR_nI gb⟩ hno
  · rcases hm with ⟨-, hno, -⟩ | ⟨k9, a9, b9, gk, ga, gb, ek, ea, eb, ⟨hle, -, -, -⟩ | ⟨-, hv, hK⟩⟩
    · exact absurd ⟨pn_isR_nI hk, pn_isR_nI ha, pn_isR_nI hb⟩ hno
    · obtain rfl := pn_nI24 hk gk ek; obtain rfl := pn_nI24 ha ga ea; obtain rfl := pn_nI24 hb gb eb
      exact absurd hgt (Nat.not_lt.mpr hle)
    · exact ⟨by omega, by rw [hv], fun h => absurd h (by omega), _, hX, hK⟩
theorem mt_subtract {X K : (Nat → Int) → Prop} {ρ : Nat → Int} {r r2 : Int32} {f0 : Int64} {v0 : Nat} {x y z : Int32} (hw : (r = nI 0 ∧ ∃ r0 : Int32, f0 = r0.toInt64 ∧ ∃ k a b, k < 24 ∧ a < 24 ∧ b < 24 ∧ x = nI k ∧ y = nI a ∧ z = nI b ∧ pn_lenI (pn_sum true (ρ a) (ρ b)) ≤ 20000 ∧ r0 = nI (pn_lenI (pn_sum true (ρ a) (ρ b))) ∧ X (pn_up ρ k (pn_sum true (ρ a) (ρ b)))) ∨ (r = nI 1 ∧ X ρ ∧ (¬ (pn_isR x ∧ pn_isR y ∧ pn_isR z))) ∨ (r = nI 2 ∧ X ρ ∧ (∃ k a b, k < 24 ∧ a < 24 ∧ b < 24 ∧ x = nI k ∧ y = nI a ∧ z = nI b ∧ 20000 < pn_lenI (pn_sum true (ρ a) (ρ b))))) (hm : (v0 = 1 ∧ ¬ (pn_isR x ∧ pn_isR y ∧ pn_isR z) ∧ K ρ) ∨ (∃ k a b, k < 24 ∧ a < 24 ∧ b < 24 ∧ x = nI k ∧ y = nI a ∧ z = nI b ∧ ((pn_lenI (pn_sum true (ρ a) (ρ b)) ≤ 20000 ∧ r2 = nI (pn_lenI (pn_sum true (ρ a) (ρ b))) ∧ v0 = 0 ∧ K (pn_up ρ k (pn_sum true (ρ a) (ρ b)))) ∨ (20000 < pn_lenI (pn_sum true (ρ a) (ρ b)) ∧ v0 = 2 ∧ K ρ)))) : lw_ok r v0 f0 r2 X K := by
  rcases hw with ⟨rfl, r0, e0, k, a, b, hk, ha, hb, rfl, rfl, rfl, hle, er, hX⟩ | ⟨rfl, hX, hno⟩ | ⟨rfl, hX, k, a, b, hk, ha, hb, rfl, rfl, rfl, hgt⟩
  · rcases hm with ⟨-, hno, -⟩ | ⟨k9, a9, b9, gk, ga, gb, ek, ea, eb, ⟨-, em, hv, hK⟩ | ⟨hgt, -, -⟩⟩
    · exact absurd ⟨pn_isR_nI hk, pn_isR_nI ha, pn_isR_nI hb⟩ hno
    · obtain rfl := pn_nI24 hk gk ek; obtain rfl := pn_nI24 ha ga ea; obtain rfl := pn_nI24 hb gb eb
      exact ⟨by omega, by rw [hv], fun _ => by rw [e0, er, em], _, hX, hK⟩
    · obtain rfl := pn_nI24 hk gk ek; obtain rfl := pn_nI24 ha ga ea; obtain rfl := pn_nI24 hb gb eb
      exact absurd hgt (Nat.not_lt.mpr hle)
  · rcases hm with ⟨hv, -, hK⟩ | ⟨k9, a9, b9, gk, ga, gb, rfl, rfl, rfl, -⟩
    · exact ⟨by omega, by rw [hv], fun h => absurd h (by omega), _, hX, hK⟩
    · exact absurd ⟨pn_isR_nI gk, pn_isR_nI ga, pn_isR_nI gb⟩ hno
  · rcases hm with ⟨-, hno, -⟩ | ⟨k9, a9, b9, gk, ga, gb, ek, ea, eb, ⟨hle, -, -, -⟩ | ⟨-, hv, hK⟩⟩
    · exact absurd ⟨pn_isR_nI hk, pn_isR_nI ha, pn_isR_nI hb⟩ hno
    · obtain rfl := pn_nI24 hk gk ek; obtain rfl := pn_nI24 ha ga ea; obtain rfl := pn_nI24 hb gb eb
      exact absurd hgt (Nat.not_lt.mpr hle)
    · exact ⟨by omega, by rw [hv], fun h => absurd h (by omega), _, hX, hK⟩
theorem mt_multiply {X K : (Nat → Int) → Prop} {ρ : Nat → Int} {r r2 : Int32} {f0 : Int64} {v0 : Nat} {x y z : Int32} (hw : (r = nI 0 ∧ ∃ r0 : Int32, f0 = r0.toInt64 ∧ ∃ k a b, k < 24 ∧ a < 24 ∧ b < 24 ∧ x = nI k ∧ y = nI a ∧ z = nI b ∧ pn_lenI (ρ a * ρ b) ≤ 20000 ∧ r0 = nI (pn_lenI (ρ a * ρ b)) ∧ X (pn_up ρ k (ρ a * ρ b))) ∨ (r = nI 1 ∧ X ρ ∧ (¬ (pn_isR x ∧ pn_isR y ∧ pn_isR z))) ∨ (r = nI 2 ∧ X ρ ∧ (∃ k a b, k < 24 ∧ a < 24 ∧ b < 24 ∧ x = nI k ∧ y = nI a ∧ z = nI b ∧ 20000 < pn_lenI (ρ a * ρ b)))) (hm : (v0 = 1 ∧ ¬ (pn_isR x ∧ pn_isR y ∧ pn_isR z) ∧ K ρ) ∨ (∃ k a b, k < 24 ∧ a < 24 ∧ b < 24 ∧ x = nI k ∧ y = nI a ∧ z = nI b ∧ ((pn_lenI (ρ a * ρ b) ≤ 20000 ∧ r2 = nI (pn_lenI (ρ a * ρ b)) ∧ v0 = 0 ∧ K (pn_up ρ k (ρ a * ρ b))) ∨ (20000 < pn_lenI (ρ a * ρ b) ∧ v0 = 2 ∧ K ρ)))) : lw_ok r v0 f0 r2 X K := by
  rcases hw with ⟨rfl, r0, e0, k, a, b, hk, ha, hb, rfl, rfl, rfl, hle, er, hX⟩ | ⟨rfl, hX, hno⟩ | ⟨rfl, hX, k, a, b, hk, ha, hb, rfl, rfl, rfl, hgt⟩
  · rcases hm with ⟨-, hno, -⟩ | ⟨k9, a9, b9, gk, ga, gb, ek, ea, eb, ⟨-, em, hv, hK⟩ | ⟨hgt, -, -⟩⟩
    · exact absurd ⟨pn_isR_nI hk, pn_isR_nI ha, pn_isR_nI hb⟩ hno
    · obtain rfl := pn_nI24 hk gk ek; obtain rfl := pn_nI24 ha ga ea; obtain rfl := pn_nI24 hb gb eb
      exact ⟨by omega, by rw [hv], fun _ => by rw [e0, er, em], _, hX, hK⟩
    · obtain rfl := pn_nI24 hk gk ek; obtain rfl := pn_nI24 ha ga ea; obtain rfl := pn_nI24 hb gb eb
      exact absurd hgt (Nat.not_lt.mpr hle)
  · rcases hm with ⟨hv, -, hK⟩ | ⟨k9, a9, b9, gk, ga, gb, rfl, rfl, rfl, -⟩
    · exact ⟨by omega, by rw [hv], fun h => absurd h (by omega), _, hX, hK⟩
    · exact absurd ⟨pn_isR_nI gk, pn_isR_nI ga, pn_isR_nI gb⟩ hno
  · rcases hm with ⟨-, hno, -⟩ | ⟨k9, a9, b9, gk, ga, gb, ek, ea, eb, ⟨hle, -, -, -⟩ | ⟨-, hv, hK⟩⟩
    · exact absurd ⟨pn_isR_nI hk, pn_isR_nI ha, pn_isR_nI hb⟩ hno
    · obtain rfl := pn_nI24 hk gk ek; obtain rfl := pn_nI24 ha ga ea; obtain rfl := pn_nI24 hb gb eb
      exact absurd hgt (Nat.not_lt.mpr hle)
    · exact ⟨by omega, by rw [hv], fun h => absurd h (by omega), _, hX, hK⟩
theorem mt_addProduct {X K : (Nat → Int) → Prop} {ρ : Nat → Int} {r r2 : Int32} {f0 : Int64} {v0 : Nat} {x y z : Int32} {v : Bool} (hw : (r = nI 0 ∧ ∃ r0 : Int32, f0 = r0.toInt64 ∧ ∃ k a b, k < 24 ∧ a < 24 ∧ b < 24 ∧ x = nI k ∧ y = nI a ∧ z = nI b ∧ pn_lenI (pn_sum v (ρ k) (ρ a * ρ b)) ≤ 20000 ∧ r0 = nI (pn_lenI (pn_sum v (ρ k) (ρ a * ρ b))) ∧ X (pn_up ρ k (pn_sum v (ρ k) (ρ a * ρ b)))) ∨ (r = nI 1 ∧ X ρ ∧ (¬ (pn_isR x ∧ pn_isR y ∧ pn_isR z))) ∨ (r = nI 2 ∧ X ρ ∧ (∃ k a b, k < 24 ∧ a < 24 ∧ b < 24 ∧ x = nI k ∧ y = nI a ∧ z = nI b ∧ 20000 < pn_lenI (pn_sum v (ρ k) (ρ a * ρ b))))) (hm : (v0 = 1 ∧ ¬ (pn_isR x ∧ pn_isR y ∧ pn_isR z) ∧ K ρ) ∨ (∃ k a b, k < 24 ∧ a < 24 ∧ b < 24 ∧ x = nI k ∧ y = nI a ∧ z = nI b ∧ ((pn_lenI (pn_sum v (ρ k) (ρ a * ρ b)) ≤ 20000 ∧ r2 = nI (pn_lenI (pn_sum v (ρ k) (ρ a * ρ b))) ∧ v0 = 0 ∧ K (pn_up ρ k (pn_sum v (ρ k) (ρ a * ρ b)))) ∨ (20000 < pn_lenI (pn_sum v (ρ k) (ρ a * ρ b)) ∧ v0 = 2 ∧ K ρ)))) : lw_ok r v0 f0 r2 X K := by
  rcases hw with ⟨rfl, r0, e0, k, a, b, hk, ha, hb, rfl, rfl, rfl, hle, er, hX⟩ | ⟨rfl, hX, hno⟩ | ⟨rfl, hX, k, a, b, hk, ha, hb, rfl, rfl, rfl, hgt⟩
  · rcases hm with ⟨-, hno, -⟩ | ⟨k9, a9, b9, gk, ga, gb, ek, ea, eb, ⟨-, em, hv, hK⟩ | ⟨hgt, -, -⟩⟩
    · exact absurd ⟨pn_isR_nI hk, pn_isR_nI ha, pn_isR_nI hb⟩ hno
    · obtain rfl := pn_nI24 hk gk ek; obtain rfl := pn_nI24 ha ga ea; obtain rfl := pn_nI24 hb gb eb
      exact ⟨by omega, by rw [hv], fun _ => by rw [e0, er, em], _, hX, hK⟩
    · obtain rfl := pn_nI24 hk gk ek; obtain rfl := pn_nI24 ha ga ea; obtain rfl := pn_nI24 hb gb eb
      exact absurd hgt (Nat.not_lt.mpr hle)
  · rcases hm with ⟨hv, -, hK⟩ | ⟨k9, a9, b9, gk, ga, gb, rfl, rfl, rfl, -⟩
    · exact ⟨by omega, by rw [hv], fun h => absurd h (by omega), _, hX, hK⟩
    · exact absurd ⟨pn_isR_nI gk, pn_isR_nI ga, pn_isR_nI gb⟩ hno
  · rcases hm with ⟨-, hno, -⟩ | ⟨k9, a9, b9, gk, ga, gb, ek, ea, eb, ⟨hle, -, -, -⟩ | ⟨-, hv, hK⟩⟩
    · exact absurd ⟨pn_isR_nI hk, pn_isR_nI ha, pn_isR_nI hb⟩ hno
    · obtain rfl := pn_nI24 hk gk ek; obtain rfl := pn_nI24 ha ga ea; obtain rfl := pn_nI24 hb gb eb
      exact absurd hgt (Nat.not_lt.mpr hle)
    · exact ⟨by omega, by rw [hv], fun h => absurd h (by omega), _, hX, hK⟩
theorem mt_divide {X K : (Nat → Int) → Prop} {ρ : Nat → Int} {r r2 : Int32} {f0 : Int64} {v0 : Nat} {x y z t : Int32} (hw : (r = nI 0 ∧ ∃ r0 : Int32, f0 = r0.toInt64 ∧ ∃ k q a b, k < 24 ∧ q < 24 ∧ a < 24 ∧ b < 24 ∧ x = nI k ∧ y = nI q ∧ z = nI a ∧ t = nI b ∧ k ≠ q ∧ 0 < ρ b ∧ r0 = nI (pn_lenI (ρ a / ρ b)) ∧ X (pn_up (pn_up ρ q (ρ a % ρ b)) k (ρ a / ρ b))) ∨ (r = nI 1 ∧ X ρ ∧ (¬ ((pn_isR x ∧ pn_isR y) ∧ pn_isR z ∧ pn_isR t))) ∨ (r = nI 2 ∧ X ρ ∧ (((pn_isR x ∧ pn_isR y) ∧ pn_isR z ∧ pn_isR t) ∧ x = y)) ∨ (r = nI 3 ∧ X ρ ∧ (∃ k q a b, k < 24 ∧ q < 24 ∧ a < 24 ∧ b < 24 ∧ x = nI k ∧ y = nI q ∧ z = nI a ∧ t = nI b ∧ k ≠ q ∧ ¬ 0 < ρ b))) (hm : (v0 = 1 ∧ ¬ ((pn_isR x ∧ pn_isR y) ∧ pn_isR z ∧ pn_isR t) ∧ K ρ) ∨ (v0 = 2 ∧ ((pn_isR x ∧ pn_isR y) ∧ pn_isR z ∧ pn_isR t) ∧ x = y ∧ K ρ) ∨ (∃ k q a b, k < 24 ∧ q < 24 ∧ a < 24 ∧ b < 24 ∧ x = nI k ∧ y = nI q ∧ z = nI a ∧ t = nI b ∧ k ≠ q ∧ ((v0 = 3 ∧ ¬ 0 < ρ b ∧ K ρ) ∨ (0 < ρ b ∧ r2 = nI (pn_lenI (ρ a / ρ b)) ∧ v0 = 0 ∧ K (pn_up (pn_up ρ q (ρ a % ρ b)) k (ρ a / ρ b)))))) : lw_ok r v0 f0 r2 X K := by
  rcases hw with ⟨rfl, r0, e0, k, q, a, b, hk, hq, ha, hb, rfl, rfl, rfl, rfl, hne, hb0, er, hX⟩ | ⟨rfl, hX, hno⟩ | ⟨rfl, hX, hyes, hxy⟩ | ⟨rfl, hX, k, q, a, b, hk, hq, ha, hb, rfl, rfl, rfl, rfl, hne, hbad⟩
  · rcases hm with ⟨-, hno, -⟩ | ⟨-, -, hxy, -⟩ | ⟨k9, q9, a9, b9, gk, gq, ga, gb, ek, eq, ea, eb, -, ⟨-, hbad, -⟩ | ⟨-, em, hv, hK⟩⟩
    · exact absurd ⟨⟨pn_isR_nI hk, pn_isR_nI hq⟩, pn_isR_nI ha, pn_isR_nI hb⟩ hno
    · exact absurd (pn_nI24 hk hq hxy) hne
    · obtain rfl := pn_nI24 hk gk ek; obtain rfl := pn_nI24 hq gq eq; obtain rfl := pn_nI24 ha ga ea; obtain rfl := pn_nI24 hb gb eb
      exact absurd hb0 hbad
    · obtain rfl := pn_nI24 hk gk ek; obtain rfl := pn_nI24 hq gq eq; obtain rfl := pn_nI24 ha ga ea; obtain rfl := pn_nI24 hb gb eb
      exact ⟨by omega, by rw [hv], fun _ => by rw [e0, er, em], _, hX, hK⟩
  · rcases hm with ⟨hv, -, hK⟩ | ⟨-, hyes, -⟩ | ⟨k9, q9, a9, b9, gk, gq, ga, gb, rfl, rfl, rfl, rfl, -⟩
    · exact ⟨by omega, by rw [hv], fun h => absurd h (by omega), _, hX, hK⟩
    · exact absurd hyes hno
    · exact absurd ⟨⟨pn_isR_nI gk, pn_isR_nI gq⟩, pn_isR_nI ga, pn_isR_nI gb⟩ hno
  · rcases hm with ⟨-, hno, -⟩ | ⟨hv, -, -, hK⟩ | ⟨k9, q9, a9, b9, gk, gq, ga, gb, rfl, rfl, rfl, rfl, hne, -⟩
    · exact absurd hyes hno
    · exact ⟨by omega, by rw [hv], fun h => absurd h (by omega), _, hX, hK⟩
    · exact absurd (pn_nI24 gk gq hxy) hne
  · rcases hm with ⟨-, hno, -⟩ | ⟨-, -, hxy, -⟩ | ⟨k9, q9, a9, b9, gk, gq, ga, gb, ek, eq, ea, eb, -, ⟨hv, -, hK⟩ | ⟨hb0, -, -, -⟩⟩
    · exact absurd ⟨⟨pn_isR_nI hk, pn_isR_nI hq⟩, pn_isR_nI ha, pn_isR_nI hb⟩ hno
    · exact absurd (pn_nI24 hk hq hxy) hne
    · exact ⟨by omega, by rw [hv], fun h => absurd h (by omega), _, hX, hK⟩
    · obtain rfl := pn_nI24 hk gk ek; obtain rfl := pn_nI24 hq gq eq; obtain rfl := pn_nI24 ha ga ea; obtain rfl := pn_nI24 hb gb eb
      exact absurd hb0 hbad
theorem mt_exact {X K : (Nat → Int) → Prop} {ρ : Nat → Int} {r r2 : Int32} {f0 : Int64} {v0 : Nat} {x y z : Int32} (hw : (r = nI 0 ∧ ∃ r0 : Int32, f0 = r0.toInt64 ∧ ∃ k a b, k < 24 ∧ a < 24 ∧ b < 24 ∧ x = nI k ∧ y = nI a ∧ z = nI b ∧ ρ b ≠ 0 ∧ ρ a % ρ b = 0 ∧ r0 = nI (pn_lenI (ρ a / ρ b)) ∧ X (pn_up ρ k (ρ a / ρ b))) ∨ (r = nI 1 ∧ X ρ ∧ (¬ (pn_isR x ∧ pn_isR y ∧ pn_isR z))) ∨ (r = nI 2 ∧ X ρ ∧ (∃ k a b, k < 24 ∧ a < 24 ∧ b < 24 ∧ x = nI k ∧ y = nI a ∧ z = nI b ∧ (ρ b = 0 ∨ ρ a % ρ b ≠ 0)))) (hm : (v0 = 1 ∧ ¬ (pn_isR x ∧ pn_isR y ∧ pn_isR z) ∧ K ρ) ∨ (∃ k a b, k < 24 ∧ a < 24 ∧ b < 24 ∧ x = nI k ∧ y = nI a ∧ z = nI b ∧ ((v0 = 2 ∧ (ρ b = 0 ∨ ρ a % ρ b ≠ 0) ∧ K ρ) ∨ (ρ b ≠ 0 ∧ ρ a % ρ b = 0 ∧ r2 = nI (pn_lenI (ρ a / ρ b)) ∧ v0 = 0 ∧ K (pn_up ρ k (ρ a / ρ b)))))) : lw_ok r v0 f0 r2 X K := by
  rcases hw with ⟨rfl, r0, e0, k, a, b, hk, ha, hb, rfl, rfl, rfl, hb0, hm0, er, hX⟩ | ⟨rfl, hX, hno⟩ | ⟨rfl, hX, k, a, b, hk, ha, hb, rfl, rfl, rfl, hbad⟩
  · rcases hm with ⟨-, hno, -⟩ | ⟨k9, a9, b9, gk, ga, gb, ek, ea, eb, ⟨-, hbad, -⟩ | ⟨-, -, em, hv, hK⟩⟩
    · exact absurd ⟨pn_isR_nI hk, pn_isR_nI ha, pn_isR_nI hb⟩ hno
    · obtain rfl := pn_nI24 hk gk ek; obtain rfl := pn_nI24 ha ga ea; obtain rfl := pn_nI24 hb gb eb
      exact (hbad.elim (fun q => hb0 q) (fun q => q hm0)).elim
    · obtain rfl := pn_nI24 hk gk ek; obtain rfl := pn_nI24 ha ga ea; obtain rfl := pn_nI24 hb gb eb
      exact ⟨by omega, by rw [hv], fun _ => by rw [e0, er, em], _, hX, hK⟩
  · rcases hm with ⟨hv, -, hK⟩ | ⟨k9, a9, b9, gk, ga, gb, rfl, rfl, rfl, -⟩
    · exact ⟨by omega, by rw [hv], fun h => absurd h (by omega), _, hX, hK⟩
    · exact absurd ⟨pn_isR_nI gk, pn_isR_nI ga, pn_isR_nI gb⟩ hno
  · rcases hm with ⟨-, hno, -⟩ | ⟨k9, a9, b9, gk, ga, gb, ek, ea, eb, ⟨hv, -, hK⟩ | ⟨hb0, hm0, -, -, -⟩⟩
    · exact absurd ⟨pn_isR_nI hk, pn_isR_nI ha, pn_isR_nI hb⟩ hno
    · exact ⟨by omega, by rw [hv], fun h => absurd h (by omega), _, hX, hK⟩
    · obtain rfl := pn_nI24 hk gk ek; obtain rfl := pn_nI24 ha ga ea; obtain rfl := pn_nI24 hb gb eb
      exact (hbad.elim (fun q => hb0 q) (fun q => q hm0)).elim
theorem mt_nearest {X K : (Nat → Int) → Prop} {ρ : Nat → Int} {r r2 : Int32} {f0 : Int64} {v0 : Nat} {x y z : Int32} (hw : (r = nI 0 ∧ ∃ r0 : Int32, f0 = r0.toInt64 ∧ ∃ k a b, k < 24 ∧ a < 24 ∧ b < 24 ∧ x = nI k ∧ y = nI a ∧ z = nI b ∧ 0 < ρ b ∧ r0 = nI (pn_lenI (pn_near (ρ a) (ρ b))) ∧ X (pn_up ρ k (pn_near (ρ a) (ρ b)))) ∨ (r = nI 1 ∧ X ρ ∧ (¬ (pn_isR x ∧ pn_isR y ∧ pn_isR z))) ∨ (r = nI 2 ∧ X ρ ∧ (∃ k a b, k < 24 ∧ a < 24 ∧ b < 24 ∧ x = nI k ∧ y = nI a ∧ z = nI b ∧ ¬ 0 < ρ b))) (hm : (v0 = 1 ∧ ¬ (pn_isR x ∧ pn_isR y ∧ pn_isR z) ∧ K ρ) ∨ (∃ k a b, k < 24 ∧ a < 24 ∧ b < 24 ∧ x = nI k ∧ y = nI a ∧ z = nI b ∧ ((v0 = 2 ∧ ¬ 0 < ρ b ∧ K ρ) ∨ (0 < ρ b ∧ r2 = nI (pn_lenI (pn_near (ρ a) (ρ b))) ∧ v0 = 0 ∧ K (pn_up ρ k (pn_near (ρ a) (ρ b))))))) : lw_ok r v0 f0 r2 X K := by
  rcases hw with ⟨rfl, r0, e0, k, a, b, hk, ha, hb, rfl, rfl, rfl, hb0, er, hX⟩ | ⟨rfl, hX, hno⟩ | ⟨rfl, hX, k, a, b, hk, ha, hb, rfl, rfl, rfl, hbad⟩
  · rcases hm with ⟨-, hno, -⟩ | ⟨k9, a9, b9, gk, ga, gb, ek, ea, eb, ⟨-, hbad, -⟩ | ⟨-, em, hv, hK⟩⟩
    · exact absurd ⟨pn_isR_nI hk, pn_isR_nI ha, pn_isR_nI hb⟩ hno
    · obtain rfl := pn_nI24 hk gk ek; obtain rfl := pn_nI24 ha ga ea; obtain rfl := pn_nI24 hb gb eb
      exact absurd hb0 hbad
    · obtain rfl := pn_nI24 hk gk ek; obtain rfl := pn_nI24 ha ga ea; obtain rfl := pn_nI24 hb gb eb
      exact ⟨by omega, by rw [hv], fun _ => by rw [e0, er, em], _, hX, hK⟩
  · rcases hm with ⟨hv, -, hK⟩ | ⟨k9, a9, b9, gk, ga, gb, rfl, rfl, rfl, -⟩
    · exact ⟨by omega, by rw [hv], fun h => absurd h (by omega), _, hX, hK⟩
    · exact absurd ⟨pn_isR_nI gk, pn_isR_nI ga, pn_isR_nI gb⟩ hno
  · rcases hm with ⟨-, hno, -⟩ | ⟨k9, a9, b9, gk, ga, gb, ek, ea, eb, ⟨hv, -, hK⟩ | ⟨hb0, -, -, -⟩⟩
    · exact absurd ⟨pn_isR_nI hk, pn_isR_nI ha, pn_isR_nI hb⟩ hno
    · exact ⟨by omega, by rw [hv], fun h => absurd h (by omega), _, hX, hK⟩
    · obtain rfl := pn_nI24 hk gk ek; obtain rfl := pn_nI24 ha ga ea; obtain rfl := pn_nI24 hb gb eb
      exact absurd hb0 hbad
theorem mt_gcd {X K : (Nat → Int) → Prop} {ρ : Nat → Int} {r r2 : Int32} {f0 : Int64} {v0 : Nat} {x y z : Int32} (hw : (r = nI 0 ∧ ∃ r0 : Int32, f0 = r0.toInt64 ∧ ∃ k a b, k < 24 ∧ a < 24 ∧ b < 24 ∧ x = nI k ∧ y = nI a ∧ z = nI b ∧ r0 = nI (pn_lenI ((Int.gcd (ρ a) (ρ b) : Nat) : Int)) ∧ X (pn_up ρ k ((Int.gcd (ρ a) (ρ b) : Nat) : Int))) ∨ (r = nI 1 ∧ X ρ ∧ (¬ (pn_isR x ∧ pn_isR y ∧ pn_isR z)))) (hm : (v0 = 1 ∧ ¬ (pn_isR x ∧ pn_isR y ∧ pn_isR z) ∧ K ρ) ∨ (∃ k a b, k < 24 ∧ a < 24 ∧ b < 24 ∧ x = nI k ∧ y = nI a ∧ z = nI b ∧ r2 = nI (pn_lenI ((Int.gcd (ρ a) (ρ b) : Nat) : Int)) ∧ v0 = 0 ∧ K (pn_up ρ k ((Int.gcd (ρ a) (ρ b) : Nat) : Int)))) : lw_ok r v0 f0 r2 X K := by
  rcases hw with ⟨rfl, r0, e0, k, a, b, hk, ha, hb, rfl, rfl, rfl, er, hX⟩ | ⟨rfl, hX, hno⟩
  · rcases hm with ⟨-, hno, -⟩ | ⟨k9, a9, b9, gk, ga, gb, ek, ea, eb, em, hv, hK⟩
    · exact absurd ⟨pn_isR_nI hk, pn_isR_nI ha, pn_isR_nI hb⟩ hno
    · obtain rfl := pn_nI24 hk gk ek; obtain rfl := pn_nI24 ha ga ea; obtain rfl := pn_nI24 hb gb eb
      exact ⟨by omega, by rw [hv], fun _ => by rw [e0, er, em], _, hX, hK⟩
  · rcases hm with ⟨hv, -, hK⟩ | ⟨k9, a9, b9, gk, ga, gb, rfl, rfl, rfl, em, hv, hK⟩
    · exact ⟨by omega, by rw [hv], fun h => absurd h (by omega), _, hX, hK⟩
    · exact absurd ⟨pn_isR_nI gk, pn_isR_nI ga, pn_isR_nI gb⟩ hno
theorem mt_compare {X K : (Nat → Int) → Prop} {ρ : Nat → Int} {r r2 : Int32} {f0 : Int64} {v0 : Nat} {x y : Int32} (hw : (r = nI 0 ∧ ∃ r0 : Int32, f0 = r0.toInt64 ∧ ∃ k a, k < 24 ∧ a < 24 ∧ x = nI k ∧ y = nI a ∧ r0 = pn_cmp (ρ k) (ρ a) ∧ X ρ) ∨ (r = nI 1 ∧ X ρ ∧ (¬ (pn_isR x ∧ pn_isR y)))) (hm : (v0 = 1 ∧ ¬ (pn_isR x ∧ pn_isR y) ∧ K ρ) ∨ (∃ k a, k < 24 ∧ a < 24 ∧ x = nI k ∧ y = nI a ∧ r2 = pn_cmp (ρ k) (ρ a) ∧ v0 = 0 ∧ K ρ)) : lw_ok r v0 f0 r2 X K := by
  rcases hw with ⟨rfl, r0, e0, k, a, hk, ha, rfl, rfl, er, hX⟩ | ⟨rfl, hX, hno⟩
  · rcases hm with ⟨-, hno, -⟩ | ⟨k9, a9, gk, ga, ek, ea, em, hv, hK⟩
    · exact absurd ⟨pn_isR_nI hk, pn_isR_nI ha⟩ hno
    · obtain rfl := pn_nI24 hk gk ek; obtain rfl := pn_nI24 ha ga ea
      exact ⟨by omega, by rw [hv], fun _ => by rw [e0, er, em], _, hX, hK⟩
  · rcases hm with ⟨hv, -, hK⟩ | ⟨k9, a9, gk, ga, rfl, rfl, em, hv, hK⟩
    · exact ⟨by omega, by rw [hv], fun h => absurd h (by omega), _, hX, hK⟩
    · exact absurd ⟨pn_isR_nI gk, pn_isR_nI ga⟩ hno
theorem mt_sign {X K : (Nat → Int) → Prop} {ρ : Nat → Int} {r r2 : Int32} {f0 : Int64} {v0 : Nat} {x : Int32} (hw : (r = nI 0 ∧ ∃ r0 : Int32, f0 = r0.toInt64 ∧ ∃ k, k < 24 ∧ x = nI k ∧ r0 = pn_cmp (ρ k) 0 ∧ X ρ) ∨ (r = nI 1 ∧ X ρ ∧ (¬ pn_isR x))) (hm : (v0 = 1 ∧ ¬ (pn_isR x) ∧ K ρ) ∨ (∃ k, k < 24 ∧ x = nI k ∧ r2 = pn_cmp (ρ k) 0 ∧ v0 = 0 ∧ K ρ)) : lw_ok r v0 f0 r2 X K := by
  rcases hw with ⟨rfl, r0, e0, k, hk, rfl, er, hX⟩ | ⟨rfl, hX, hno⟩
  · rcases hm with ⟨-, hno, -⟩ | ⟨k9, gk, ek, em, hv, hK⟩
    · exact absurd (pn_isR_nI hk) hno
    · obtain rfl := pn_nI24 hk gk ek
      exact ⟨by omega, by rw [hv], fun _ => by rw [e0, er, em], _, hX, hK⟩
  · rcases hm with ⟨hv, -, hK⟩ | ⟨k9, gk, rfl, em, hv, hK⟩
    · exact ⟨by omega, by rw [hv], fun h => absurd h (by omega), _, hX, hK⟩
    · exact absurd (pn_isR_nI gk) hno
theorem mt_length {X K : (Nat → Int) → Prop} {ρ : Nat → Int} {r r2 : Int32} {f0 : Int64} {v0 : Nat} {Z : Prop} {x : Int32} (hw : (r = nI 0 ∧ ∃ r0 : Int32, f0 = r0.toInt64 ∧ ∃ k, k < 24 ∧ x = nI k ∧ r0 = nI (pn_lenI (ρ k)) ∧ X ρ ∧ Z) ∨ (r = nI 1 ∧ X ρ ∧ (¬ pn_isR x))) (hm : (v0 = 1 ∧ ¬ (pn_isR x) ∧ K ρ) ∨ (∃ k, k < 24 ∧ x = nI k ∧ r2 = nI (pn_lenI (ρ k)) ∧ v0 = 0 ∧ K ρ)) : lw_ok r v0 f0 r2 X K := by
  rcases hw with ⟨rfl, r0, e0, k, hk, rfl, er, hX, -⟩ | ⟨rfl, hX, hno⟩
  · rcases hm with ⟨-, hno, -⟩ | ⟨k9, gk, ek, em, hv, hK⟩
    · exact absurd (pn_isR_nI hk) hno
    · obtain rfl := pn_nI24 hk gk ek
      exact ⟨by omega, by rw [hv], fun _ => by rw [e0, er, em], _, hX, hK⟩
  · rcases hm with ⟨hv, -, hK⟩ | ⟨k9, gk, rfl, em, hv, hK⟩
    · exact ⟨by omega, by rw [hv], fun h => absurd h (by omega), _, hX, hK⟩
    · exact absurd (pn_isR_nI gk) hno
theorem mt_limb {X K : (Nat → Int) → Prop} {ρ : Nat → Int} {r r2 : Int32} {f0 : Int64} {v0 : Nat} {x y : Int32} (hw : (r = nI 0 ∧ ∃ r0 : Int32, f0 = r0.toInt64 ∧ ∃ k j : Nat, k < 24 ∧ j < 2 ^ 31 ∧ x = nI k ∧ y = nI j ∧ r0 = pn_I (((ρ k).natAbs : Int) / pn_E j % 4294967296) ∧ X ρ) ∨ (r = nI 1 ∧ X ρ ∧ (¬ (pn_isR x ∧ 0 ≤ y)))) (hm : (v0 = 1 ∧ ¬ (pn_isR x ∧ 0 ≤ y) ∧ K ρ) ∨ (∃ k j : Nat, k < 24 ∧ j < 2 ^ 31 ∧ x = nI k ∧ y = nI j ∧ r2 = pn_I (((ρ k).natAbs : Int) / pn_E j % 4294967296) ∧ v0 = 0 ∧ K ρ)) : lw_ok r v0 f0 r2 X K := by
  rcases hw with ⟨rfl, r0, e0, k, j, hk, hj, rfl, rfl, er, hX⟩ | ⟨rfl, hX, hno⟩
  · rcases hm with ⟨-, hno, -⟩ | ⟨k9, j9, gk, gj, ek, ej, em, hv, hK⟩
    · exact absurd ⟨pn_isR_nI hk, pn_nI0 hj⟩ hno
    · obtain rfl := pn_nI24 hk gk ek; obtain rfl := (nI_eq hj gj).mp ej
      exact ⟨by omega, by rw [hv], fun _ => by rw [e0, er, em], _, hX, hK⟩
  · rcases hm with ⟨hv, -, hK⟩ | ⟨k9, j9, gk, gj, rfl, rfl, -⟩
    · exact ⟨by omega, by rw [hv], fun h => absurd h (by omega), _, hX, hK⟩
    · exact absurd ⟨pn_isR_nI gk, pn_nI0 gj⟩ hno
theorem mt_rest {X K : (Nat → Int) → Prop} {ρ : Nat → Int} {r r2 : Int32} {f0 : Int64} {v0 : Nat} {x y : Int32} (hw : (r = nI 0 ∧ ∃ r0 : Int32, f0 = r0.toInt64 ∧ ∃ k j : Nat, k < 24 ∧ 1 ≤ j ∧ j < 2 ^ 31 ∧ x = nI k ∧ y = nI j ∧ r0 = pn_I (ρ k % (j : Int)) ∧ X ρ) ∨ (r = nI 1 ∧ X ρ ∧ (¬ pn_isR x)) ∨ (r = nI 2 ∧ X ρ ∧ (pn_isR x ∧ ¬ 1 ≤ y))) (hm : (v0 = 1 ∧ ¬ (pn_isR x) ∧ K ρ) ∨ (v0 = 2 ∧ pn_isR x ∧ ¬ 1 ≤ y ∧ K ρ) ∨ (∃ k j : Nat, k < 24 ∧ 1 ≤ j ∧ j < 2 ^ 31 ∧ x = nI k ∧ y = nI j ∧ r2 = pn_I (ρ k % (j : Int)) ∧ v0 = 0 ∧ K ρ)) : lw_ok r v0 f0 r2 X K := by
  rcases hw with ⟨rfl, r0, e0, k, j, hk, hj1, hj, rfl, rfl, er, hX⟩ | ⟨rfl, hX, hno⟩ | ⟨rfl, hX, hyes, hy⟩
  · rcases hm with ⟨-, hno, -⟩ | ⟨-, -, hy, -⟩ | ⟨k9, j9, gk, gj1, gj, ek, ej, em, hv, hK⟩
    · exact absurd (pn_isR_nI hk) hno
    · exact absurd (pn_nI1 hj1 hj) hy
    · obtain rfl := pn_nI24 hk gk ek; obtain rfl := (nI_eq hj gj).mp ej
      exact ⟨by omega, by rw [hv], fun _ => by rw [e0, er, em], _, hX, hK⟩
  · rcases hm with ⟨hv, -, hK⟩ | ⟨-, hyes, -⟩ | ⟨k9, j9, gk, gj1, gj, rfl, -⟩
    · exact ⟨by omega, by rw [hv], fun h => absurd h (by omega), _, hX, hK⟩
    · exact absurd hyes hno
    · exact absurd (pn_isR_nI gk) hno
  · rcases hm with ⟨-, hno, -⟩ | ⟨hv, -, -, hK⟩ | ⟨k9, j9, gk, gj1, gj, rfl, rfl, -⟩
    · exact absurd hyes hno
    · exact ⟨by omega, by rw [hv], fun h => absurd h (by omega), _, hX, hK⟩
    · exact absurd (pn_nI1 gj1 gj) hy
theorem mt_print {ρ : Nat → Int} {r r2 : Int32} {f0 : Int64} {v0 : Nat} {x : Int32} {tc t2 pr pr2 : Nat → Nat} {s0 s2 pl pl2 : Nat} (hT : lw_T tc s0 pl pr) (hw : (r = nI 0 ∧ ∃ r0 : Int32, f0 = r0.toInt64 ∧ ∃ k D, k < 24 ∧ x = nI k ∧ pn_isD (ρ k).natAbs D ∧ D ≤ 6030 ∧ r0 = nI (pn_tl (ρ k) D) ∧ s2 = 6031 - pn_tl (ρ k) D ∧ ∀ i, i < pn_tl (ρ k) D → t2 (s2 + i) = pn_chr (ρ k) D i) ∨ (r = nI 1 ∧ (t2, s2) = (tc, s0) ∧ ¬ pn_isR x)) (hm : (v0 = 1 ∧ ¬ pn_isR x ∧ pl2 = pl ∧ pr2 = pr) ∨ (∃ k D, k < 24 ∧ x = nI k ∧ pn_isD (ρ k).natAbs D ∧ D ≤ 6030 ∧ r2 = nI (pn_tl (ρ k) D) ∧ v0 = 0 ∧ pl2 = pn_tl (ρ k) D ∧ ∀ i, i < pn_tl (ρ k) D → pr2 i = pn_chr (ρ k) D i)) : v0 ≤ 3 ∧ r = nI v0 ∧ (v0 = 0 → f0 = r2.toInt64) ∧ lw_T t2 s2 pl2 pr2 := by
  rcases hw with ⟨rfl, r0, e0, k, d, hk, rfl, hd, hd1, er, hs, hc⟩ | ⟨rfl, hX, hno⟩
  · rcases hm with ⟨-, hno, -⟩ | ⟨k9, d9, gk, ek, gd, gd1, em, hv, hl9, hc9⟩
    · exact absurd (pn_isR_nI hk) hno
    · obtain rfl := pn_nI24 hk gk ek
      obtain rfl := pn_isD_uniq hd gd
      have hb : pn_tl (ρ k) d ≤ 6031 := by unfold pn_tl; split <;> omega
      refine ⟨by omega, by rw [hv], fun _ => by rw [e0, er, em], ⟨by omega, by omega, fun i hi => ?_⟩⟩
      rw [hc i (by omega), hc9 i (by omega)]
  · rcases hm with ⟨hv, -, hl9, hr9⟩ | ⟨k9, d9, gk, rfl, -⟩
    · cases hX
      subst hl9 hr9
      exact ⟨by omega, by rw [hv], fun h => absurd h (by omega), hT⟩
    · exact absurd (pn_isR_nI gk) hno
theorem mt_character {x r r2 : Int32} {tc pr : Nat → Nat} {s0 pl : Nat} (hT : lw_T tc s0 pl pr) (hw : (∀ i : Nat, i < 6031 - s0 → x = nI i → r = nI (tc (s0 + i))) ∧ ((∀ i : Nat, i < 6031 - s0 → x ≠ nI i) → r = -1)) (hm : (∀ i : Nat, i < pl → x = nI i → r2 = nI (pr i)) ∧ ((∀ i : Nat, i < pl → x ≠ nI i) → r2 = -1)) : r = r2 := by
  obtain ⟨h1, h2, h3⟩ := hT
  by_cases h : ∃ i, i < pl ∧ x = nI i
  · obtain ⟨i, hi, hxi⟩ := h
    rw [hw.1 i (by omega) hxi, hm.1 i hi hxi, h3 i hi]
  · have h9 : ∀ i : Nat, i < pl → x ≠ nI i := fun i hi e => h ⟨i, hi, e⟩
    rw [hm.2 h9, hw.2 (fun i hi => h9 i (by omega))]
