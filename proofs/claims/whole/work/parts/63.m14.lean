theorem pm_nat_abs {B : Int} (h : 0 < B) : ((B.natAbs : Nat) : Int) = B := by omega
theorem pm_cast {A B : Int} (hB : 0 < B) (hA : 0 ≤ A) : A / B = ((A.natAbs / B.natAbs : Nat) : Int) ∧ A % B = ((A.natAbs % B.natAbs : Nat) : Int) := by
  rw [Int.natCast_ediv, Int.natCast_emod, pm_nat_abs hB, show ((A.natAbs : Nat) : Int) = A by omega]; exact ⟨rfl, rfl⟩
theorem pm_castn {A B : Int} (hB : 0 < B) : ((A.natAbs : Nat) : Int) / B = ((A.natAbs / B.natAbs : Nat) : Int) ∧ ((A.natAbs : Nat) : Int) % B = ((A.natAbs % B.natAbs : Nat) : Int) := by
  rw [Int.natCast_ediv, Int.natCast_emod, pm_nat_abs hB]; exact ⟨rfl, rfl⟩
theorem pm_divmod {A B : Int} {less : Bool} (hB : 0 < B) (hl : less = true ↔ A < 0) : (A / B).natAbs = (if less = true ∧ A.natAbs % B.natAbs ≠ 0 then A.natAbs / B.natAbs + 1 else A.natAbs / B.natAbs) ∧ (A % B).natAbs = (if less = true ∧ A.natAbs % B.natAbs ≠ 0 then B.natAbs - A.natAbs % B.natAbs else A.natAbs % B.natAbs) := by
  obtain ⟨c1, c2⟩ := pm_castn (A := A) hB
  have md := Nat.mod_lt A.natAbs (show 0 < B.natAbs by omega)
  by_cases hn : A < 0
  · have t := pn_tdiv (A := ((A.natAbs : Nat) : Int)) (B := B) (by omega) hB
    rw [show -((A.natAbs : Nat) : Int) = A by omega, c1, c2] at t
    by_cases z : A.natAbs % B.natAbs = 0
    · rw [if_neg (fun q => q.2 z), if_neg (fun q => q.2 z)]
      rw [if_pos (by omega), if_pos (by omega)] at t
      rw [t.1, t.2, z]; generalize A.natAbs / B.natAbs = Q; omega
    · rw [if_pos ⟨hl.mpr hn, z⟩, if_pos ⟨hl.mpr hn, z⟩]
      rw [if_neg (by omega), if_neg (by omega)] at t
      rw [t.1, t.2]; generalize A.natAbs / B.natAbs = Q; generalize A.natAbs % B.natAbs = R at md ⊢; omega
  · obtain ⟨d1, d2⟩ := pm_cast (A := A) hB (by omega)
    rw [if_neg (fun q => hn (hl.mp q.1)), if_neg (fun q => hn (hl.mp q.1)), d1, d2, Int.natAbs_natCast, Int.natAbs_natCast]; exact ⟨rfl, rfl⟩
theorem pm_div_sgn {A B : Int} (hB : 0 < B) : A / B = 0 ∨ pn_cmp A 0 = pn_cmp (A / B) 0 := by
  rcases Int.lt_or_le A 0 with h | h
  · have := Int.ediv_neg_of_neg_of_pos h hB
    exact Or.inr (by rw [pn_cmp_lt h, pn_cmp_lt this])
  · have q := Int.ediv_nonneg h (show 0 ≤ B by omega)
    rcases (show A / B = 0 ∨ 0 < A / B by omega) with z | z
    · exact Or.inl z
    · refine Or.inr ?_
      have : 0 < A := by
        rcases (show A = 0 ∨ 0 < A by omega) with y | y
        · rw [y, Int.zero_ediv] at z; omega
        · exact y
      rw [pn_cmp_gt this, pn_cmp_gt z]
theorem pm_mod_sgn {A B : Int} (hB : 0 < B) : A % B = 0 ∨ nI 1 = pn_cmp (A % B) 0 := by
  have := Int.emod_nonneg A (show B ≠ 0 by omega)
  rcases (show A % B = 0 ∨ 0 < A % B by omega) with z | z
  · exact Or.inl z
  · exact Or.inr (pn_cmp_gt z).symm
theorem pm_up_comm {ρ : Nat → Int} {k q : Nat} {x y : Int} (h : k ≠ q) : pn_up (pn_up ρ k x) q y = pn_up (pn_up ρ q y) k x := by
  funext i
  by_cases z : i = q
  · subst z; rw [pn_up_s, pn_up_n (Ne.symm h), pn_up_s]
  · by_cases w : i = k
    · subst w; rw [pn_up_n z, pn_up_s, pn_up_s]
    · rw [pn_up_n z, pn_up_n w, pn_up_n w, pn_up_n z]
theorem pm_pos_cmp {B : Int} : (0 < pn_cmp B 0 ↔ 0 < B) := pn_cmp_pos
theorem pm_ex {A B : Int} (hd : A % B = 0) (hB : B ≠ 0) : (A / B).natAbs = A.natAbs / B.natAbs ∧ (A / B = 0 ∨ pn_cmp A 0 * pn_cmp B 0 = pn_cmp (A / B) 0) := by
  obtain ⟨c, rfl⟩ := Int.dvd_of_emod_eq_zero hd
  rw [Int.mul_ediv_cancel_left c hB, Int.natAbs_mul, Nat.mul_div_cancel_left _ (by omega)]
  refine ⟨rfl, ?_⟩
  rw [pm_mul_cmp]
  rcases Int.lt_trichotomy c 0 with h | h | h
  · refine Or.inr ?_
    rw [pn_cmp_lt h]
    have : 0 < B * B := by rcases (show B < 0 ∨ 0 < B by omega) with z | z; (· exact Int.mul_pos_of_neg_of_neg z z); (· exact Int.mul_pos z z)
    exact pn_cmp_lt (by rw [Int.mul_right_comm]; exact Int.mul_neg_of_pos_of_neg this h)
  · exact Or.inl h
  · refine Or.inr ?_
    rw [pn_cmp_gt h]
    have : 0 < B * B := by rcases (show B < 0 ∨ 0 < B by omega) with z | z; (· exact Int.mul_pos_of_neg_of_neg z z); (· exact Int.mul_pos z z)
    exact pn_cmp_gt (by rw [Int.mul_right_comm]; exact Int.mul_pos this h)
theorem pm_ex_mod {A B : Int} : A % B = 0 ↔ A.natAbs % B.natAbs = 0 := by
  rw [← Int.dvd_iff_emod_eq_zero, ← Nat.dvd_iff_mod_eq_zero, Int.natAbs_dvd_natAbs]
theorem pm_near {A B : Int} (hB : 0 < B) : (pn_near A B).natAbs = (if B.natAbs < 2 * (A.natAbs % B.natAbs) ∨ (2 * (A.natAbs % B.natAbs) = B.natAbs ∧ A.natAbs / B.natAbs % 2 = 1) then A.natAbs / B.natAbs + 1 else A.natAbs / B.natAbs) ∧ (pn_near A B = 0 ∨ pn_cmp A 0 = pn_cmp (pn_near A B) 0) := by
  obtain ⟨c1, c2⟩ := pm_castn (A := A) hB
  have e : pn_nrA ((A.natAbs : Nat) : Int) B = ((if B.natAbs < 2 * (A.natAbs % B.natAbs) ∨ (2 * (A.natAbs % B.natAbs) = B.natAbs ∧ A.natAbs / B.natAbs % 2 = 1) then A.natAbs / B.natAbs + 1 else A.natAbs / B.natAbs : Nat) : Int) := by
    unfold pn_nrA
    rw [c1, c2]
    by_cases z : B.natAbs < 2 * (A.natAbs % B.natAbs) ∨ (2 * (A.natAbs % B.natAbs) = B.natAbs ∧ A.natAbs / B.natAbs % 2 = 1)
    · rw [if_pos z, if_pos (by omega)]; omega
    · rw [if_neg z, if_neg (by omega)]
  have l := (pn_nrA_le (A := ((A.natAbs : Nat) : Int)) (by omega) hB).2
  unfold pn_near
  rw [e] at *
  generalize (if B.natAbs < 2 * (A.natAbs % B.natAbs) ∨ (2 * (A.natAbs % B.natAbs) = B.natAbs ∧ A.natAbs / B.natAbs % 2 = 1) then A.natAbs / B.natAbs + 1 else A.natAbs / B.natAbs) = Q at *
  by_cases n : A < 0
  · rw [decide_eq_true n, pn_sg_t]
    refine ⟨by omega, ?_⟩
    rcases (show Q = 0 ∨ 0 < Q by omega) with z | z
    · exact Or.inl (by omega)
    · exact Or.inr (by rw [pn_cmp_lt n, pn_cmp_lt (by omega)])
  · rw [decide_eq_false n, pn_sg_f]
    refine ⟨by omega, ?_⟩
    rcases (show Q = 0 ∨ 0 < Q by omega) with z | z
    · exact Or.inl (by omega)
    · exact Or.inr (by rw [pn_cmp_gt (by omega), pn_cmp_gt (by omega)])
theorem pm_near_abs {A B : Int} (hB : 0 < B) : (pn_near A B).natAbs ≤ A.natAbs := by
  have l := pn_nrA_le (A := ((A.natAbs : Nat) : Int)) (by omega) hB
  unfold pn_near
  by_cases n : A < 0
  · rw [decide_eq_true n, pn_sg_t]; omega
  · rw [decide_eq_false n, pn_sg_f]; omega
theorem pm_odd {f : Nat → Nat} {n : Nat} (hn : 0 < n) : pm_V f n % 2 = f 0 % 2 := by
  obtain ⟨m, rfl⟩ : ∃ m, n = m + 1 := ⟨n - 1, by omega⟩
  rw [pm_V_head]; omega

set_option maxHeartbeats 4000000 in
set_option maxRecDepth 100000 in
theorem c_M_divide (l : Launch) (D : va_G) (cI cZ cB cJ : ClassId) (sz : Nat) (oM qW qM qK qJ qG qH qP cd pl : Nat) (wk mn : Nat → Nat) (hv kp km : Nat → Nat) (sg : Nat → Int32) (ρ : Nat → Int) (x y z t : Int32) (hρ : pm_regs kp km sg ρ) : pn_Ci l D (pn_ty cI cZ cB cJ) y_M_divide w_M_divide ({ frames := 4, cells := 0, slots := 0, locals := 160 } : Room) [.ref oM, .int x, .int y, .int z, .int t] [(oM, .inr (5, [.int (nI cd), .ref qW, .ref qM, .ref qK, .ref qJ, .ref qG, .ref qH, .ref qP, .int (nI pl)])), (qW, .inl (cI, 22400, .inl (fun z9 => nI (wk z9)))), (qM, .inl (cI, 7, .inl (fun z9 => nI (mn z9)))), (qH, .inl (cI, 2700, .inl (fun z9 => nI (hv z9)))), (qK, .inl (cI, 36480, .inl (fun z9 => nI (kp z9)))), (qJ, .inl (cI, 24, .inl (fun z9 => nI (km z9)))), (qG, .inl (cI, 24, .inl sg))] sz (S := Nat × (Nat → Nat) × (Nat → Nat) × (Nat → Nat) × (Nat → Nat) × (Nat → Nat) × (Nat → Int32)) (fun r u => (u.1 = 1 ∧ ¬ ((pn_isR x ∧ pn_isR y) ∧ pn_isR z ∧ pn_isR t) ∧ pm_regs u.2.2.2.2.1 u.2.2.2.2.2.1 u.2.2.2.2.2.2 ρ) ∨ (u.1 = 2 ∧ ((pn_isR x ∧ pn_isR y) ∧ pn_isR z ∧ pn_isR t) ∧ x = y ∧ pm_regs u.2.2.2.2.1 u.2.2.2.2.2.1 u.2.2.2.2.2.2 ρ) ∨ (∃ k q a b, k < 24 ∧ q < 24 ∧ a < 24 ∧ b < 24 ∧ x = nI k ∧ y = nI q ∧ z = nI a ∧ t = nI b ∧ k ≠ q ∧ ((u.1 = 3 ∧ ¬ 0 < ρ b ∧ pm_regs u.2.2.2.2.1 u.2.2.2.2.2.1 u.2.2.2.2.2.2 ρ) ∨ (0 < ρ b ∧ r = nI (pn_lenI (ρ a / ρ b)) ∧ u.1 = 0 ∧ pm_regs u.2.2.2.2.1 u.2.2.2.2.2.1 u.2.2.2.2.2.2 (pn_up (pn_up ρ q (ρ a % ρ b)) k (ρ a / ρ b)))))) (fun u => [(oM, .inr (5, [.int (nI u.1), .ref qW, .ref qM, .ref qK, .ref qJ, .ref qG, .ref qH, .ref qP, .int (nI pl)])), (qW, .inl (cI, 22400, .inl (fun z9 => nI (u.2.1 z9)))), (qM, .inl (cI, 7, .inl (fun z9 => nI (u.2.2.1 z9)))), (qH, .inl (cI, 2700, .inl (fun z9 => nI (u.2.2.2.1 z9)))), (qK, .inl (cI, 36480, .inl (fun z9 => nI (u.2.2.2.2.1 z9)))), (qJ, .inl (cI, 24, .inl (fun z9 => nI (u.2.2.2.2.2.1 z9)))), (qG, .inl (cI, 24, .inl u.2.2.2.2.2.2))]) := by
  refine pn_start (by decide) (Nat.le_of_ble_eq_true rfl) ?_
  intro p e s m below meth c A Q ls hQ hAe Fx hr hlocks hN hK hP hD hS hA hl
  have hx := Fx.1
  have hb := Fx.2.1
  have hl : lv_has ls 7 [(0, .ref oM), (1, .int x), (2, .int y), (3, .int z), (4, .int t)] := hl
  refine lv_aload_n hx hb d_M_divide_0 rfl (lv_at hl 0 rfl) ?_
  refine lv_iload_n hx hb d_M_divide_1 rfl (lv_at hl 1 rfl) ?_
  refine lv_iload_n hx hb d_M_divide_2 rfl (lv_at hl 2 rfl) ?_
  refine lv_iload_n hx hb d_M_divide_3 rfl (lv_at hl 3 rfl) ?_
  refine pn_bi (wr := [(oM, .inr (5, [.int (nI cd), .ref qW, .ref qM, .ref qK, .ref qJ, .ref qG, .ref qH, .ref qP, .int (nI pl)])), (qW, .inl (cI, 22400, .inl (fun z9 => nI (wk z9)))), (qM, .inl (cI, 7, .inl (fun z9 => nI (mn z9)))), (qH, .inl (cI, 2700, .inl (fun z9 => nI (hv z9)))), (qK, .inl (cI, 36480, .inl (fun z9 => nI (kp z9)))), (qJ, .inl (cI, 24, .inl (fun z9 => nI (km z9)))), (qG, .inl (cI, 24, .inl sg))]) [] [0, 1, 2, 3, 4, 5, 6] hP hD hS hA (pn_rS [.int x, .int y, .int z] [.ref oM] Fx hK hN hP hD [] rfl rfl (c_M_are l D cI cZ cB cJ _ x y z) kw_724 cal_M_are stat_M_are ⟨by decide, by decide⟩ ⟨rfl, rfl⟩ rfl hl.1 (Nat.le_of_ble_eq_true rfl) d_M_divide_4 ⟨Nat.zero_le _, Nat.zero_le _⟩) rfl rfl rfl (by decide) (fun r_4 u_4 H locs hw hP hD hS => ?_)
  obtain ⟨rfl, h4⟩ := hw
  have hP : va_P D pn_cl [(oM, .inr (5, [.int (nI cd), .ref qW, .ref qM, .ref qK, .ref qJ, .ref qG, .ref qH, .ref qP, .int (nI pl)])), (qW, .inl (cI, 22400, .inl (fun z9 => nI (wk z9)))), (qM, .inl (cI, 7, .inl (fun z9 => nI (mn z9)))), (qH, .inl (cI, 2700, .inl (fun z9 => nI (hv z9)))), (qK, .inl (cI, 36480, .inl (fun z9 => nI (kp z9)))), (qJ, .inl (cI, 24, .inl (fun z9 => nI (km z9)))), (qG, .inl (cI, 24, .inl sg))] H := hP
  have hD : va_D A [(oM, .inr (5, [.int (nI cd), .ref qW, .ref qM, .ref qK, .ref qJ, .ref qG, .ref qH, .ref qP, .int (nI pl)])), (qW, .inl (cI, 22400, .inl (fun z9 => nI (wk z9)))), (qM, .inl (cI, 7, .inl (fun z9 => nI (mn z9)))), (qH, .inl (cI, 2700, .inl (fun z9 => nI (hv z9)))), (qK, .inl (cI, 36480, .inl (fun z9 => nI (kp z9)))), (qJ, .inl (cI, 24, .inl (fun z9 => nI (km z9)))), (qG, .inl (cI, 24, .inl sg))] := hD
  refine pw_ifb_eq (tgt := 18) hx hb d_M_divide_7 (by decide) (fun h_7 => ?_) (fun h_7 => ?_)
  · skip
    have hno : ¬ ((pn_isR x ∧ pn_isR y) ∧ pn_isR z ∧ pn_isR t) := fun g => absurd (h4.mpr ⟨g.1.1, g.1.2, g.2.1⟩) (by rw [h_7]; decide)
    refine lv_iconst (v := nI 1) hx hb d_M_divide_18 (by decide) ?_
    refine lv_goto (tgt := 46) hx hb d_M_divide_19 (by decide) ?_
    refine pn_bi (wr := [(qW, .inl (cI, 22400, .inl (fun z9 => nI (wk z9)))), (qM, .inl (cI, 7, .inl (fun z9 => nI (mn z9)))), (qH, .inl (cI, 2700, .inl (fun z9 => nI (hv z9)))), (qK, .inl (cI, 36480, .inl (fun z9 => nI (kp z9)))), (qJ, .inl (cI, 24, .inl (fun z9 => nI (km z9)))), (qG, .inl (cI, 24, .inl sg))]) [0] [1, 2, 3, 4, 5, 6] hP hD hS hA (pn_rV [.int (nI 1)] [] Fx hK hN hP hD [0] rfl rfl (c_M_refuses l D cI cZ cB cJ _ oM qW qM qK qJ qG qH qP cd pl 1 (by omega)) kw_669 cal_M_refuses inst_M_refuses sel_M_refuses ⟨by decide, by decide⟩ ⟨rfl, rfl⟩ 0 rfl rfl rfl rfl hl.1 (Nat.le_of_ble_eq_true rfl) d_M_divide_46 ⟨Nat.zero_le _, Nat.zero_le _⟩) rfl rfl rfl (by decide) (fun r_46 u_46 H locs hw hP hD hS => ?_)
    obtain ⟨rfl, hrf46⟩ := hw
    have hP : va_P D pn_cl [(qW, .inl (cI, 22400, .inl (fun z9 => nI (wk z9)))), (qM, .inl (cI, 7, .inl (fun z9 => nI (mn z9)))), (qH, .inl (cI, 2700, .inl (fun z9 => nI (hv z9)))), (qK, .inl (cI, 36480, .inl (fun z9 => nI (kp z9)))), (qJ, .inl (cI, 24, .inl (fun z9 => nI (km z9)))), (qG, .inl (cI, 24, .inl sg)), (oM, .inr (5, [.int (nI 1), .ref qW, .ref qM, .ref qK, .ref qJ, .ref qG, .ref qH, .ref qP, .int (nI pl)]))] H := hP
    have hD : va_D A [(qW, .inl (cI, 22400, .inl (fun z9 => nI (wk z9)))), (qM, .inl (cI, 7, .inl (fun z9 => nI (mn z9)))), (qH, .inl (cI, 2700, .inl (fun z9 => nI (hv z9)))), (qK, .inl (cI, 36480, .inl (fun z9 => nI (kp z9)))), (qJ, .inl (cI, 24, .inl (fun z9 => nI (km z9)))), (qG, .inl (cI, 24, .inl sg)), (oM, .inr (5, [.int (nI 1), .ref qW, .ref qM, .ref qK, .ref qJ, .ref qG, .ref qH, .ref qP, .int (nI pl)]))] := hD
    refine pw_ifb_eq (tgt := 54) hx hb d_M_divide_49 (by decide) (fun h_49 => ?_) (fun h_49 => ?_)
    · skip
      rw [hrf46] at h_49
      exact absurd h_49 (by decide)
    · skip
      refine lv_iconst (v := nI 0) hx hb d_M_divide_52 (by decide) ?_
      exact pn_reti ((1, wk, mn, hv, kp, km, sg)) Fx hr hlocks hQ hAe (hP.sub [6, 0, 1, 2, 3, 4, 5] rfl) (hD.sub [6, 0, 1, 2, 3, 4, 5] (by decide) rfl) hS (by (try dsimp only); first | done | exact (Or.inl ⟨rfl, hno, hρ⟩)) d_M_divide_53
  · skip
    refine lv_iload hx hb d_M_divide_10 (lv_at hl 4 rfl) ?_
    refine pn_bi (wr := [(oM, .inr (5, [.int (nI cd), .ref qW, .ref qM, .ref qK, .ref qJ, .ref qG, .ref qH, .ref qP, .int (nI pl)])), (qW, .inl (cI, 22400, .inl (fun z9 => nI (wk z9)))), (qM, .inl (cI, 7, .inl (fun z9 => nI (mn z9)))), (qH, .inl (cI, 2700, .inl (fun z9 => nI (hv z9)))), (qK, .inl (cI, 36480, .inl (fun z9 => nI (kp z9)))), (qJ, .inl (cI, 24, .inl (fun z9 => nI (km z9)))), (qG, .inl (cI, 24, .inl sg))]) [] [0, 1, 2, 3, 4, 5, 6] hP hD hS hA (pn_rS [.int t] [.ref oM] Fx hK hN hP hD [] rfl rfl (c_M_isRegister l D cI cZ cB cJ _ t) kw_666 cal_M_isRegister stat_M_isRegister ⟨by decide, by decide⟩ ⟨rfl, rfl⟩ rfl hl.1 (Nat.le_of_ble_eq_true rfl) d_M_divide_12 ⟨Nat.zero_le _, Nat.zero_le _⟩) rfl rfl rfl (by decide) (fun r_12 u_12 H locs hw hP hD hS => ?_)
    obtain ⟨rfl, h12⟩ := hw
    have hP : va_P D pn_cl [(oM, .inr (5, [.int (nI cd), .ref qW, .ref qM, .ref qK, .ref qJ, .ref qG, .ref qH, .ref qP, .int (nI pl)])), (qW, .inl (cI, 22400, .inl (fun z9 => nI (wk z9)))), (qM, .inl (cI, 7, .inl (fun z9 => nI (mn z9)))), (qH, .inl (cI, 2700, .inl (fun z9 => nI (hv z9)))), (qK, .inl (cI, 36480, .inl (fun z9 => nI (kp z9)))), (qJ, .inl (cI, 24, .inl (fun z9 => nI (km z9)))), (qG, .inl (cI, 24, .inl sg))] H := hP
    have hD : va_D A [(oM, .inr (5, [.int (nI cd), .ref qW, .ref qM, .ref qK, .ref qJ, .ref qG, .ref qH, .ref qP, .int (nI pl)])), (qW, .inl (cI, 22400, .inl (fun z9 => nI (wk z9)))), (qM, .inl (cI, 7, .inl (fun z9 => nI (mn z9)))), (qH, .inl (cI, 2700, .inl (fun z9 => nI (hv z9)))), (qK, .inl (cI, 36480, .inl (fun z9 => nI (kp z9)))), (qJ, .inl (cI, 24, .inl (fun z9 => nI (km z9)))), (qG, .inl (cI, 24, .inl sg))] := hD
    refine pw_ifb_ne (tgt := 22) hx hb d_M_divide_15 (by decide) (fun h_15 => ?_) (fun h_15 => ?_)
    · skip
      obtain ⟨⟨k, hk, rfl⟩, ⟨q, hq9, rfl⟩, ⟨a, ha, rfl⟩⟩ := h4.mp h_7
      obtain ⟨b, hb9, rfl⟩ := h12.mp h_15
      refine lv_iload_n hx hb d_M_divide_22 rfl (lv_at hl 1 rfl) ?_
      refine lv_iload_n hx hb d_M_divide_23 rfl (lv_at hl 2 rfl) ?_
      refine pw_icmp_ne (a := k) (b := q) (tgt := 31) hx hb d_M_divide_24 (by decide) (by omega) (by omega) (fun h_24 => ?_) (fun h_24 => ?_)
      · skip
        refine lv_aload_n hx hb d_M_divide_31 rfl (lv_at hl 0 rfl) ?_
        refine pw_get Fx hK hP fld_M 0 rfl 5 (by decide) kw_635 (v := .ref qG) rfl d_M_divide_32 ?_
        refine lv_iload hx hb d_M_divide_35 (lv_at hl 4 rfl) ?_
        refine pw_iald Fx hK hP 6 0 (f := sg) rfl rfl (k := b) (by omega) (by decide) d_M_divide_37 ?_
        refine lv_if_gt (tgt := 45) hx hb d_M_divide_38 (by decide) (fun h_38 => ?_) (fun h_38 => ?_)
        · skip
          have hpos : 0 < ρ b := pn_cmp_pos.mp (by rw [← (hρ b hb9).2.1]; exact h_38)
          refine lv_iconst (v := nI 0) hx hb d_M_divide_45 (by decide) ?_
          refine pn_bi (wr := [(qW, .inl (cI, 22400, .inl (fun z9 => nI (wk z9)))), (qM, .inl (cI, 7, .inl (fun z9 => nI (mn z9)))), (qH, .inl (cI, 2700, .inl (fun z9 => nI (hv z9)))), (qK, .inl (cI, 36480, .inl (fun z9 => nI (kp z9)))), (qJ, .inl (cI, 24, .inl (fun z9 => nI (km z9)))), (qG, .inl (cI, 24, .inl sg))]) [0] [1, 2, 3, 4, 5, 6] hP hD hS hA (pn_rV [.int (nI 0)] [] Fx hK hN hP hD [0] rfl rfl (c_M_refuses l D cI cZ cB cJ _ oM qW qM qK qJ qG qH qP cd pl 0 (by omega)) kw_669 cal_M_refuses inst_M_refuses sel_M_refuses ⟨by decide, by decide⟩ ⟨rfl, rfl⟩ 0 rfl rfl rfl rfl hl.1 (Nat.le_of_ble_eq_true rfl) d_M_divide_46 ⟨Nat.zero_le _, Nat.zero_le _⟩) rfl rfl rfl (by decide) (fun r_46 u_46 H locs hw hP hD hS => ?_)
          obtain ⟨rfl, hrf46⟩ := hw
          have hP : va_P D pn_cl [(qW, .inl (cI, 22400, .inl (fun z9 => nI (wk z9)))), (qM, .inl (cI, 7, .inl (fun z9 => nI (mn z9)))), (qH, .inl (cI, 2700, .inl (fun z9 => nI (hv z9)))), (qK, .inl (cI, 36480, .inl (fun z9 => nI (kp z9)))), (qJ, .inl (cI, 24, .inl (fun z9 => nI (km z9)))), (qG, .inl (cI, 24, .inl sg)), (oM, .inr (5, [.int (nI 0), .ref qW, .ref qM, .ref qK, .ref qJ, .ref qG, .ref qH, .ref qP, .int (nI pl)]))] H := hP
          have hD : va_D A [(qW, .inl (cI, 22400, .inl (fun z9 => nI (wk z9)))), (qM, .inl (cI, 7, .inl (fun z9 => nI (mn z9)))), (qH, .inl (cI, 2700, .inl (fun z9 => nI (hv z9)))), (qK, .inl (cI, 36480, .inl (fun z9 => nI (kp z9)))), (qJ, .inl (cI, 24, .inl (fun z9 => nI (km z9)))), (qG, .inl (cI, 24, .inl sg)), (oM, .inr (5, [.int (nI 0), .ref qW, .ref qM, .ref qK, .ref qJ, .ref qG, .ref qH, .ref qP, .int (nI pl)]))] := hD
          refine pw_ifb_eq (tgt := 54) hx hb d_M_divide_49 (by decide) (fun h_49 => ?_) (fun h_49 => ?_)
          · skip
            refine lv_aload_n hx hb d_M_divide_54 rfl (lv_at hl 0 rfl) ?_
            refine pw_get Fx hK hP fld_M 6 rfl 5 (by decide) kw_635 (v := .ref qG) rfl d_M_divide_55 ?_
            refine lv_iload_n hx hb d_M_divide_58 rfl (lv_at hl 3 rfl) ?_
            refine pw_iald Fx hK hP 5 0 (f := sg) rfl rfl (k := a) (by omega) (by decide) d_M_divide_59 ?_
            refine lv_istore (lv' := [(5, .int (sg a)), (0, .ref oM), (1, .int (nI k)), (2, .int (nI q)), (3, .int (nI a)), (4, .int (nI b))]) hx hb d_M_divide_60 hl (by decide) rfl (fun ls hl => ?_)
            refine lv_aload_n hx hb d_M_divide_62 rfl (lv_at hl 1 rfl) ?_
            refine lv_iconst (v := nI 0) hx hb d_M_divide_63 (by decide) ?_
            refine lv_iload_n hx hb d_M_divide_64 rfl (lv_at hl 4 rfl) ?_
            refine pn_bv (wr := [(qH, .inl (cI, 2700, .inl (fun z9 => nI (hv z9)))), (qG, .inl (cI, 24, .inl sg))]) [6, 0, 1, 3, 4] [2, 5] hP hD hS hA (pn_rV [.int (nI 0), .int (nI a)] [] Fx hK hN hP hD [6, 0, 1, 3, 4] rfl rfl (c_M_load l D cI cZ cB cJ _ oM qW qM qK qJ qG qH qP 0 pl wk mn kp km 0 a ((ρ a).natAbs) (by omega) ha (hρ a ha).1) kw_703 cal_M_load inst_M_load sel_M_load ⟨by decide, by decide⟩ ⟨rfl, rfl⟩ 0 rfl rfl rfl rfl hl.1 (Nat.le_of_ble_eq_true rfl) d_M_divide_65 ⟨Nat.zero_le _, Nat.zero_le _⟩) rfl rfl rfl (by decide) (fun u_65 H locs hw hP hD hS => ?_)
            obtain ⟨hn65, hK65⟩ := hw
            have hP : va_P D pn_cl [(qH, .inl (cI, 2700, .inl (fun z9 => nI (hv z9)))), (qG, .inl (cI, 24, .inl sg)), (oM, .inr (5, [.int (nI 0), .ref qW, .ref qM, .ref qK, .ref qJ, .ref qG, .ref qH, .ref qP, .int (nI pl)])), (qW, .inl (cI, 22400, .inl (fun z9 => nI (u_65 z9)))), (qM, .inl (cI, 7, .inl (fun z9 => nI ((pn_up mn 0 (km a)) z9)))), (qK, .inl (cI, 36480, .inl (fun z9 => nI (kp z9)))), (qJ, .inl (cI, 24, .inl (fun z9 => nI (km z9))))] H := hP
            have hD : va_D A [(qH, .inl (cI, 2700, .inl (fun z9 => nI (hv z9)))), (qG, .inl (cI, 24, .inl sg)), (oM, .inr (5, [.int (nI 0), .ref qW, .ref qM, .ref qK, .ref qJ, .ref qG, .ref qH, .ref qP, .int (nI pl)])), (qW, .inl (cI, 22400, .inl (fun z9 => nI (u_65 z9)))), (qM, .inl (cI, 7, .inl (fun z9 => nI ((pn_up mn 0 (km a)) z9)))), (qK, .inl (cI, 36480, .inl (fun z9 => nI (kp z9)))), (qJ, .inl (cI, 24, .inl (fun z9 => nI (km z9))))] := hD
            refine lv_aload_n hx hb d_M_divide_68 rfl (lv_at hl 1 rfl) ?_
            refine lv_iconst (v := nI 1) hx hb d_M_divide_69 (by decide) ?_
            refine lv_iload hx hb d_M_divide_70 (lv_at hl 5 rfl) ?_
            refine pn_bv (wr := [(qH, .inl (cI, 2700, .inl (fun z9 => nI (hv z9)))), (qG, .inl (cI, 24, .inl sg))]) [2, 3, 4, 5, 6] [0, 1] hP hD hS hA (pn_rV [.int (nI 1), .int (nI b)] [] Fx hK hN hP hD [2, 3, 4, 5, 6] rfl rfl (c_M_load l D cI cZ cB cJ _ oM qW qM qK qJ qG qH qP 0 pl u_65 (pn_up mn 0 (km a)) kp km 1 b ((ρ b).natAbs) (by omega) hb9 (hρ b hb9).1) kw_703 cal_M_load inst_M_load sel_M_load ⟨by decide, by decide⟩ ⟨rfl, rfl⟩ 0 rfl rfl rfl rfl hl.1 (Nat.le_of_ble_eq_true rfl) d_M_divide_72 ⟨Nat.zero_le _, Nat.zero_le _⟩) rfl rfl rfl (by decide) (fun u_72 H locs hw hP hD hS => ?_)
            obtain ⟨hn72, hK72⟩ := hw
            have hP : va_P D pn_cl [(qH, .inl (cI, 2700, .inl (fun z9 => nI (hv z9)))), (qG, .inl (cI, 24, .inl sg)), (oM, .inr (5, [.int (nI 0), .ref qW, .ref qM, .ref qK, .ref qJ, .ref qG, .ref qH, .ref qP, .int (nI pl)])), (qW, .inl (cI, 22400, .inl (fun z9 => nI (u_72 z9)))), (qM, .inl (cI, 7, .inl (fun z9 => nI ((pn_up (pn_up mn 0 (km a)) 1 (km b)) z9)))), (qK, .inl (cI, 36480, .inl (fun z9 => nI (kp z9)))), (qJ, .inl (cI, 24, .inl (fun z9 => nI (km z9))))] H := hP
            have hD : va_D A [(qH, .inl (cI, 2700, .inl (fun z9 => nI (hv z9)))), (qG, .inl (cI, 24, .inl sg)), (oM, .inr (5, [.int (nI 0), .ref qW, .ref qM, .ref qK, .ref qJ, .ref qG, .ref qH, .ref qP, .int (nI pl)])), (qW, .inl (cI, 22400, .inl (fun z9 => nI (u_72 z9)))), (qM, .inl (cI, 7, .inl (fun z9 => nI ((pn_up (pn_up mn 0 (km a)) 1 (km b)) z9)))), (qK, .inl (cI, 36480, .inl (fun z9 => nI (kp z9)))), (qJ, .inl (cI, 24, .inl (fun z9 => nI (km z9))))] := hD
            refine lv_aload_n hx hb d_M_divide_75 rfl (lv_at hl 1 rfl) ?_
            refine lv_iload hx hb d_M_divide_76 (lv_at hl 0 rfl) ?_
            refine lv_if_ge (tgt := 85) hx hb d_M_divide_78 (by decide) (fun h_78 => ?_) (fun h_78 => ?_)
            · skip
              have hless : false = true ↔ ρ a < 0 := ⟨fun g => absurd g (by decide), fun g => by rw [(hρ a ha).2.1, pn_cmp_lt g] at h_78; exact absurd h_78 (by decide)⟩
              refine lv_iconst (v := pn_b false) hx hb d_M_divide_85 (by decide) ?_
              refine pn_bv (wr := [(qH, .inl (cI, 2700, .inl (fun z9 => nI (hv z9)))), (qG, .inl (cI, 24, .inl sg)), (qK, .inl (cI, 36480, .inl (fun z9 => nI (kp z9)))), (qJ, .inl (cI, 24, .inl (fun z9 => nI (km z9))))]) [2, 3, 4] [0, 1, 5, 6] hP hD hS hA (pn_rV [.int (pn_b false)] [] Fx hK hN hP hD [2, 3, 4] rfl rfl (c_M_down l D cI cZ cB cJ _ oM qW qM qK qJ qG qH qP 0 pl u_72 (pn_up (pn_up mn 0 (km a)) 1 (km b)) (ρ a).natAbs (ρ b).natAbs false (hK72 0 _ (by omega) hn65) hn72 (by omega) (Nat.lt_of_lt_of_le (pm_rb2 hρ ha).2 (pm_mono (by decide)))) kw_771 cal_M_down inst_M_down sel_M_down ⟨by decide, by decide⟩ ⟨rfl, rfl⟩ 0 rfl rfl rfl rfl hl.1 (Nat.le_of_ble_eq_true rfl) d_M_divide_86 ⟨Nat.zero_le _, Nat.zero_le _⟩) rfl rfl rfl (by decide) (fun u_86 H locs hw hP hD hS => ?_)
              obtain ⟨w6, m6⟩ := u_86
              obtain ⟨hd1, hd2⟩ := hw
              have hP : va_P D pn_cl [(qH, .inl (cI, 2700, .inl (fun z9 => nI (hv z9)))), (qG, .inl (cI, 24, .inl sg)), (qK, .inl (cI, 36480, .inl (fun z9 => nI (kp z9)))), (qJ, .inl (cI, 24, .inl (fun z9 => nI (km z9)))), (oM, .inr (5, [.int (nI 0), .ref qW, .ref qM, .ref qK, .ref qJ, .ref qG, .ref qH, .ref qP, .int (nI pl)])), (qW, .inl (cI, 22400, .inl (fun z9 => nI (w6 z9)))), (qM, .inl (cI, 7, .inl (fun z9 => nI (m6 z9))))] H := hP
              have hD : va_D A [(qH, .inl (cI, 2700, .inl (fun z9 => nI (hv z9)))), (qG, .inl (cI, 24, .inl sg)), (qK, .inl (cI, 36480, .inl (fun z9 => nI (kp z9)))), (qJ, .inl (cI, 24, .inl (fun z9 => nI (km z9)))), (oM, .inr (5, [.int (nI 0), .ref qW, .ref qM, .ref qK, .ref qJ, .ref qG, .ref qH, .ref qP, .int (nI pl)])), (qW, .inl (cI, 22400, .inl (fun z9 => nI (w6 z9)))), (qM, .inl (cI, 7, .inl (fun z9 => nI (m6 z9))))] := hD
              dsimp only at hd1 hd2
              have hdm := pm_divmod (A := ρ a) (less := false) hpos hless
              rw [← hdm.1] at hd1
              rw [← hdm.2] at hd2
              refine lv_aload_n hx hb d_M_divide_89 rfl (lv_at hl 1 rfl) ?_
              refine lv_iconst (v := nI 5) hx hb d_M_divide_90 (by decide) ?_
              refine lv_iconst (v := nI 0) hx hb d_M_divide_91 (by decide) ?_
              refine pn_bv (wr := [(qH, .inl (cI, 2700, .inl (fun z9 => nI (hv z9)))), (qG, .inl (cI, 24, .inl sg)), (qK, .inl (cI, 36480, .inl (fun z9 => nI (kp z9)))), (qJ, .inl (cI, 24, .inl (fun z9 => nI (km z9))))]) [4, 5, 6] [0, 1, 2, 3] hP hD hS hA (pn_rV [.int (nI 5), .int (nI 0)] [] Fx hK hN hP hD [4, 5, 6] rfl rfl (c_M_copyTo l D cI cZ cB cJ _ oM qW qM qK qJ qG qH qP 0 pl w6 m6 5 0 (ρ a % ρ b).natAbs (by omega) (by omega) (by omega) hd2) kw_690 cal_M_copyTo inst_M_copyTo sel_M_copyTo ⟨by decide, by decide⟩ ⟨rfl, rfl⟩ 0 rfl rfl rfl rfl hl.1 (Nat.le_of_ble_eq_true rfl) d_M_divide_92 ⟨Nat.zero_le _, Nat.zero_le _⟩) rfl rfl rfl (by decide) (fun u_92 H locs hw hP hD hS => ?_)
              obtain ⟨hc92, hK92⟩ := hw
              have hP : va_P D pn_cl [(qH, .inl (cI, 2700, .inl (fun z9 => nI (hv z9)))), (qG, .inl (cI, 24, .inl sg)), (qK, .inl (cI, 36480, .inl (fun z9 => nI (kp z9)))), (qJ, .inl (cI, 24, .inl (fun z9 => nI (km z9)))), (oM, .inr (5, [.int (nI 0), .ref qW, .ref qM, .ref qK, .ref qJ, .ref qG, .ref qH, .ref qP, .int (nI pl)])), (qW, .inl (cI, 22400, .inl (fun z9 => nI (u_92 z9)))), (qM, .inl (cI, 7, .inl (fun z9 => nI ((pn_up m6 5 (m6 0)) z9))))] H := hP
              have hD : va_D A [(qH, .inl (cI, 2700, .inl (fun z9 => nI (hv z9)))), (qG, .inl (cI, 24, .inl sg)), (qK, .inl (cI, 36480, .inl (fun z9 => nI (kp z9)))), (qJ, .inl (cI, 24, .inl (fun z9 => nI (km z9)))), (oM, .inr (5, [.int (nI 0), .ref qW, .ref qM, .ref qK, .ref qJ, .ref qG, .ref qH, .ref qP, .int (nI pl)])), (qW, .inl (cI, 22400, .inl (fun z9 => nI (u_92 z9)))), (qM, .inl (cI, 7, .inl (fun z9 => nI ((pn_up m6 5 (m6 0)) z9))))] := hD
              refine lv_aload_n hx hb d_M_divide_95 rfl (lv_at hl 1 rfl) ?_
              refine lv_iload_n hx hb d_M_divide_96 rfl (lv_at hl 2 rfl) ?_
              refine lv_iconst (v := nI 2) hx hb d_M_divide_97 (by decide) ?_
              refine lv_iload hx hb d_M_divide_98 (lv_at hl 0 rfl) ?_
              refine lv_iconst (v := nI 4) hx hb d_M_divide_100 (by decide) ?_
              refine pn_bi (wr := []) [4, 5, 6, 0, 2, 3, 1] [] hP hD hS hA (pn_rV [.int (nI k), .int (nI 2), .int (sg a), .int (nI 4)] [] Fx hK hN hP hD [4, 5, 6, 0, 2, 3, 1] rfl rfl (c_M_put l D cI cZ cB cJ _ oM qW qM qK qJ qG qH qP 0 pl u_92 (pn_up m6 5 (m6 0)) hv kp km sg (ρ) k 2 4 (sg a) (ρ a / ρ b) (by omega) (by omega) hk (by omega) (by omega) (hK92 2 _ (by omega) hd1) (pm_up43 (Nat.lt_of_le_of_lt (pn_div_abs hpos) (pm_rb2 hρ ha).1) (by decide)) (by rw [(hρ a ha).2.1]; exact pm_div_sgn hpos) hρ) kw_678 cal_M_put inst_M_put sel_M_put ⟨by decide, by decide⟩ ⟨rfl, rfl⟩ 0 rfl rfl rfl rfl hl.1 (Nat.le_of_ble_eq_true rfl) d_M_divide_101 ⟨Nat.zero_le _, Nat.zero_le _⟩) rfl rfl rfl (by decide) (fun r_101 u_101 H locs hw hP hD hS => ?_)
              obtain ⟨c8, w8, m8, h8, kp8, km8, sg8⟩ := u_101
              obtain ⟨hK101, hp101⟩ := hw
              have hP : va_P D pn_cl [(oM, .inr (5, [.int (nI c8), .ref qW, .ref qM, .ref qK, .ref qJ, .ref qG, .ref qH, .ref qP, .int (nI pl)])), (qW, .inl (cI, 22400, .inl (fun z9 => nI (w8 z9)))), (qM, .inl (cI, 7, .inl (fun z9 => nI (m8 z9)))), (qH, .inl (cI, 2700, .inl (fun z9 => nI (h8 z9)))), (qK, .inl (cI, 36480, .inl (fun z9 => nI (kp8 z9)))), (qJ, .inl (cI, 24, .inl (fun z9 => nI (km8 z9)))), (qG, .inl (cI, 24, .inl sg8))] H := hP
              have hD : va_D A [(oM, .inr (5, [.int (nI c8), .ref qW, .ref qM, .ref qK, .ref qJ, .ref qG, .ref qH, .ref qP, .int (nI pl)])), (qW, .inl (cI, 22400, .inl (fun z9 => nI (w8 z9)))), (qM, .inl (cI, 7, .inl (fun z9 => nI (m8 z9)))), (qH, .inl (cI, 2700, .inl (fun z9 => nI (h8 z9)))), (qK, .inl (cI, 36480, .inl (fun z9 => nI (kp8 z9)))), (qJ, .inl (cI, 24, .inl (fun z9 => nI (km8 z9)))), (qG, .inl (cI, 24, .inl sg8))] := hD
              dsimp only at hK101 hp101
              replace hp101 := hp101.resolve_right (fun g => absurd g.1 (Nat.not_lt.mpr (Nat.le_trans (pn_lenI_le (pn_div_abs hpos)) (hρ a ha).2.2)))
              refine lv_istore (lv' := [(6, .int r_101), (5, .int (sg a)), (0, .ref oM), (1, .int (nI k)), (2, .int (nI q)), (3, .int (nI a)), (4, .int (nI b))]) hx hb d_M_divide_104 hl (by decide) rfl (fun ls hl => ?_)
              refine lv_aload_n hx hb d_M_divide_106 rfl (lv_at hl 2 rfl) ?_
              refine lv_iload_n hx hb d_M_divide_107 rfl (lv_at hl 4 rfl) ?_
              refine lv_iconst (v := nI 5) hx hb d_M_divide_108 (by decide) ?_
              refine lv_iconst (v := nI 1) hx hb d_M_divide_109 (by decide) ?_
              refine lv_iconst (v := nI 4) hx hb d_M_divide_110 (by decide) ?_
              refine pn_bi (wr := []) [0, 1, 2, 3, 4, 5, 6] [] hP hD hS hA (pn_rV [.int (nI q), .int (nI 5), .int (nI 1), .int (nI 4)] [] Fx hK hN hP hD [0, 1, 2, 3, 4, 5, 6] rfl rfl (c_M_put l D cI cZ cB cJ _ oM qW qM qK qJ qG qH qP c8 pl w8 m8 h8 kp8 km8 sg8 (pn_up ρ k (ρ a / ρ b)) q 5 4 (nI 1) (ρ a % ρ b) (by omega) (by omega) hq9 (by omega) (by omega) (hK101 5 _ (by omega) hc92) (pm_up43 (Nat.lt_of_le_of_lt (pn_mod_abs hpos) (pm_rb2 hρ hb9).1) (by decide)) (pm_mod_sgn hpos) hp101.2.2.2) kw_678 cal_M_put inst_M_put sel_M_put ⟨by decide, by decide⟩ ⟨rfl, rfl⟩ 0 rfl rfl rfl rfl hl.1 (Nat.le_of_ble_eq_true rfl) d_M_divide_111 ⟨Nat.zero_le _, Nat.zero_le _⟩) rfl rfl rfl (by decide) (fun r_111 u_111 H locs hw hP hD hS => ?_)
              obtain ⟨c7, w7, m7, h7, kp7, km7, sg7⟩ := u_111
              obtain ⟨hK111, hp111⟩ := hw
              have hP : va_P D pn_cl [(oM, .inr (5, [.int (nI c7), .ref qW, .ref qM, .ref qK, .ref qJ, .ref qG, .ref qH, .ref qP, .int (nI pl)])), (qW, .inl (cI, 22400, .inl (fun z9 => nI (w7 z9)))), (qM, .inl (cI, 7, .inl (fun z9 => nI (m7 z9)))), (qH, .inl (cI, 2700, .inl (fun z9 => nI (h7 z9)))), (qK, .inl (cI, 36480, .inl (fun z9 => nI (kp7 z9)))), (qJ, .inl (cI, 24, .inl (fun z9 => nI (km7 z9)))), (qG, .inl (cI, 24, .inl sg7))] H := hP
              have hD : va_D A [(oM, .inr (5, [.int (nI c7), .ref qW, .ref qM, .ref qK, .ref qJ, .ref qG, .ref qH, .ref qP, .int (nI pl)])), (qW, .inl (cI, 22400, .inl (fun z9 => nI (w7 z9)))), (qM, .inl (cI, 7, .inl (fun z9 => nI (m7 z9)))), (qH, .inl (cI, 2700, .inl (fun z9 => nI (h7 z9)))), (qK, .inl (cI, 36480, .inl (fun z9 => nI (kp7 z9)))), (qJ, .inl (cI, 24, .inl (fun z9 => nI (km7 z9)))), (qG, .inl (cI, 24, .inl sg7))] := hD
              dsimp only at hK111 hp111
              replace hp111 := hp111.resolve_right (fun g => absurd g.1 (Nat.not_lt.mpr (Nat.le_trans (pn_lenI_le (pn_mod_abs hpos)) (hρ b hb9).2.2)))
              have hreg := hp111.2.2.2
              rw [pm_up_comm h_24] at hreg
              refine lv_pop hx hb d_M_divide_114 rfl ?_
              refine lv_iload hx hb d_M_divide_115 (lv_at hl 0 rfl) ?_
              exact pn_reti ((c7, w7, m7, h7, kp7, km7, sg7)) Fx hr hlocks hQ hAe hP hD hS (by (try dsimp only); first | done | exact (Or.inr (Or.inr ⟨k, q, a, b, hk, hq9, ha, hb9, rfl, rfl, rfl, rfl, h_24, Or.inr ⟨hpos, hp101.2.1, hp111.2.2.1, hreg⟩⟩))) d_M_divide_117
            · skip
              have hless : true = true ↔ ρ a < 0 := ⟨fun _ => pn_cmp_neg.mp (by rw [← (hρ a ha).2.1]; exact Int32.not_le.mp h_78), fun _ => rfl⟩
              refine lv_iconst (v := pn_b true) hx hb d_M_divide_81 (by decide) ?_
              refine lv_goto (tgt := 86) hx hb d_M_divide_82 (by decide) ?_
              refine pn_bv (wr := [(qH, .inl (cI, 2700, .inl (fun z9 => nI (hv z9)))), (qG, .inl (cI, 24, .inl sg)), (qK, .inl (cI, 36480, .inl (fun z9 => nI (kp z9)))), (qJ, .inl (cI, 24, .inl (fun z9 => nI (km z9))))]) [2, 3, 4] [0, 1, 5, 6] hP hD hS hA (pn_rV [.int (pn_b true)] [] Fx hK hN hP hD [2, 3, 4] rfl rfl (c_M_down l D cI cZ cB cJ _ oM qW qM qK qJ qG qH qP 0 pl u_72 (pn_up (pn_up mn 0 (km a)) 1 (km b)) (ρ a).natAbs (ρ b).natAbs true (hK72 0 _ (by omega) hn65) hn72 (by omega) (Nat.lt_of_lt_of_le (pm_rb2 hρ ha).2 (pm_mono (by decide)))) kw_771 cal_M_down inst_M_down sel_M_down ⟨by decide, by decide⟩ ⟨rfl, rfl⟩ 0 rfl rfl rfl rfl hl.1 (Nat.le_of_ble_eq_true rfl) d_M_divide_86 ⟨Nat.zero_le _, Nat.zero_le _⟩) rfl rfl rfl (by decide) (fun u_86 H locs hw hP hD hS => ?_)
              obtain ⟨w6, m6⟩ := u_86
              obtain ⟨hd1, hd2⟩ := hw
              have hP : va_P D pn_cl [(qH, .inl (cI, 2700, .inl (fun z9 => nI (hv z9)))), (qG, .inl (cI, 24, .inl sg)), (qK, .inl (cI, 36480, .inl (fun z9 => nI (kp z9)))), (qJ, .inl (cI, 24, .inl (fun z9 => nI (km z9)))), (oM, .inr (5, [.int (nI 0), .ref qW, .ref qM, .ref qK, .ref qJ, .ref qG, .ref qH, .ref qP, .int (nI pl)])), (qW, .inl (cI, 22400, .inl (fun z9 => nI (w6 z9)))), (qM, .inl (cI, 7, .inl (fun z9 => nI (m6 z9))))] H := hP
              have hD : va_D A [(qH, .inl (cI, 2700, .inl (fun z9 => nI (hv z9)))), (qG, .inl (cI, 24, .inl sg)), (qK, .inl (cI, 36480, .inl (fun z9 => nI (kp z9)))), (qJ, .inl (cI, 24, .inl (fun z9 => nI (km z9)))), (oM, .inr (5, [.int (nI 0), .ref qW, .ref qM, .ref qK, .ref qJ, .ref qG, .ref qH, .ref qP, .int (nI pl)])), (qW, .inl (cI, 22400, .inl (fun z9 => nI (w6 z9)))), (qM, .inl (cI, 7, .inl (fun z9 => nI (m6 z9))))] := hD
              dsimp only at hd1 hd2
              have hdm := pm_divmod (A := ρ a) (less := true) hpos hless
              rw [← hdm.1] at hd1
              rw [← hdm.2] at hd2
              refine lv_aload_n hx hb d_M_divide_89 rfl (lv_at hl 1 rfl) ?_
              refine lv_iconst (v := nI 5) hx hb d_M_divide_90 (by decide) ?_
              refine lv_iconst (v := nI 0) hx hb d_M_divide_91 (by decide) ?_
              refine pn_bv (wr := [(qH, .inl (cI, 2700, .inl (fun z9 => nI (hv z9)))), (qG, .inl (cI, 24, .inl sg)), (qK, .inl (cI, 36480, .inl (fun z9 => nI (kp z9)))), (qJ, .inl (cI, 24, .inl (fun z9 => nI (km z9))))]) [4, 5, 6] [0, 1, 2, 3] hP hD hS hA (pn_rV [.int (nI 5), .int (nI 0)] [] Fx hK hN hP hD [4, 5, 6] rfl rfl (c_M_copyTo l D cI cZ cB cJ _ oM qW qM qK qJ qG qH qP 0 pl w6 m6 5 0 (ρ a % ρ b).natAbs (by omega) (by omega) (by omega) hd2) kw_690 cal_M_copyTo inst_M_copyTo sel_M_copyTo ⟨by decide, by decide⟩ ⟨rfl, rfl⟩ 0 rfl rfl rfl rfl hl.1 (Nat.le_of_ble_eq_true rfl) d_M_divide_92 ⟨Nat.zero_le _, Nat.zero_le _⟩) rfl rfl rfl (by decide) (fun u_92 H locs hw hP hD hS => ?_)
              obtain ⟨hc92, hK92⟩ := hw
              have hP : va_P D pn_cl [(qH, .inl (cI, 2700, .inl (fun z9 => nI (hv z9)))), (qG, .inl (cI, 24, .inl sg)), (qK, .inl (cI, 36480, .inl (fun z9 => nI (kp z9)))), (qJ, .inl (cI, 24, .inl (fun z9 => nI (km z9)))), (oM, .inr (5, [.int (nI 0), .ref qW, .ref qM, .ref qK, .ref qJ, .ref qG, .ref qH, .ref qP, .int (nI pl)])), (qW, .inl (cI, 22400, .inl (fun z9 => nI (u_92 z9)))), (qM, .inl (cI, 7, .inl (fun z9 => nI ((pn_up m6 5 (m6 0)) z9))))] H := hP
              have hD : va_D A [(qH, .inl (cI, 2700, .inl (fun z9 => nI (hv z9)))), (qG, .inl (cI, 24, .inl sg)), (qK, .inl (cI, 36480, .inl (fun z9 => nI (kp z9)))), (qJ, .inl (cI, 24, .inl (fun z9 => nI (km z9)))), (oM, .inr (5, [.int (nI 0), .ref qW, .ref qM, .ref qK, .ref qJ, .ref qG, .ref qH, .ref qP, .int (nI pl)])), (qW, .inl (cI, 22400, .inl (fun z9 => nI (u_92 z9)))), (qM, .inl (cI, 7, .inl (fun z9 => nI ((pn_up m6 5 (m6 0)) z9))))] := hD
              refine lv_aload_n hx hb d_M_divide_95 rfl (lv_at hl 1 rfl) ?_
              refine lv_iload_n hx hb d_M_divide_96 rfl (lv_at hl 2 rfl) ?_
              refine lv_iconst (v := nI 2) hx hb d_M_divide_97 (by decide) ?_
              refine lv_iload hx hb d_M_divide_98 (lv_at hl 0 rfl) ?_
              refine lv_iconst (v := nI 4) hx hb d_M_divide_100 (by decide) ?_
              refine pn_bi (wr := []) [4, 5, 6, 0, 2, 3, 1] [] hP hD hS hA (pn_rV [.int (nI k), .int (nI 2), .int (sg a), .int (nI 4)] [] Fx hK hN hP hD [4, 5, 6, 0, 2, 3, 1] rfl rfl (c_M_put l D cI cZ cB cJ _ oM qW qM qK qJ qG qH qP 0 pl u_92 (pn_up m6 5 (m6 0)) hv kp km sg (ρ) k 2 4 (sg a) (ρ a / ρ b) (by omega) (by omega) hk (by omega) (by omega) (hK92 2 _ (by omega) hd1) (pm_up43 (Nat.lt_of_le_of_lt (pn_div_abs hpos) (pm_rb2 hρ ha).1) (by decide)) (by rw [(hρ a ha).2.1]; exact pm_div_sgn hpos) hρ) kw_678 cal_M_put inst_M_put sel_M_put ⟨by decide, by decide⟩ ⟨rfl, rfl⟩ 0 rfl rfl rfl rfl hl.1 (Nat.le_of_ble_eq_true rfl) d_M_divide_101 ⟨Nat.zero_le _, Nat.zero_le _⟩) rfl rfl rfl (by decide) (fun r_101 u_101 H locs hw hP hD hS => ?_)
              obtain ⟨c8, w8, m8, h8, kp8, km8, sg8⟩ := u_101
              obtain ⟨hK101, hp101⟩ := hw
              have hP : va_P D pn_cl [(oM, .inr (5, [.int (nI c8), .ref qW, .ref qM, .ref qK, .ref qJ, .ref qG, .ref qH, .ref qP, .int (nI pl)])), (qW, .inl (cI, 22400, .inl (fun z9 => nI (w8 z9)))), (qM, .inl (cI, 7, .inl (fun z9 => nI (m8 z9)))), (qH, .inl (cI, 2700, .inl (fun z9 => nI (h8 z9)))), (qK, .inl (cI, 36480, .inl (fun z9 => nI (kp8 z9)))), (qJ, .inl (cI, 24, .inl (fun z9 => nI (km8 z9)))), (qG, .inl (cI, 24, .inl sg8))] H := hP
              have hD : va_D A [(oM, .inr (5, [.int (nI c8), .ref qW, .ref qM, .ref qK, .ref qJ, .ref qG, .ref qH, .ref qP, .int (nI pl)])), (qW, .inl (cI, 22400, .inl (fun z9 => nI (w8 z9)))), (qM, .inl (cI, 7, .inl (fun z9 => nI (m8 z9)))), (qH, .inl (cI, 2700, .inl (fun z9 => nI (h8 z9)))), (qK, .inl (cI, 36480, .inl (fun z9 => nI (kp8 z9)))), (qJ, .inl (cI, 24, .inl (fun z9 => nI (km8 z9)))), (qG, .inl (cI, 24, .inl sg8))] := hD
              dsimp only at hK101 hp101
              replace hp101 := hp101.resolve_right (fun g => absurd g.1 (Nat.not_lt.mpr (Nat.le_trans (pn_lenI_le (pn_div_abs hpos)) (hρ a ha).2.2)))
              refine lv_istore (lv' := [(6, .int r_101), (5, .int (sg a)), (0, .ref oM), (1, .int (nI k)), (2, .int (nI q)), (3, .int (nI a)), (4, .int (nI b))]) hx hb d_M_divide_104 hl (by decide) rfl (fun ls hl => ?_)
              refine lv_aload_n hx hb d_M_divide_106 rfl (lv_at hl 2 rfl) ?_
              refine lv_iload_n hx hb d_M_divide_107 rfl (lv_at hl 4 rfl) ?_
              refine lv_iconst (v := nI 5) hx hb d_M_divide_108 (by decide) ?_
              refine lv_iconst (v := nI 1) hx hb d_M_divide_109 (by decide) ?_
              refine lv_iconst (v := nI 4) hx hb d_M_divide_110 (by decide) ?_
              refine pn_bi (wr := []) [0, 1, 2, 3, 4, 5, 6] [] hP hD hS hA (pn_rV [.int (nI q), .int (nI 5), .int (nI 1), .int (nI 4)] [] Fx hK hN hP hD [0, 1, 2, 3, 4, 5, 6] rfl rfl (c_M_put l D cI cZ cB cJ _ oM qW qM qK qJ qG qH qP c8 pl w8 m8 h8 kp8 km8 sg8 (pn_up ρ k (ρ a / ρ b)) q 5 4 (nI 1) (ρ a % ρ b) (by omega) (by omega) hq9 (by omega) (by omega) (hK101 5 _ (by omega) hc92) (pm_up43 (Nat.lt_of_le_of_lt (pn_mod_abs hpos) (pm_rb2 hρ hb9).1) (by decide)) (pm_mod_sgn hpos) hp101.2.2.2) kw_678 cal_M_put inst_M_put sel_M_put ⟨by decide, by decide⟩ ⟨rfl, rfl⟩ 0 rfl rfl rfl rfl hl.1 (Nat.le_of_ble_eq_true rfl) d_M_divide_111 ⟨Nat.zero_le _, Nat.zero_le _⟩) rfl rfl rfl (by decide) (fun r_111 u_111 H locs hw hP hD hS => ?_)
              obtain ⟨c7, w7, m7, h7, kp7, km7, sg7⟩ := u_111
              obtain ⟨hK111, hp111⟩ := hw
              have hP : va_P D pn_cl [(oM, .inr (5, [.int (nI c7), .ref qW, .ref qM, .ref qK, .ref qJ, .ref qG, .ref qH, .ref qP, .int (nI pl)])), (qW, .inl (cI, 22400, .inl (fun z9 => nI (w7 z9)))), (qM, .inl (cI, 7, .inl (fun z9 => nI (m7 z9)))), (qH, .inl (cI, 2700, .inl (fun z9 => nI (h7 z9)))), (qK, .inl (cI, 36480, .inl (fun z9 => nI (kp7 z9)))), (qJ, .inl (cI, 24, .inl (fun z9 => nI (km7 z9)))), (qG, .inl (cI, 24, .inl sg7))] H := hP
              have hD : va_D A [(oM, .inr (5, [.int (nI c7), .ref qW, .ref qM, .ref qK, .ref qJ, .ref qG, .ref qH, .ref qP, .int (nI pl)])), (qW, .inl (cI, 22400, .inl (fun z9 => nI (w7 z9)))), (qM, .inl (cI, 7, .inl (fun z9 => nI (m7 z9)))), (qH, .inl (cI, 2700, .inl (fun z9 => nI (h7 z9)))), (qK, .inl (cI, 36480, .inl (fun z9 => nI (kp7 z9)))), (qJ, .inl (cI, 24, .inl (fun z9 => nI (km7 z9)))), (qG, .inl (cI, 24, .inl sg7))] := hD
              dsimp only at hK111 hp111
              replace hp111 := hp111.resolve_right (fun g => absurd g.1 (Nat.not_lt.mpr (Nat.le_trans (pn_lenI_le (pn_mod_abs hpos)) (hρ b hb9).2.2)))
              have hreg := hp111.2.2.2
              rw [pm_up_comm h_24] at hreg
              refine lv_pop hx hb d_M_divide_114 rfl ?_
              refine lv_iload hx hb d_M_divide_115 (lv_at hl 0 rfl) ?_
              exact pn_reti ((c7, w7, m7, h7, kp7, km7, sg7)) Fx hr hlocks hQ hAe hP hD hS (by (try dsimp only); first | done | exact (Or.inr (Or.inr ⟨k, q, a, b, hk, hq9, ha, hb9, rfl, rfl, rfl, rfl, h_24, Or.inr ⟨hpos, hp101.2.1, hp111.2.2.1, hreg⟩⟩))) d_M_divide_117
          · skip
            rw [hrf46] at h_49
            exact absurd h_49 (by decide)
        · skip
          have hneg : ¬ 0 < ρ b := fun g => h_38 (by rw [(hρ b hb9).2.1]; exact pn_cmp_pos.mpr g)
          refine lv_iconst (v := nI 3) hx hb d_M_divide_41 (by decide) ?_
          refine lv_goto (tgt := 46) hx hb d_M_divide_42 (by decide) ?_
          refine pn_bi (wr := [(qW, .inl (cI, 22400, .inl (fun z9 => nI (wk z9)))), (qM, .inl (cI, 7, .inl (fun z9 => nI (mn z9)))), (qH, .inl (cI, 2700, .inl (fun z9 => nI (hv z9)))), (qK, .inl (cI, 36480, .inl (fun z9 => nI (kp z9)))), (qJ, .inl (cI, 24, .inl (fun z9 => nI (km z9)))), (qG, .inl (cI, 24, .inl sg))]) [0] [1, 2, 3, 4, 5, 6] hP hD hS hA (pn_rV [.int (nI 3)] [] Fx hK hN hP hD [0] rfl rfl (c_M_refuses l D cI cZ cB cJ _ oM qW qM qK qJ qG qH qP cd pl 3 (by omega)) kw_669 cal_M_refuses inst_M_refuses sel_M_refuses ⟨by decide, by decide⟩ ⟨rfl, rfl⟩ 0 rfl rfl rfl rfl hl.1 (Nat.le_of_ble_eq_true rfl) d_M_divide_46 ⟨Nat.zero_le _, Nat.zero_le _⟩) rfl rfl rfl (by decide) (fun r_46 u_46 H locs hw hP hD hS => ?_)
          obtain ⟨rfl, hrf46⟩ := hw
          have hP : va_P D pn_cl [(qW, .inl (cI, 22400, .inl (fun z9 => nI (wk z9)))), (qM, .inl (cI, 7, .inl (fun z9 => nI (mn z9)))), (qH, .inl (cI, 2700, .inl (fun z9 => nI (hv z9)))), (qK, .inl (cI, 36480, .inl (fun z9 => nI (kp z9)))), (qJ, .inl (cI, 24, .inl (fun z9 => nI (km z9)))), (qG, .inl (cI, 24, .inl sg)), (oM, .inr (5, [.int (nI 3), .ref qW, .ref qM, .ref qK, .ref qJ, .ref qG, .ref qH, .ref qP, .int (nI pl)]))] H := hP
          have hD : va_D A [(qW, .inl (cI, 22400, .inl (fun z9 => nI (wk z9)))), (qM, .inl (cI, 7, .inl (fun z9 => nI (mn z9)))), (qH, .inl (cI, 2700, .inl (fun z9 => nI (hv z9)))), (qK, .inl (cI, 36480, .inl (fun z9 => nI (kp z9)))), (qJ, .inl (cI, 24, .inl (fun z9 => nI (km z9)))), (qG, .inl (cI, 24, .inl sg)), (oM, .inr (5, [.int (nI 3), .ref qW, .ref qM, .ref qK, .ref qJ, .ref qG, .ref qH, .ref qP, .int (nI pl)]))] := hD
          refine pw_ifb_eq (tgt := 54) hx hb d_M_divide_49 (by decide) (fun h_49 => ?_) (fun h_49 => ?_)
          · skip
            rw [hrf46] at h_49
            exact absurd h_49 (by decide)
          · skip
            refine lv_iconst (v := nI 0) hx hb d_M_divide_52 (by decide) ?_
            exact pn_reti ((3, wk, mn, hv, kp, km, sg)) Fx hr hlocks hQ hAe (hP.sub [6, 0, 1, 2, 3, 4, 5] rfl) (hD.sub [6, 0, 1, 2, 3, 4, 5] (by decide) rfl) hS (by (try dsimp only); first | done | exact (Or.inr (Or.inr ⟨k, q, a, b, hk, hq9, ha, hb9, rfl, rfl, rfl, rfl, h_24, Or.inl ⟨rfl, hneg, hρ⟩⟩))) d_M_divide_53
      · skip
        have hxy : nI k = nI q := congrArg nI h_24
        refine lv_iconst (v := nI 2) hx hb d_M_divide_27 (by decide) ?_
        refine lv_goto (tgt := 46) hx hb d_M_divide_28 (by decide) ?_
        refine pn_bi (wr := [(qW, .inl (cI, 22400, .inl (fun z9 => nI (wk z9)))), (qM, .inl (cI, 7, .inl (fun z9 => nI (mn z9)))), (qH, .inl (cI, 2700, .inl (fun z9 => nI (hv z9)))), (qK, .inl (cI, 36480, .inl (fun z9 => nI (kp z9)))), (qJ, .inl (cI, 24, .inl (fun z9 => nI (km z9)))), (qG, .inl (cI, 24, .inl sg))]) [0] [1, 2, 3, 4, 5, 6] hP hD hS hA (pn_rV [.int (nI 2)] [] Fx hK hN hP hD [0] rfl rfl (c_M_refuses l D cI cZ cB cJ _ oM qW qM qK qJ qG qH qP cd pl 2 (by omega)) kw_669 cal_M_refuses inst_M_refuses sel_M_refuses ⟨by decide, by decide⟩ ⟨rfl, rfl⟩ 0 rfl rfl rfl rfl hl.1 (Nat.le_of_ble_eq_true rfl) d_M_divide_46 ⟨Nat.zero_le _, Nat.zero_le _⟩) rfl rfl rfl (by decide) (fun r_46 u_46 H locs hw hP hD hS => ?_)
        obtain ⟨rfl, hrf46⟩ := hw
        have hP : va_P D pn_cl [(qW, .inl (cI, 22400, .inl (fun z9 => nI (wk z9)))), (qM, .inl (cI, 7, .inl (fun z9 => nI (mn z9)))), (qH, .inl (cI, 2700, .inl (fun z9 => nI (hv z9)))), (qK, .inl (cI, 36480, .inl (fun z9 => nI (kp z9)))), (qJ, .inl (cI, 24, .inl (fun z9 => nI (km z9)))), (qG, .inl (cI, 24, .inl sg)), (oM, .inr (5, [.int (nI 2), .ref qW, .ref qM, .ref qK, .ref qJ, .ref qG, .ref qH, .ref qP, .int (nI pl)]))] H := hP
        have hD : va_D A [(qW, .inl (cI, 22400, .inl (fun z9 => nI (wk z9)))), (qM, .inl (cI, 7, .inl (fun z9 => nI (mn z9)))), (qH, .inl (cI, 2700, .inl (fun z9 => nI (hv z9)))), (qK, .inl (cI, 36480, .inl (fun z9 => nI (kp z9)))), (qJ, .inl (cI, 24, .inl (fun z9 => nI (km z9)))), (qG, .inl (cI, 24, .inl sg)), (oM, .inr (5, [.int (nI 2), .ref qW, .ref qM, .ref qK, .ref qJ, .ref qG, .ref qH, .ref qP, .int (nI pl)]))] := hD
        refine pw_ifb_eq (tgt := 54) hx hb d_M_divide_49 (by decide) (fun h_49 => ?_) (fun h_49 => ?_)
        · skip
          rw [hrf46] at h_49
          exact absurd h_49 (by decide)
        · skip
          refine lv_iconst (v := nI 0) hx hb d_M_divide_52 (by decide) ?_
          exact pn_reti ((2, wk, mn, hv, kp, km, sg)) Fx hr hlocks hQ hAe (hP.sub [6, 0, 1, 2, 3, 4, 5] rfl) (hD.sub [6, 0, 1, 2, 3, 4, 5] (by decide) rfl) hS (by (try dsimp only); first | done | exact (Or.inr (Or.inl ⟨rfl, ⟨⟨pn_isR_nI hk, pn_isR_nI hq9⟩, pn_isR_nI ha, pn_isR_nI hb9⟩, hxy, hρ⟩))) d_M_divide_53
    · skip
      have hno : ¬ ((pn_isR x ∧ pn_isR y) ∧ pn_isR z ∧ pn_isR t) := fun g => absurd (h12.mpr g.2.2) (by rw [h_15]; decide)
      refine lv_iconst (v := nI 1) hx hb d_M_divide_18 (by decide) ?_
      refine lv_goto (tgt := 46) hx hb d_M_divide_19 (by decide) ?_
      refine pn_bi (wr := [(qW, .inl (cI, 22400, .inl (fun z9 => nI (wk z9)))), (qM, .inl (cI, 7, .inl (fun z9 => nI (mn z9)))), (qH, .inl (cI, 2700, .inl (fun z9 => nI (hv z9)))), (qK, .inl (cI, 36480, .inl (fun z9 => nI (kp z9)))), (qJ, .inl (cI, 24, .inl (fun z9 => nI (km z9)))), (qG, .inl (cI, 24, .inl sg))]) [0] [1, 2, 3, 4, 5, 6] hP hD hS hA (pn_rV [.int (nI 1)] [] Fx hK hN hP hD [0] rfl rfl (c_M_refuses l D cI cZ cB cJ _ oM qW qM qK qJ qG qH qP cd pl 1 (by omega)) kw_669 cal_M_refuses inst_M_refuses sel_M_refuses ⟨by decide, by decide⟩ ⟨rfl, rfl⟩ 0 rfl rfl rfl rfl hl.1 (Nat.le_of_ble_eq_true rfl) d_M_divide_46 ⟨Nat.zero_le _, Nat.zero_le _⟩) rfl rfl rfl (by decide) (fun r_46 u_46 H locs hw hP hD hS => ?_)
      obtain ⟨rfl, hrf46⟩ := hw
      have hP : va_P D pn_cl [(qW, .inl (cI, 22400, .inl (fun z9 => nI (wk z9)))), (qM, .inl (cI, 7, .inl (fun z9 => nI (mn z9)))), (qH, .inl (cI, 2700, .inl (fun z9 => nI (hv z9)))), (qK, .inl (cI, 36480, .inl (fun z9 => nI (kp z9)))), (qJ, .inl (cI, 24, .inl (fun z9 => nI (km z9)))), (qG, .inl (cI, 24, .inl sg)), (oM, .inr (5, [.int (nI 1), .ref qW, .ref qM, .ref qK, .ref qJ, .ref qG, .ref qH, .ref qP, .int (nI pl)]))] H := hP
      have hD : va_D A [(qW, .inl (cI, 22400, .inl (fun z9 => nI (wk z9)))), (qM, .inl (cI, 7, .inl (fun z9 => nI (mn z9)))), (qH, .inl (cI, 2700, .inl (fun z9 => nI (hv z9)))), (qK, .inl (cI, 36480, .inl (fun z9 => nI (kp z9)))), (qJ, .inl (cI, 24, .inl (fun z9 => nI (km z9)))), (qG, .inl (cI, 24, .inl sg)), (oM, .inr (5, [.int (nI 1), .ref qW, .ref qM, .ref qK, .ref qJ, .ref qG, .ref qH, .ref qP, .int (nI pl)]))] := hD
      refine pw_ifb_eq (tgt := 54) hx hb d_M_divide_49 (by decide) (fun h_49 => ?_) (fun h_49 => ?_)
      · skip
        rw [hrf46] at h_49
        exact absurd h_49 (by decide)
      · skip
        refine lv_iconst (v := nI 0) hx hb d_M_divide_52 (by decide) ?_
        exact pn_reti ((1, wk, mn, hv, kp, km, sg)) Fx hr hlocks hQ hAe (hP.sub [6, 0, 1, 2, 3, 4, 5] rfl) (hD.sub [6, 0, 1, 2, 3, 4, 5] (by decide) rfl) hS (by (try dsimp only); first | done | exact (Or.inl ⟨rfl, hno, hρ⟩)) d_M_divide_53

set_option maxHeartbeats 4000000 in
set_option maxRecDepth 100000 in
theorem c_M_exact (l : Launch) (D : va_G) (cI cZ cB cJ : ClassId) (sz : Nat) (oM qW qM qK qJ qG qH qP cd pl : Nat) (wk mn : Nat → Nat) (hv kp km : Nat → Nat) (sg : Nat → Int32) (ρ : Nat → Int) (x y z : Int32) (hρ : pm_regs kp km sg ρ) : pn_Ci l D (pn_ty cI cZ cB cJ) y_M_exact w_M_exact ({ frames := 4, cells := 0, slots := 0, locals := 160 } : Room) [.ref oM, .int x, .int y, .int z] [(oM, .inr (5, [.int (nI cd), .ref qW, .ref qM, .ref qK, .ref qJ, .ref qG, .ref qH, .ref qP, .int (nI pl)])), (qW, .inl (cI, 22400, .inl (fun z9 => nI (wk z9)))), (qM, .inl (cI, 7, .inl (fun z9 => nI (mn z9)))), (qH, .inl (cI, 2700, .inl (fun z9 => nI (hv z9)))), (qK, .inl (cI, 36480, .inl (fun z9 => nI (kp z9)))), (qJ, .inl (cI, 24, .inl (fun z9 => nI (km z9)))), (qG, .inl (cI, 24, .inl sg))] sz (S := Nat × (Nat → Nat) × (Nat → Nat) × (Nat → Nat) × (Nat → Nat) × (Nat → Nat) × (Nat → Int32)) (fun r u => (u.1 = 1 ∧ ¬ (pn_isR x ∧ pn_isR y ∧ pn_isR z) ∧ pm_regs u.2.2.2.2.1 u.2.2.2.2.2.1 u.2.2.2.2.2.2 ρ) ∨ (∃ k a b, k < 24 ∧ a < 24 ∧ b < 24 ∧ x = nI k ∧ y = nI a ∧ z = nI b ∧ ((u.1 = 2 ∧ (ρ b = 0 ∨ ρ a % ρ b ≠ 0) ∧ pm_regs u.2.2.2.2.1 u.2.2.2.2.2.1 u.2.2.2.2.2.2 ρ) ∨ (ρ b ≠ 0 ∧ ρ a % ρ b = 0 ∧ r = nI (pn_lenI (ρ a / ρ b)) ∧ u.1 = 0 ∧ pm_regs u.2.2.2.2.1 u.2.2.2.2.2.1 u.2.2.2.2.2.2 (pn_up ρ k (ρ a / ρ b)))))) (fun u => [(oM, .inr (5, [.int (nI u.1), .ref qW, .ref qM, .ref qK, .ref qJ, .ref qG, .ref qH, .ref qP, .int (nI pl)])), (qW, .inl (cI, 22400, .inl (fun z9 => nI (u.2.1 z9)))), (qM, .inl (cI, 7, .inl (fun z9 => nI (u.2.2.1 z9)))), (qH, .inl (cI, 2700, .inl (fun z9 => nI (u.2.2.2.1 z9)))), (qK, .inl (cI, 36480, .inl (fun z9 => nI (u.2.2.2.2.1 z9)))), (qJ, .inl (cI, 24, .inl (fun z9 => nI (u.2.2.2.2.2.1 z9)))), (qG, .inl (cI, 24, .inl u.2.2.2.2.2.2))]) := by
  refine pn_start (by decide) (Nat.le_of_ble_eq_true rfl) ?_
  intro p e s m below meth c A Q ls hQ hAe Fx hr hlocks hN hK hP hD hS hA hl
  have hx := Fx.1
  have hb := Fx.2.1
  have hl : lv_has ls 4 [(0, .ref oM), (1, .int x), (2, .int y), (3, .int z)] := hl
  refine lv_aload_n hx hb d_M_exact_0 rfl (lv_at hl 0 rfl) ?_
  refine lv_iload_n hx hb d_M_exact_1 rfl (lv_at hl 1 rfl) ?_
  refine lv_iload_n hx hb d_M_exact_2 rfl (lv_at hl 2 rfl) ?_
  refine lv_iload_n hx hb d_M_exact_3 rfl (lv_at hl 3 rfl) ?_
  refine pn_bi (wr := [(oM, .inr (5, [.int (nI cd), .ref qW, .ref qM, .ref qK, .ref qJ, .ref qG, .ref qH, .ref qP, .int (nI pl)])), (qW, .inl (cI, 22400, .inl (fun z9 => nI (wk z9)))), (qM, .inl (cI, 7, .inl (fun z9 => nI (mn z9)))), (qH, .inl (cI, 2700, .inl (fun z9 => nI (hv z9)))), (qK, .inl (cI, 36480, .inl (fun z9 => nI (kp z9)))), (qJ, .inl (cI, 24, .inl (fun z9 => nI (km z9)))), (qG, .inl (cI, 24, .inl sg))]) [] [0, 1, 2, 3, 4, 5, 6] hP hD hS hA (pn_rS [.int x, .int y, .int z] [.ref oM] Fx hK hN hP hD [] rfl rfl (c_M_are l D cI cZ cB cJ _ x y z) kw_724 cal_M_are stat_M_are ⟨by decide, by decide⟩ ⟨rfl, rfl⟩ rfl hl.1 (Nat.le_of_ble_eq_true rfl) d_M_exact_4 ⟨Nat.zero_le _, Nat.zero_le _⟩) rfl rfl rfl (by decide) (fun r_4 u_4 H locs hw hP hD hS => ?_)
  obtain ⟨rfl, h4⟩ := hw
  have hP : va_P D pn_cl [(oM, .inr (5, [.int (nI cd), .ref qW, .ref qM, .ref qK, .ref qJ, .ref qG, .ref qH, .ref qP, .int (nI pl)])), (qW, .inl (cI, 22400, .inl (fun z9 => nI (wk z9)))), (qM, .inl (cI, 7, .inl (fun z9 => nI (mn z9)))), (qH, .inl (cI, 2700, .inl (fun z9 => nI (hv z9)))), (qK, .inl (cI, 36480, .inl (fun z9 => nI (kp z9)))), (qJ, .inl (cI, 24, .inl (fun z9 => nI (km z9)))), (qG, .inl (cI, 24, .inl sg))] H := hP
  have hD : va_D A [(oM, .inr (5, [.int (nI cd), .ref qW, .ref qM, .ref qK, .ref qJ, .ref qG, .ref qH, .ref qP, .int (nI pl)])), (qW, .inl (cI, 22400, .inl (fun z9 => nI (wk z9)))), (qM, .inl (cI, 7, .inl (fun z9 => nI (mn z9)))), (qH, .inl (cI, 2700, .inl (fun z9 => nI (hv z9)))), (qK, .inl (cI, 36480, .inl (fun z9 => nI (kp z9)))), (qJ, .inl (cI, 24, .inl (fun z9 => nI (km z9)))), (qG, .inl (cI, 24, .inl sg))] := hD
  refine pw_ifb_ne (tgt := 14) hx hb d_M_exact_7 (by decide) (fun h_7 => ?_) (fun h_7 => ?_)
  · skip
    obtain ⟨⟨k, hk, rfl⟩, ⟨a, ha, rfl⟩, ⟨b, hb9, rfl⟩⟩ := h4.mp h_7
    refine lv_aload_n hx hb d_M_exact_14 rfl (lv_at hl 0 rfl) ?_
    refine pw_get Fx hK hP fld_M 0 rfl 5 (by decide) kw_635 (v := .ref qG) rfl d_M_exact_15 ?_
    refine lv_iload_n hx hb d_M_exact_18 rfl (lv_at hl 3 rfl) ?_
    refine pw_iald Fx hK hP 6 0 (f := sg) rfl rfl (k := b) (by omega) (by decide) d_M_exact_19 ?_
    refine lv_if_ne (tgt := 27) hx hb d_M_exact_20 (by decide) (fun h_20 => ?_) (fun h_20 => ?_)
    · skip
      have hbne : ρ b ≠ 0 := fun g => h_20 (by rw [(hρ b hb9).2.1]; exact pn_cmp_0.mpr g)
      refine lv_iconst (v := nI 0) hx hb d_M_exact_27 (by decide) ?_
      refine pn_bi (wr := [(qW, .inl (cI, 22400, .inl (fun z9 => nI (wk z9)))), (qM, .inl (cI, 7, .inl (fun z9 => nI (mn z9)))), (qH, .inl (cI, 2700, .inl (fun z9 => nI (hv z9)))), (qK, .inl (cI, 36480, .inl (fun z9 => nI (kp z9)))), (qJ, .inl (cI, 24, .inl (fun z9 => nI (km z9)))), (qG, .inl (cI, 24, .inl sg))]) [0] [1, 2, 3, 4, 5, 6] hP hD hS hA (pn_rV [.int (nI 0)] [] Fx hK hN hP hD [0] rfl rfl (c_M_refuses l D cI cZ cB cJ _ oM qW qM qK qJ qG qH qP cd pl 0 (by omega)) kw_669 cal_M_refuses inst_M_refuses sel_M_refuses ⟨by decide, by decide⟩ ⟨rfl, rfl⟩ 0 rfl rfl rfl rfl hl.1 (Nat.le_of_ble_eq_true rfl) d_M_exact_28 ⟨Nat.zero_le _, Nat.zero_le _⟩) rfl rfl rfl (by decide) (fun r_28 u_28 H locs hw hP hD hS => ?_)
      obtain ⟨rfl, hrf28⟩ := hw
      have hP : va_P D pn_cl [(qW, .inl (cI, 22400, .inl (fun z9 => nI (wk z9)))), (qM, .inl (cI, 7, .inl (fun z9 => nI (mn z9)))), (qH, .inl (cI, 2700, .inl (fun z9 => nI (hv z9)))), (qK, .inl (cI, 36480, .inl (fun z9 => nI (kp z9)))), (qJ, .inl (cI, 24, .inl (fun z9 => nI (km z9)))), (qG, .inl (cI, 24, .inl sg)), (oM, .inr (5, [.int (nI 0), .ref qW, .ref qM, .ref qK, .ref qJ, .ref qG, .ref qH, .ref qP, .int (nI pl)]))] H := hP
      have hD : va_D A [(qW, .inl (cI, 22400, .inl (fun z9 => nI (wk z9)))), (qM, .inl (cI, 7, .inl (fun z9 => nI (mn z9)))), (qH, .inl (cI, 2700, .inl (fun z9 => nI (hv z9)))), (qK, .inl (cI, 36480, .inl (fun z9 => nI (kp z9)))), (qJ, .inl (cI, 24, .inl (fun z9 => nI (km z9)))), (qG, .inl (cI, 24, .inl sg)), (oM, .inr (5, [.int (nI 0), .ref qW, .ref qM, .ref qK, .ref qJ, .ref qG, .ref qH, .ref qP, .int (nI pl)]))] := hD
      refine pw_ifb_eq (tgt := 36) hx hb d_M_exact_31 (by decide) (fun h_31 => ?_) (fun h_31 => ?_)
      · skip
        refine lv_aload_n hx hb d_M_exact_36 rfl (lv_at hl 0 rfl) ?_
        refine lv_iconst (v := nI 0) hx hb d_M_exact_37 (by decide) ?_
        refine lv_iload_n hx hb d_M_exact_38 rfl (lv_at hl 2 rfl) ?_
        refine pn_bv (wr := [(qH, .inl (cI, 2700, .inl (fun z9 => nI (hv z9)))), (qG, .inl (cI, 24, .inl sg))]) [6, 0, 1, 3, 4] [2, 5] hP hD hS hA (pn_rV [.int (nI 0), .int (nI a)] [] Fx hK hN hP hD [6, 0, 1, 3, 4] rfl rfl (c_M_load l D cI cZ cB cJ _ oM qW qM qK qJ qG qH qP 0 pl wk mn kp km 0 a ((ρ a).natAbs) (by omega) ha (hρ a ha).1) kw_703 cal_M_load inst_M_load sel_M_load ⟨by decide, by decide⟩ ⟨rfl, rfl⟩ 0 rfl rfl rfl rfl hl.1 (Nat.le_of_ble_eq_true rfl) d_M_exact_39 ⟨Nat.zero_le _, Nat.zero_le _⟩) rfl rfl rfl (by decide) (fun u_39 H locs hw hP hD hS => ?_)
        obtain ⟨hn39, hK39⟩ := hw
        have hP : va_P D pn_cl [(qH, .inl (cI, 2700, .inl (fun z9 => nI (hv z9)))), (qG, .inl (cI, 24, .inl sg)), (oM, .inr (5, [.int (nI 0), .ref qW, .ref qM, .ref qK, .ref qJ, .ref qG, .ref qH, .ref qP, .int (nI pl)])), (qW, .inl (cI, 22400, .inl (fun z9 => nI (u_39 z9)))), (qM, .inl (cI, 7, .inl (fun z9 => nI ((pn_up mn 0 (km a)) z9)))), (qK, .inl (cI, 36480, .inl (fun z9 => nI (kp z9)))), (qJ, .inl (cI, 24, .inl (fun z9 => nI (km z9))))] H := hP
        have hD : va_D A [(qH, .inl (cI, 2700, .inl (fun z9 => nI (hv z9)))), (qG, .inl (cI, 24, .inl sg)), (oM, .inr (5, [.int (nI 0), .ref qW, .ref qM, .ref qK, .ref qJ, .ref qG, .ref qH, .ref qP, .int (nI pl)])), (qW, .inl (cI, 22400, .inl (fun z9 => nI (u_39 z9)))), (qM, .inl (cI, 7, .inl (fun z9 => nI ((pn_up mn 0 (km a)) z9)))), (qK, .inl (cI, 36480, .inl (fun z9 => nI (kp z9)))), (qJ, .inl (cI, 24, .inl (fun z9 => nI (km z9))))] := hD
        refine lv_aload_n hx hb d_M_exact_42 rfl (lv_at hl 0 rfl) ?_
        refine lv_iconst (v := nI 1) hx hb d_M_exact_43 (by decide) ?_
        refine lv_iload_n hx hb d_M_exact_44 rfl (lv_at hl 3 rfl) ?_
        refine pn_bv (wr := [(qH, .inl (cI, 2700, .inl (fun z9 => nI (hv z9)))), (qG, .inl (cI, 24, .inl sg))]) [2, 3, 4, 5, 6] [0, 1] hP hD hS hA (pn_rV [.int (nI 1), .int (nI b)] [] Fx hK hN hP hD [2, 3, 4, 5, 6] rfl rfl (c_M_load l D cI cZ cB cJ _ oM qW qM qK qJ qG qH qP 0 pl u_39 (pn_up mn 0 (km a)) kp km 1 b ((ρ b).natAbs) (by omega) hb9 (hρ b hb9).1) kw_703 cal_M_load inst_M_load sel_M_load ⟨by decide, by decide⟩ ⟨rfl, rfl⟩ 0 rfl rfl rfl rfl hl.1 (Nat.le_of_ble_eq_true rfl) d_M_exact_45 ⟨Nat.zero_le _, Nat.zero_le _⟩) rfl rfl rfl (by decide) (fun u_45 H locs hw hP hD hS => ?_)
        obtain ⟨hn45, hK45⟩ := hw
        have hP : va_P D pn_cl [(qH, .inl (cI, 2700, .inl (fun z9 => nI (hv z9)))), (qG, .inl (cI, 24, .inl sg)), (oM, .inr (5, [.int (nI 0), .ref qW, .ref qM, .ref qK, .ref qJ, .ref qG, .ref qH, .ref qP, .int (nI pl)])), (qW, .inl (cI, 22400, .inl (fun z9 => nI (u_45 z9)))), (qM, .inl (cI, 7, .inl (fun z9 => nI ((pn_up (pn_up mn 0 (km a)) 1 (km b)) z9)))), (qK, .inl (cI, 36480, .inl (fun z9 => nI (kp z9)))), (qJ, .inl (cI, 24, .inl (fun z9 => nI (km z9))))] H := hP
        have hD : va_D A [(qH, .inl (cI, 2700, .inl (fun z9 => nI (hv z9)))), (qG, .inl (cI, 24, .inl sg)), (oM, .inr (5, [.int (nI 0), .ref qW, .ref qM, .ref qK, .ref qJ, .ref qG, .ref qH, .ref qP, .int (nI pl)])), (qW, .inl (cI, 22400, .inl (fun z9 => nI (u_45 z9)))), (qM, .inl (cI, 7, .inl (fun z9 => nI ((pn_up (pn_up mn 0 (km a)) 1 (km b)) z9)))), (qK, .inl (cI, 36480, .inl (fun z9 => nI (kp z9)))), (qJ, .inl (cI, 24, .inl (fun z9 => nI (km z9))))] := hD
        have hn0 := hK45 0 _ (by omega) hn39
        refine lv_aload_n hx hb d_M_exact_48 rfl (lv_at hl 0 rfl) ?_
        refine lv_iconst (v := nI 2) hx hb d_M_exact_49 (by decide) ?_
        refine lv_iconst (v := nI 0) hx hb d_M_exact_50 (by decide) ?_
        refine lv_iconst (v := nI 1) hx hb d_M_exact_51 (by decide) ?_
        refine pn_bv (wr := [(qH, .inl (cI, 2700, .inl (fun z9 => nI (hv z9)))), (qG, .inl (cI, 24, .inl sg)), (qK, .inl (cI, 36480, .inl (fun z9 => nI (kp z9)))), (qJ, .inl (cI, 24, .inl (fun z9 => nI (km z9))))]) [2, 3, 4] [0, 1, 5, 6] hP hD hS hA (pn_rV [.int (nI 2), .int (nI 0), .int (nI 1)] [] Fx hK hN hP hD [2, 3, 4] rfl rfl (c_M_divideBy l D cI cZ cB cJ _ oM qW qM qK qJ qG qH qP 0 pl u_45 (pn_up (pn_up mn 0 (km a)) 1 (km b)) 2 0 1 (ρ a).natAbs (ρ b).natAbs (by omega) (by omega) (by omega) (by omega) (by omega) (by omega) hn0 hn45 (by omega) (Nat.le_trans (pm_N_cnt hn0 (pm_rb2 hρ ha).2) (by decide))) kw_775 cal_M_divideBy inst_M_divideBy sel_M_divideBy ⟨by decide, by decide⟩ ⟨rfl, rfl⟩ 0 rfl rfl rfl rfl hl.1 (Nat.le_of_ble_eq_true rfl) d_M_exact_52 ⟨Nat.zero_le _, Nat.zero_le _⟩) rfl rfl rfl (by decide) (fun u_52 H locs hw hP hD hS => ?_)
        obtain ⟨w6, m6⟩ := u_52
        obtain ⟨hd1, hd2, hd3⟩ := hw
        have hP : va_P D pn_cl [(qH, .inl (cI, 2700, .inl (fun z9 => nI (hv z9)))), (qG, .inl (cI, 24, .inl sg)), (qK, .inl (cI, 36480, .inl (fun z9 => nI (kp z9)))), (qJ, .inl (cI, 24, .inl (fun z9 => nI (km z9)))), (oM, .inr (5, [.int (nI 0), .ref qW, .ref qM, .ref qK, .ref qJ, .ref qG, .ref qH, .ref qP, .int (nI pl)])), (qW, .inl (cI, 22400, .inl (fun z9 => nI (w6 z9)))), (qM, .inl (cI, 7, .inl (fun z9 => nI (m6 z9))))] H := hP
        have hD : va_D A [(qH, .inl (cI, 2700, .inl (fun z9 => nI (hv z9)))), (qG, .inl (cI, 24, .inl sg)), (qK, .inl (cI, 36480, .inl (fun z9 => nI (kp z9)))), (qJ, .inl (cI, 24, .inl (fun z9 => nI (km z9)))), (oM, .inr (5, [.int (nI 0), .ref qW, .ref qM, .ref qK, .ref qJ, .ref qG, .ref qH, .ref qP, .int (nI pl)])), (qW, .inl (cI, 22400, .inl (fun z9 => nI (w6 z9)))), (qM, .inl (cI, 7, .inl (fun z9 => nI (m6 z9))))] := hD
        dsimp only at hd1 hd2 hd3
        have hm0 := hd2.1
        have hmz := pm_N_zero hd2
        refine lv_aload_n hx hb d_M_exact_55 rfl (lv_at hl 0 rfl) ?_
        refine lv_aload_n hx hb d_M_exact_56 rfl (lv_at hl 0 rfl) ?_
        refine pw_get Fx hK hP fld_M 4 rfl 2 (by decide) kw_632 (v := .ref qM) rfl d_M_exact_57 ?_
        refine lv_iconst (v := nI 0) hx hb d_M_exact_60 (by decide) ?_
        refine pw_iald Fx hK hP 6 0 (f := fun z9 => nI (m6 z9)) rfl rfl (k := 0) (by omega) (by decide) d_M_exact_61 ?_
        refine pn_topi (nI (m6 0)) rfl ?_
        refine pw_if_le (a := m6 0) (tgt := 69) hx hb d_M_exact_62 (by decide) (by omega) (fun h_62 => ?_) (fun h_62 => ?_)
        · skip
          have hdv : ρ a % ρ b = 0 := pm_ex_mod.mpr (hmz.mp (by omega))
          refine lv_iconst (v := nI 0) hx hb d_M_exact_69 (by decide) ?_
          refine pn_bi (wr := [(qH, .inl (cI, 2700, .inl (fun z9 => nI (hv z9)))), (qG, .inl (cI, 24, .inl sg)), (qK, .inl (cI, 36480, .inl (fun z9 => nI (kp z9)))), (qJ, .inl (cI, 24, .inl (fun z9 => nI (km z9)))), (qW, .inl (cI, 22400, .inl (fun z9 => nI (w6 z9)))), (qM, .inl (cI, 7, .inl (fun z9 => nI (m6 z9))))]) [4] [0, 1, 2, 3, 5, 6] hP hD hS hA (pn_rV [.int (nI 0)] [] Fx hK hN hP hD [4] rfl rfl (c_M_refuses l D cI cZ cB cJ _ oM qW qM qK qJ qG qH qP 0 pl 0 (by omega)) kw_669 cal_M_refuses inst_M_refuses sel_M_refuses ⟨by decide, by decide⟩ ⟨rfl, rfl⟩ 0 rfl rfl rfl rfl hl.1 (Nat.le_of_ble_eq_true rfl) d_M_exact_70 ⟨Nat.zero_le _, Nat.zero_le _⟩) rfl rfl rfl (by decide) (fun r_70 u_70 H locs hw hP hD hS => ?_)
          obtain ⟨rfl, hrf70⟩ := hw
          have hP : va_P D pn_cl [(qH, .inl (cI, 2700, .inl (fun z9 => nI (hv z9)))), (qG, .inl (cI, 24, .inl sg)), (qK, .inl (cI, 36480, .inl (fun z9 => nI (kp z9)))), (qJ, .inl (cI, 24, .inl (fun z9 => nI (km z9)))), (qW, .inl (cI, 22400, .inl (fun z9 => nI (w6 z9)))), (qM, .inl (cI, 7, .inl (fun z9 => nI (m6 z9)))), (oM, .inr (5, [.int (nI 0), .ref qW, .ref qM, .ref qK, .ref qJ, .ref qG, .ref qH, .ref qP, .int (nI pl)]))] H := hP
          have hD : va_D A [(qH, .inl (cI, 2700, .inl (fun z9 => nI (hv z9)))), (qG, .inl (cI, 24, .inl sg)), (qK, .inl (cI, 36480, .inl (fun z9 => nI (kp z9)))), (qJ, .inl (cI, 24, .inl (fun z9 => nI (km z9)))), (qW, .inl (cI, 22400, .inl (fun z9 => nI (w6 z9)))), (qM, .inl (cI, 7, .inl (fun z9 => nI (m6 z9)))), (oM, .inr (5, [.int (nI 0), .ref qW, .ref qM, .ref qK, .ref qJ, .ref qG, .ref qH, .ref qP, .int (nI pl)]))] := hD
          refine pw_ifb_eq (tgt := 78) hx hb d_M_exact_73 (by decide) (fun h_73 => ?_) (fun h_73 => ?_)
          · skip
            refine lv_aload_n hx hb d_M_exact_78 rfl (lv_at hl 0 rfl) ?_
            refine lv_iload_n hx hb d_M_exact_79 rfl (lv_at hl 1 rfl) ?_
            refine lv_iconst (v := nI 2) hx hb d_M_exact_80 (by decide) ?_
            refine lv_aload_n hx hb d_M_exact_81 rfl (lv_at hl 0 rfl) ?_
            refine pw_get Fx hK hP fld_M 6 rfl 5 (by decide) kw_635 (v := .ref qG) rfl d_M_exact_82 ?_
            refine lv_iload_n hx hb d_M_exact_85 rfl (lv_at hl 2 rfl) ?_
            refine pw_iald Fx hK hP 1 0 (f := sg) rfl rfl (k := a) (by omega) (by decide) d_M_exact_86 ?_
            refine lv_aload_n hx hb d_M_exact_87 rfl (lv_at hl 0 rfl) ?_
            refine pw_get Fx hK hP fld_M 6 rfl 5 (by decide) kw_635 (v := .ref qG) rfl d_M_exact_88 ?_
            refine lv_iload_n hx hb d_M_exact_91 rfl (lv_at hl 3 rfl) ?_
            refine pw_iald Fx hK hP 1 0 (f := sg) rfl rfl (k := b) (by omega) (by decide) d_M_exact_92 ?_
            refine lv_imul hx hb d_M_exact_93 ?_
            refine lv_iconst (v := nI 3) hx hb d_M_exact_94 (by decide) ?_
            refine pn_bi (wr := []) [6, 4, 5, 0, 2, 3, 1] [] hP hD hS hA (pn_rV [.int (nI k), .int (nI 2), .int ((sg a) * (sg b)), .int (nI 3)] [] Fx hK hN hP hD [6, 4, 5, 0, 2, 3, 1] rfl rfl (c_M_put l D cI cZ cB cJ _ oM qW qM qK qJ qG qH qP 0 pl w6 m6 hv kp km sg (ρ) k 2 3 (sg a * sg b) (ρ a / ρ b) (by omega) (by omega) hk (by omega) (by omega) (show pm_N w6 m6 2 (ρ a / ρ b).natAbs by rw [(pm_ex hdv hbne).1]; exact hd1) (pm_up43 (Nat.lt_of_le_of_lt (show (ρ a / ρ b).natAbs ≤ (ρ a).natAbs by rw [(pm_ex hdv hbne).1]; exact Nat.div_le_self _ _) (pm_rb2 hρ ha).1) (by decide)) (by rw [(hρ a ha).2.1, (hρ b hb9).2.1]; exact (pm_ex hdv hbne).2) hρ) kw_678 cal_M_put inst_M_put sel_M_put ⟨by decide, by decide⟩ ⟨rfl, rfl⟩ 0 rfl rfl rfl rfl hl.1 (Nat.le_of_ble_eq_true rfl) d_M_exact_95 ⟨Nat.zero_le _, Nat.zero_le _⟩) rfl rfl rfl (by decide) (fun r_95 u_95 H locs hw hP hD hS => ?_)
            obtain ⟨c8, w8, m8, h8, kp8, km8, sg8⟩ := u_95
            obtain ⟨hK95, hp95⟩ := hw
            have hP : va_P D pn_cl [(oM, .inr (5, [.int (nI c8), .ref qW, .ref qM, .ref qK, .ref qJ, .ref qG, .ref qH, .ref qP, .int (nI pl)])), (qW, .inl (cI, 22400, .inl (fun z9 => nI (w8 z9)))), (qM, .inl (cI, 7, .inl (fun z9 => nI (m8 z9)))), (qH, .inl (cI, 2700, .inl (fun z9 => nI (h8 z9)))), (qK, .inl (cI, 36480, .inl (fun z9 => nI (kp8 z9)))), (qJ, .inl (cI, 24, .inl (fun z9 => nI (km8 z9)))), (qG, .inl (cI, 24, .inl sg8))] H := hP
            have hD : va_D A [(oM, .inr (5, [.int (nI c8), .ref qW, .ref qM, .ref qK, .ref qJ, .ref qG, .ref qH, .ref qP, .int (nI pl)])), (qW, .inl (cI, 22400, .inl (fun z9 => nI (w8 z9)))), (qM, .inl (cI, 7, .inl (fun z9 => nI (m8 z9)))), (qH, .inl (cI, 2700, .inl (fun z9 => nI (h8 z9)))), (qK, .inl (cI, 36480, .inl (fun z9 => nI (kp8 z9)))), (qJ, .inl (cI, 24, .inl (fun z9 => nI (km8 z9)))), (qG, .inl (cI, 24, .inl sg8))] := hD
            dsimp only at hK95 hp95
            exact pn_reti ((c8, w8, m8, h8, kp8, km8, sg8)) Fx hr hlocks hQ hAe hP hD hS (by (try dsimp only); first | done | exact (Or.inr ⟨k, a, b, hk, ha, hb9, rfl, rfl, rfl, Or.inr ⟨hbne, hdv, (hp95.resolve_right (fun g => absurd g.1 (Nat.not_lt.mpr (Nat.le_trans (pn_lenI_le (show (ρ a / ρ b).natAbs ≤ (ρ a).natAbs by rw [(pm_ex hdv hbne).1]; exact Nat.div_le_self _ _)) (hρ a ha).2.2)))).2⟩⟩)) d_M_exact_98
          · skip
            rw [hrf70] at h_73
            exact absurd h_73 (by decide)
        · skip
          have hnd : ρ a % ρ b ≠ 0 := fun g => by have := hmz.mpr (pm_ex_mod.mp g); omega
          refine lv_iconst (v := nI 2) hx hb d_M_exact_65 (by decide) ?_
          refine lv_goto (tgt := 70) hx hb d_M_exact_66 (by decide) ?_
          refine pn_bi (wr := [(qH, .inl (cI, 2700, .inl (fun z9 => nI (hv z9)))), (qG, .inl (cI, 24, .inl sg)), (qK, .inl (cI, 36480, .inl (fun z9 => nI (kp z9)))), (qJ, .inl (cI, 24, .inl (fun z9 => nI (km z9)))), (qW, .inl (cI, 22400, .inl (fun z9 => nI (w6 z9)))), (qM, .inl (cI, 7, .inl (fun z9 => nI (m6 z9))))]) [4] [0, 1, 2, 3, 5, 6] hP hD hS hA (pn_rV [.int (nI 2)] [] Fx hK hN hP hD [4] rfl rfl (c_M_refuses l D cI cZ cB cJ _ oM qW qM qK qJ qG qH qP 0 pl 2 (by omega)) kw_669 cal_M_refuses inst_M_refuses sel_M_refuses ⟨by decide, by decide⟩ ⟨rfl, rfl⟩ 0 rfl rfl rfl rfl hl.1 (Nat.le_of_ble_eq_true rfl) d_M_exact_70 ⟨Nat.zero_le _, Nat.zero_le _⟩) rfl rfl rfl (by decide) (fun r_70 u_70 H locs hw hP hD hS => ?_)
          obtain ⟨rfl, hrf70⟩ := hw
          have hP : va_P D pn_cl [(qH, .inl (cI, 2700, .inl (fun z9 => nI (hv z9)))), (qG, .inl (cI, 24, .inl sg)), (qK, .inl (cI, 36480, .inl (fun z9 => nI (kp z9)))), (qJ, .inl (cI, 24, .inl (fun z9 => nI (km z9)))), (qW, .inl (cI, 22400, .inl (fun z9 => nI (w6 z9)))), (qM, .inl (cI, 7, .inl (fun z9 => nI (m6 z9)))), (oM, .inr (5, [.int (nI 2), .ref qW, .ref qM, .ref qK, .ref qJ, .ref qG, .ref qH, .ref qP, .int (nI pl)]))] H := hP
          have hD : va_D A [(qH, .inl (cI, 2700, .inl (fun z9 => nI (hv z9)))), (qG, .inl (cI, 24, .inl sg)), (qK, .inl (cI, 36480, .inl (fun z9 => nI (kp z9)))), (qJ, .inl (cI, 24, .inl (fun z9 => nI (km z9)))), (qW, .inl (cI, 22400, .inl (fun z9 => nI (w6 z9)))), (qM, .inl (cI, 7, .inl (fun z9 => nI (m6 z9)))), (oM, .inr (5, [.int (nI 2), .ref qW, .ref qM, .ref qK, .ref qJ, .ref qG, .ref qH, .ref qP, .int (nI pl)]))] := hD
          refine pw_ifb_eq (tgt := 78) hx hb d_M_exact_73 (by decide) (fun h_73 => ?_) (fun h_73 => ?_)
          · skip
            rw [hrf70] at h_73
            exact absurd h_73 (by decide)
          · skip
            refine lv_iconst (v := nI 0) hx hb d_M_exact_76 (by decide) ?_
            exact pn_reti ((2, w6, m6, hv, kp, km, sg)) Fx hr hlocks hQ hAe (hP.sub [6, 4, 5, 0, 2, 3, 1] rfl) (hD.sub [6, 4, 5, 0, 2, 3, 1] (by decide) rfl) hS (by (try dsimp only); first | done | exact (Or.inr ⟨k, a, b, hk, ha, hb9, rfl, rfl, rfl, Or.inl ⟨rfl, Or.inr hnd, hρ⟩⟩)) d_M_exact_77
      · skip
        rw [hrf28] at h_31
        exact absurd h_31 (by decide)
    · skip
      have hbz : ρ b = 0 := pn_cmp_0.mp (by rw [← (hρ b hb9).2.1]; exact h_20)
      refine lv_iconst (v := nI 2) hx hb d_M_exact_23 (by decide) ?_
      refine lv_goto (tgt := 28) hx hb d_M_exact_24 (by decide) ?_
      refine pn_bi (wr := [(qW, .inl (cI, 22400, .inl (fun z9 => nI (wk z9)))), (qM, .inl (cI, 7, .inl (fun z9 => nI (mn z9)))), (qH, .inl (cI, 2700, .inl (fun z9 => nI (hv z9)))), (qK, .inl (cI, 36480, .inl (fun z9 => nI (kp z9)))), (qJ, .inl (cI, 24, .inl (fun z9 => nI (km z9)))), (qG, .inl (cI, 24, .inl sg))]) [0] [1, 2, 3, 4, 5, 6] hP hD hS hA (pn_rV [.int (nI 2)] [] Fx hK hN hP hD [0] rfl rfl (c_M_refuses l D cI cZ cB cJ _ oM qW qM qK qJ qG qH qP cd pl 2 (by omega)) kw_669 cal_M_refuses inst_M_refuses sel_M_refuses ⟨by decide, by decide⟩ ⟨rfl, rfl⟩ 0 rfl rfl rfl rfl hl.1 (Nat.le_of_ble_eq_true rfl) d_M_exact_28 ⟨Nat.zero_le _, Nat.zero_le _⟩) rfl rfl rfl (by decide) (fun r_28 u_28 H locs hw hP hD hS => ?_)
      obtain ⟨rfl, hrf28⟩ := hw
      have hP : va_P D pn_cl [(qW, .inl (cI, 22400, .inl (fun z9 => nI (wk z9)))), (qM, .inl (cI, 7, .inl (fun z9 => nI (mn z9)))), (qH, .inl (cI, 2700, .inl (fun z9 => nI (hv z9)))), (qK, .inl (cI, 36480, .inl (fun z9 => nI (kp z9)))), (qJ, .inl (cI, 24, .inl (fun z9 => nI (km z9)))), (qG, .inl (cI, 24, .inl sg)), (oM, .inr (5, [.int (nI 2), .ref qW, .ref qM, .ref qK, .ref qJ, .ref qG, .ref qH, .ref qP, .int (nI pl)]))] H := hP
      have hD : va_D A [(qW, .inl (cI, 22400, .inl (fun z9 => nI (wk z9)))), (qM, .inl (cI, 7, .inl (fun z9 => nI (mn z9)))), (qH, .inl (cI, 2700, .inl (fun z9 => nI (hv z9)))), (qK, .inl (cI, 36480, .inl (fun z9 => nI (kp z9)))), (qJ, .inl (cI, 24, .inl (fun z9 => nI (km z9)))), (qG, .inl (cI, 24, .inl sg)), (oM, .inr (5, [.int (nI 2), .ref qW, .ref qM, .ref qK, .ref qJ, .ref qG, .ref qH, .ref qP, .int (nI pl)]))] := hD
      refine pw_ifb_eq (tgt := 36) hx hb d_M_exact_31 (by decide) (fun h_31 => ?_) (fun h_31 => ?_)
      · skip
        rw [hrf28] at h_31
        exact absurd h_31 (by decide)
      · skip
        refine lv_iconst (v := nI 0) hx hb d_M_exact_34 (by decide) ?_
        exact pn_reti ((2, wk, mn, hv, kp, km, sg)) Fx hr hlocks hQ hAe (hP.sub [6, 0, 1, 2, 3, 4, 5] rfl) (hD.sub [6, 0, 1, 2, 3, 4, 5] (by decide) rfl) hS (by (try dsimp only); first | done | exact (Or.inr ⟨k, a, b, hk, ha, hb9, rfl, rfl, rfl, Or.inl ⟨rfl, Or.inl hbz, hρ⟩⟩)) d_M_exact_35
  · skip
    have hno : ¬ (pn_isR x ∧ pn_isR y ∧ pn_isR z) := fun q => absurd (h4.mpr q) (by rw [h_7]; decide)
    refine lv_iconst (v := nI 1) hx hb d_M_exact_10 (by decide) ?_
    refine lv_goto (tgt := 28) hx hb d_M_exact_11 (by decide) ?_
    refine pn_bi (wr := [(qW, .inl (cI, 22400, .inl (fun z9 => nI (wk z9)))), (qM, .inl (cI, 7, .inl (fun z9 => nI (mn z9)))), (qH, .inl (cI, 2700, .inl (fun z9 => nI (hv z9)))), (qK, .inl (cI, 36480, .inl (fun z9 => nI (kp z9)))), (qJ, .inl (cI, 24, .inl (fun z9 => nI (km z9)))), (qG, .inl (cI, 24, .inl sg))]) [0] [1, 2, 3, 4, 5, 6] hP hD hS hA (pn_rV [.int (nI 1)] [] Fx hK hN hP hD [0] rfl rfl (c_M_refuses l D cI cZ cB cJ _ oM qW qM qK qJ qG qH qP cd pl 1 (by omega)) kw_669 cal_M_refuses inst_M_refuses sel_M_refuses ⟨by decide, by decide⟩ ⟨rfl, rfl⟩ 0 rfl rfl rfl rfl hl.1 (Nat.le_of_ble_eq_true rfl) d_M_exact_28 ⟨Nat.zero_le _, Nat.zero_le _⟩) rfl rfl rfl (by decide) (fun r_28 u_28 H locs hw hP hD hS => ?_)
    obtain ⟨rfl, hrf28⟩ := hw
    have hP : va_P D pn_cl [(qW, .inl (cI, 22400, .inl (fun z9 => nI (wk z9)))), (qM, .inl (cI, 7, .inl (fun z9 => nI (mn z9)))), (qH, .inl (cI, 2700, .inl (fun z9 => nI (hv z9)))), (qK, .inl (cI, 36480, .inl (fun z9 => nI (kp z9)))), (qJ, .inl (cI, 24, .inl (fun z9 => nI (km z9)))), (qG, .inl (cI, 24, .inl sg)), (oM, .inr (5, [.int (nI 1), .ref qW, .ref qM, .ref qK, .ref qJ, .ref qG, .ref qH, .ref qP, .int (nI pl)]))] H := hP
    have hD : va_D A [(qW, .inl (cI, 22400, .inl (fun z9 => nI (wk z9)))), (qM, .inl (cI, 7, .inl (fun z9 => nI (mn z9)))), (qH, .inl (cI, 2700, .inl (fun z9 => nI (hv z9)))), (qK, .inl (cI, 36480, .inl (fun z9 => nI (kp z9)))), (qJ, .inl (cI, 24, .inl (fun z9 => nI (km z9)))), (qG, .inl (cI, 24, .inl sg)), (oM, .inr (5, [.int (nI 1), .ref qW, .ref qM, .ref qK, .ref qJ, .ref qG, .ref qH, .ref qP, .int (nI pl)]))] := hD
    refine pw_ifb_eq (tgt := 36) hx hb d_M_exact_31 (by decide) (fun h_31 => ?_) (fun h_31 => ?_)
    · skip
      rw [hrf28] at h_31
      exact absurd h_31 (by decide)
    · skip
      refine lv_iconst (v := nI 0) hx hb d_M_exact_34 (by decide) ?_
      exact pn_reti ((1, wk, mn, hv, kp, km, sg)) Fx hr hlocks hQ hAe (hP.sub [6, 0, 1, 2, 3, 4, 5] rfl) (hD.sub [6, 0, 1, 2, 3, 4, 5] (by decide) rfl) hS (by (try dsimp only); first | done | exact (Or.inl ⟨rfl, hno, hρ⟩)) d_M_exact_35

set_option maxHeartbeats 4000000 in
set_option maxRecDepth 100000 in
theorem c_M_nearest (l : Launch) (D : va_G) (cI cZ cB cJ : ClassId) (sz : Nat) (oM qW qM qK qJ qG qH qP cd pl : Nat) (wk mn : Nat → Nat) (hv kp km : Nat → Nat) (sg : Nat → Int32) (ρ : Nat → Int) (x y z : Int32) (hρ : pm_regs kp km sg ρ) : pn_Ci l D (pn_ty cI cZ cB cJ) y_M_nearest w_M_nearest ({ frames := 4, cells := 0, slots := 0, locals := 160 } : Room) [.ref oM, .int x, .int y, .int z] [(oM, .inr (5, [.int (nI cd), .ref qW, .ref qM, .ref qK, .ref qJ, .ref qG, .ref qH, .ref qP, .int (nI pl)])), (qW, .inl (cI, 22400, .inl (fun z9 => nI (wk z9)))), (qM, .inl (cI, 7, .inl (fun z9 => nI (mn z9)))), (qH, .inl (cI, 2700, .inl (fun z9 => nI (hv z9)))), (qK, .inl (cI, 36480, .inl (fun z9 => nI (kp z9)))), (qJ, .inl (cI, 24, .inl (fun z9 => nI (km z9)))), (qG, .inl (cI, 24, .inl sg))] sz (S := Nat × (Nat → Nat) × (Nat → Nat) × (Nat → Nat) × (Nat → Nat) × (Nat → Nat) × (Nat → Int32)) (fun r u => (u.1 = 1 ∧ ¬ (pn_isR x ∧ pn_isR y ∧ pn_isR z) ∧ pm_regs u.2.2.2.2.1 u.2.2.2.2.2.1 u.2.2.2.2.2.2 ρ) ∨ (∃ k a b, k < 24 ∧ a < 24 ∧ b < 24 ∧ x = nI k ∧ y = nI a ∧ z = nI b ∧ ((u.1 = 2 ∧ ¬ 0 < ρ b ∧ pm_regs u.2.2.2.2.1 u.2.2.2.2.2.1 u.2.2.2.2.2.2 ρ) ∨ (0 < ρ b ∧ r = nI (pn_lenI (pn_near (ρ a) (ρ b))) ∧ u.1 = 0 ∧ pm_regs u.2.2.2.2.1 u.2.2.2.2.2.1 u.2.2.2.2.2.2 (pn_up ρ k (pn_near (ρ a) (ρ b))))))) (fun u => [(oM, .inr (5, [.int (nI u.1), .ref qW, .ref qM, .ref qK, .ref qJ, .ref qG, .ref qH, .ref qP, .int (nI pl)])), (qW, .inl (cI, 22400, .inl (fun z9 => nI (u.2.1 z9)))), (qM, .inl (cI, 7, .inl (fun z9 => nI (u.2.2.1 z9)))), (qH, .inl (cI, 2700, .inl (fun z9 => nI (u.2.2.2.1 z9)))), (qK, .inl (cI, 36480, .inl (fun z9 => nI (u.2.2.2.2.1 z9)))), (qJ, .inl (cI, 24, .inl (fun z9 => nI (u.2.2.2.2.2.1 z9)))), (qG, .inl (cI, 24, .inl u.2.2.2.2.2.2))]) := by
  refine pn_start (by decide) (Nat.le_of_ble_eq_true rfl) ?_
  intro p e s m below meth c A Q ls hQ hAe Fx hr hlocks hN hK hP hD hS hA hl
  have hx := Fx.1
  have hb := Fx.2.1
  have hl : lv_has ls 7 [(0, .ref oM), (1, .int x), (2, .int y), (3, .int z)] := hl
  refine lv_aload_n hx hb d_M_nearest_0 rfl (lv_at hl 0 rfl) ?_
  refine lv_iload_n hx hb d_M_nearest_1 rfl (lv_at hl 1 rfl) ?_
  refine lv_iload_n hx hb d_M_nearest_2 rfl (lv_at hl 2 rfl) ?_
  refine lv_iload_n hx hb d_M_nearest_3 rfl (lv_at hl 3 rfl) ?_
  refine pn_bi (wr := [(oM, .inr (5, [.int (nI cd), .ref qW, .ref qM, .ref qK, .ref qJ, .ref qG, .ref qH, .ref qP, .int (nI pl)])), (qW, .inl (cI, 22400, .inl (fun z9 => nI (wk z9)))), (qM, .inl (cI, 7, .inl (fun z9 => nI (mn z9)))), (qH, .inl (cI, 2700, .inl (fun z9 => nI (hv z9)))), (qK, .inl (cI, 36480, .inl (fun z9 => nI (kp z9)))), (qJ, .inl (cI, 24, .inl (fun z9 => nI (km z9)))), (qG, .inl (cI, 24, .inl sg))]) [] [0, 1, 2, 3, 4, 5, 6] hP hD hS hA (pn_rS [.int x, .int y, .int z] [.ref oM] Fx hK hN hP hD [] rfl rfl (c_M_are l D cI cZ cB cJ _ x y z) kw_724 cal_M_are stat_M_are ⟨by decide, by decide⟩ ⟨rfl, rfl⟩ rfl hl.1 (Nat.le_of_ble_eq_true rfl) d_M_nearest_4 ⟨Nat.zero_le _, Nat.zero_le _⟩) rfl rfl rfl (by decide) (fun r_4 u_4 H locs hw hP hD hS => ?_)
  obtain ⟨rfl, h4⟩ := hw
  have hP : va_P D pn_cl [(oM, .inr (5, [.int (nI cd), .ref qW, .ref qM, .ref qK, .ref qJ, .ref qG, .ref qH, .ref qP, .int (nI pl)])), (qW, .inl (cI, 22400, .inl (fun z9 => nI (wk z9)))), (qM, .inl (cI, 7, .inl (fun z9 => nI (mn z9)))), (qH, .inl (cI, 2700, .inl (fun z9 => nI (hv z9)))), (qK, .inl (cI, 36480, .inl (fun z9 => nI (kp z9)))), (qJ, .inl (cI, 24, .inl (fun z9 => nI (km z9)))), (qG, .inl (cI, 24, .inl sg))] H := hP
  have hD : va_D A [(oM, .inr (5, [.int (nI cd), .ref qW, .ref qM, .ref qK, .ref qJ, .ref qG, .ref qH, .ref qP, .int (nI pl)])), (qW, .inl (cI, 22400, .inl (fun z9 => nI (wk z9)))), (qM, .inl (cI, 7, .inl (fun z9 => nI (mn z9)))), (qH, .inl (cI, 2700, .inl (fun z9 => nI (hv z9)))), (qK, .inl (cI, 36480, .inl (fun z9 => nI (kp z9)))), (qJ, .inl (cI, 24, .inl (fun z9 => nI (km z9)))), (qG, .inl (cI, 24, .inl sg))] := hD
  refine pw_ifb_ne (tgt := 14) hx hb d_M_nearest_7 (by decide) (fun h_7 => ?_) (fun h_7 => ?_)
  · skip
    obtain ⟨⟨k, hk, rfl⟩, ⟨a, ha, rfl⟩, ⟨b, hb9, rfl⟩⟩ := h4.mp h_7
    refine lv_aload_n hx hb d_M_nearest_14 rfl (lv_at hl 0 rfl) ?_
    refine pw_get Fx hK hP fld_M 0 rfl 5 (by decide) kw_635 (v := .ref qG) rfl d_M_nearest_15 ?_
    refine lv_iload_n hx hb d_M_nearest_18 rfl (lv_at hl 3 rfl) ?_
    refine pw_iald Fx hK hP 6 0 (f := sg) rfl rfl (k := b) (by omega) (by decide) d_M_nearest_19 ?_
    refine lv_if_gt (tgt := 27) hx hb d_M_nearest_20 (by decide) (fun h_20 => ?_) (fun h_20 => ?_)
    · skip
      have hpos : 0 < ρ b := pn_cmp_pos.mp (by rw [← (hρ b hb9).2.1]; exact h_20)
      refine lv_iconst (v := nI 0) hx hb d_M_nearest_27 (by decide) ?_
      refine pn_bi (wr := [(qW, .inl (cI, 22400, .inl (fun z9 => nI (wk z9)))), (qM, .inl (cI, 7, .inl (fun z9 => nI (mn z9)))), (qH, .inl (cI, 2700, .inl (fun z9 => nI (hv z9)))), (qK, .inl (cI, 36480, .inl (fun z9 => nI (kp z9)))), (qJ, .inl (cI, 24, .inl (fun z9 => nI (km z9)))), (qG, .inl (cI, 24, .inl sg))]) [0] [1, 2, 3, 4, 5, 6] hP hD hS hA (pn_rV [.int (nI 0)] [] Fx hK hN hP hD [0] rfl rfl (c_M_refuses l D cI cZ cB cJ _ oM qW qM qK qJ qG qH qP cd pl 0 (by omega)) kw_669 cal_M_refuses inst_M_refuses sel_M_refuses ⟨by decide, by decide⟩ ⟨rfl, rfl⟩ 0 rfl rfl rfl rfl hl.1 (Nat.le_of_ble_eq_true rfl) d_M_nearest_28 ⟨Nat.zero_le _, Nat.zero_le _⟩) rfl rfl rfl (by decide) (fun r_28 u_28 H locs hw hP hD hS => ?_)
      obtain ⟨rfl, hrf28⟩ := hw
      have hP : va_P D pn_cl [(qW, .inl (cI, 22400, .inl (fun z9 => nI (wk z9)))), (qM, .inl (cI, 7, .inl (fun z9 => nI (mn z9)))), (qH, .inl (cI, 2700, .inl (fun z9 => nI (hv z9)))), (qK, .inl (cI, 36480, .inl (fun z9 => nI (kp z9)))), (qJ, .inl (cI, 24, .inl (fun z9 => nI (km z9)))), (qG, .inl (cI, 24, .inl sg)), (oM, .inr (5, [.int (nI 0), .ref qW, .ref qM, .ref qK, .ref qJ, .ref qG, .ref qH, .ref qP, .int (nI pl)]))] H := hP
      have hD : va_D A [(qW, .inl (cI, 22400, .inl (fun z9 => nI (wk z9)))), (qM, .inl (cI, 7, .inl (fun z9 => nI (mn z9)))), (qH, .inl (cI, 2700, .inl (fun z9 => nI (hv z9)))), (qK, .inl (cI, 36480, .inl (fun z9 => nI (kp z9)))), (qJ, .inl (cI, 24, .inl (fun z9 => nI (km z9)))), (qG, .inl (cI, 24, .inl sg)), (oM, .inr (5, [.int (nI 0), .ref qW, .ref qM, .ref qK, .ref qJ, .ref qG, .ref qH, .ref qP, .int (nI pl)]))] := hD
      refine pw_ifb_eq (tgt := 36) hx hb d_M_nearest_31 (by decide) (fun h_31 => ?_) (fun h_31 => ?_)
      · skip
        refine lv_aload_n hx hb d_M_nearest_36 rfl (lv_at hl 0 rfl) ?_
        refine pw_get Fx hK hP fld_M 6 rfl 5 (by decide) kw_635 (v := .ref qG) rfl d_M_nearest_37 ?_
        refine lv_iload_n hx hb d_M_nearest_40 rfl (lv_at hl 2 rfl) ?_
        refine pw_iald Fx hK hP 5 0 (f := sg) rfl rfl (k := a) (by omega) (by decide) d_M_nearest_41 ?_
        refine lv_istore (lv' := [(4, .int (sg a)), (0, .ref oM), (1, .int (nI k)), (2, .int (nI a)), (3, .int (nI b))]) hx hb d_M_nearest_42 hl (by decide) rfl (fun ls hl => ?_)
        refine lv_aload_n hx hb d_M_nearest_44 rfl (lv_at hl 1 rfl) ?_
        refine lv_iconst (v := nI 0) hx hb d_M_nearest_45 (by decide) ?_
        refine lv_iload_n hx hb d_M_nearest_46 rfl (lv_at hl 3 rfl) ?_
        refine pn_bv (wr := [(qH, .inl (cI, 2700, .inl (fun z9 => nI (hv z9)))), (qG, .inl (cI, 24, .inl sg))]) [6, 0, 1, 3, 4] [2, 5] hP hD hS hA (pn_rV [.int (nI 0), .int (nI a)] [] Fx hK hN hP hD [6, 0, 1, 3, 4] rfl rfl (c_M_load l D cI cZ cB cJ _ oM qW qM qK qJ qG qH qP 0 pl wk mn kp km 0 a ((ρ a).natAbs) (by omega) ha (hρ a ha).1) kw_703 cal_M_load inst_M_load sel_M_load ⟨by decide, by decide⟩ ⟨rfl, rfl⟩ 0 rfl rfl rfl rfl hl.1 (Nat.le_of_ble_eq_true rfl) d_M_nearest_47 ⟨Nat.zero_le _, Nat.zero_le _⟩) rfl rfl rfl (by decide) (fun u_47 H locs hw hP hD hS => ?_)
        obtain ⟨hn47, hK47⟩ := hw
        have hP : va_P D pn_cl [(qH, .inl (cI, 2700, .inl (fun z9 => nI (hv z9)))), (qG, .inl (cI, 24, .inl sg)), (oM, .inr (5, [.int (nI 0), .ref qW, .ref qM, .ref qK, .ref qJ, .ref qG, .ref qH, .ref qP, .int (nI pl)])), (qW, .inl (cI, 22400, .inl (fun z9 => nI (u_47 z9)))), (qM, .inl (cI, 7, .inl (fun z9 => nI ((pn_up mn 0 (km a)) z9)))), (qK, .inl (cI, 36480, .inl (fun z9 => nI (kp z9)))), (qJ, .inl (cI, 24, .inl (fun z9 => nI (km z9))))] H := hP
        have hD : va_D A [(qH, .inl (cI, 2700, .inl (fun z9 => nI (hv z9)))), (qG, .inl (cI, 24, .inl sg)), (oM, .inr (5, [.int (nI 0), .ref qW, .ref qM, .ref qK, .ref qJ, .ref qG, .ref qH, .ref qP, .int (nI pl)])), (qW, .inl (cI, 22400, .inl (fun z9 => nI (u_47 z9)))), (qM, .inl (cI, 7, .inl (fun z9 => nI ((pn_up mn 0 (km a)) z9)))), (qK, .inl (cI, 36480, .inl (fun z9 => nI (kp z9)))), (qJ, .inl (cI, 24, .inl (fun z9 => nI (km z9))))] := hD
        refine lv_aload_n hx hb d_M_nearest_50 rfl (lv_at hl 1 rfl) ?_
        refine lv_iconst (v := nI 1) hx hb d_M_nearest_51 (by decide) ?_
        refine lv_iload_n hx hb d_M_nearest_52 rfl (lv_at hl 4 rfl) ?_
        refine pn_bv (wr := [(qH, .inl (cI, 2700, .inl (fun z9 => nI (hv z9)))), (qG, .inl (cI, 24, .inl sg))]) [2, 3, 4, 5, 6] [0, 1] hP hD hS hA (pn_rV [.int (nI 1), .int (nI b)] [] Fx hK hN hP hD [2, 3, 4, 5, 6] rfl rfl (c_M_load l D cI cZ cB cJ _ oM qW qM qK qJ qG qH qP 0 pl u_47 (pn_up mn 0 (km a)) kp km 1 b ((ρ b).natAbs) (by omega) hb9 (hρ b hb9).1) kw_703 cal_M_load inst_M_load sel_M_load ⟨by decide, by decide⟩ ⟨rfl, rfl⟩ 0 rfl rfl rfl rfl hl.1 (Nat.le_of_ble_eq_true rfl) d_M_nearest_53 ⟨Nat.zero_le _, Nat.zero_le _⟩) rfl rfl rfl (by decide) (fun u_53 H locs hw hP hD hS => ?_)
        obtain ⟨hn53, hK53⟩ := hw
        have hP : va_P D pn_cl [(qH, .inl (cI, 2700, .inl (fun z9 => nI (hv z9)))), (qG, .inl (cI, 24, .inl sg)), (oM, .inr (5, [.int (nI 0), .ref qW, .ref qM, .ref qK, .ref qJ, .ref qG, .ref qH, .ref qP, .int (nI pl)])), (qW, .inl (cI, 22400, .inl (fun z9 => nI (u_53 z9)))), (qM, .inl (cI, 7, .inl (fun z9 => nI ((pn_up (pn_up mn 0 (km a)) 1 (km b)) z9)))), (qK, .inl (cI, 36480, .inl (fun z9 => nI (kp z9)))), (qJ, .inl (cI, 24, .inl (fun z9 => nI (km z9))))] H := hP
        have hD : va_D A [(qH, .inl (cI, 2700, .inl (fun z9 => nI (hv z9)))), (qG, .inl (cI, 24, .inl sg)), (oM, .inr (5, [.int (nI 0), .ref qW, .ref qM, .ref qK, .ref qJ, .ref qG, .ref qH, .ref qP, .int (nI pl)])), (qW, .inl (cI, 22400, .inl (fun z9 => nI (u_53 z9)))), (qM, .inl (cI, 7, .inl (fun z9 => nI ((pn_up (pn_up mn 0 (km a)) 1 (km b)) z9)))), (qK, .inl (cI, 36480, .inl (fun z9 => nI (kp z9)))), (qJ, .inl (cI, 24, .inl (fun z9 => nI (km z9))))] := hD
        have hn0 := hK53 0 _ (by omega) hn47
        refine lv_aload_n hx hb d_M_nearest_56 rfl (lv_at hl 1 rfl) ?_
        refine lv_iconst (v := nI 2) hx hb d_M_nearest_57 (by decide) ?_
        refine lv_iconst (v := nI 0) hx hb d_M_nearest_58 (by decide) ?_
        refine lv_iconst (v := nI 1) hx hb d_M_nearest_59 (by decide) ?_
        refine pn_bv (wr := [(qH, .inl (cI, 2700, .inl (fun z9 => nI (hv z9)))), (qG, .inl (cI, 24, .inl sg)), (qK, .inl (cI, 36480, .inl (fun z9 => nI (kp z9)))), (qJ, .inl (cI, 24, .inl (fun z9 => nI (km z9))))]) [2, 3, 4] [0, 1, 5, 6] hP hD hS hA (pn_rV [.int (nI 2), .int (nI 0), .int (nI 1)] [] Fx hK hN hP hD [2, 3, 4] rfl rfl (c_M_divideBy l D cI cZ cB cJ _ oM qW qM qK qJ qG qH qP 0 pl u_53 (pn_up (pn_up mn 0 (km a)) 1 (km b)) 2 0 1 (ρ a).natAbs (ρ b).natAbs (by omega) (by omega) (by omega) (by omega) (by omega) (by omega) hn0 hn53 (by omega) (Nat.le_trans (pm_N_cnt hn0 (pm_rb2 hρ ha).2) (by decide))) kw_775 cal_M_divideBy inst_M_divideBy sel_M_divideBy ⟨by decide, by decide⟩ ⟨rfl, rfl⟩ 0 rfl rfl rfl rfl hl.1 (Nat.le_of_ble_eq_true rfl) d_M_nearest_60 ⟨Nat.zero_le _, Nat.zero_le _⟩) rfl rfl rfl (by decide) (fun u_60 H locs hw hP hD hS => ?_)
        obtain ⟨w6, m6⟩ := u_60
        obtain ⟨hd1, hd2, hd3⟩ := hw
        have hP : va_P D pn_cl [(qH, .inl (cI, 2700, .inl (fun z9 => nI (hv z9)))), (qG, .inl (cI, 24, .inl sg)), (qK, .inl (cI, 36480, .inl (fun z9 => nI (kp z9)))), (qJ, .inl (cI, 24, .inl (fun z9 => nI (km z9)))), (oM, .inr (5, [.int (nI 0), .ref qW, .ref qM, .ref qK, .ref qJ, .ref qG, .ref qH, .ref qP, .int (nI pl)])), (qW, .inl (cI, 22400, .inl (fun z9 => nI (w6 z9)))), (qM, .inl (cI, 7, .inl (fun z9 => nI (m6 z9))))] H := hP
        have hD : va_D A [(qH, .inl (cI, 2700, .inl (fun z9 => nI (hv z9)))), (qG, .inl (cI, 24, .inl sg)), (qK, .inl (cI, 36480, .inl (fun z9 => nI (kp z9)))), (qJ, .inl (cI, 24, .inl (fun z9 => nI (km z9)))), (oM, .inr (5, [.int (nI 0), .ref qW, .ref qM, .ref qK, .ref qJ, .ref qG, .ref qH, .ref qP, .int (nI pl)])), (qW, .inl (cI, 22400, .inl (fun z9 => nI (w6 z9)))), (qM, .inl (cI, 7, .inl (fun z9 => nI (m6 z9))))] := hD
        dsimp only at hd1 hd2 hd3
        have hm0 := hd2.1
        have hmz := pm_N_zero hd2
        refine lv_aload_n hx hb d_M_nearest_63 rfl (lv_at hl 1 rfl) ?_
        refine lv_iconst (v := nI 0) hx hb d_M_nearest_64 (by decide) ?_
        refine lv_iconst (v := nI 2) hx hb d_M_nearest_65 (by decide) ?_
        refine pn_bv (wr := [(qH, .inl (cI, 2700, .inl (fun z9 => nI (hv z9)))), (qG, .inl (cI, 24, .inl sg)), (qK, .inl (cI, 36480, .inl (fun z9 => nI (kp z9)))), (qJ, .inl (cI, 24, .inl (fun z9 => nI (km z9))))]) [4, 5, 6] [0, 1, 2, 3] hP hD hS hA (pn_rV [.int (nI 0), .int (nI 2)] [] Fx hK hN hP hD [4, 5, 6] rfl rfl (c_M_small l D cI cZ cB cJ _ oM qW qM qK qJ qG qH qP 0 pl w6 m6 0 2 ((ρ a).natAbs % (ρ b).natAbs) (by omega) (by omega) hd2 (Nat.lt_of_lt_of_le (Nat.lt_of_le_of_lt (Nat.mul_le_mul_left 2 (Nat.mod_le _ _)) (show 2 * (ρ a).natAbs < 10000 ^ 1507 by have := (pm_rb2 hρ ha).2; rw [pm_P_s]; omega)) (pm_mono (by decide)))) kw_707 cal_M_small inst_M_small sel_M_small ⟨by decide, by decide⟩ ⟨rfl, rfl⟩ 0 rfl rfl rfl rfl hl.1 (Nat.le_of_ble_eq_true rfl) d_M_nearest_66 ⟨Nat.zero_le _, Nat.zero_le _⟩) rfl rfl rfl (by decide) (fun u_66 H locs hw hP hD hS => ?_)
        obtain ⟨w7, j7⟩ := u_66
        obtain ⟨hs7, hS7⟩ := hw
        have hP : va_P D pn_cl [(qH, .inl (cI, 2700, .inl (fun z9 => nI (hv z9)))), (qG, .inl (cI, 24, .inl sg)), (qK, .inl (cI, 36480, .inl (fun z9 => nI (kp z9)))), (qJ, .inl (cI, 24, .inl (fun z9 => nI (km z9)))), (oM, .inr (5, [.int (nI 0), .ref qW, .ref qM, .ref qK, .ref qJ, .ref qG, .ref qH, .ref qP, .int (nI pl)])), (qW, .inl (cI, 22400, .inl (fun z9 => nI (w7 z9)))), (qM, .inl (cI, 7, .inl (fun z9 => nI ((pn_up m6 0 j7) z9))))] H := hP
        have hD : va_D A [(qH, .inl (cI, 2700, .inl (fun z9 => nI (hv z9)))), (qG, .inl (cI, 24, .inl sg)), (qK, .inl (cI, 36480, .inl (fun z9 => nI (kp z9)))), (qJ, .inl (cI, 24, .inl (fun z9 => nI (km z9)))), (oM, .inr (5, [.int (nI 0), .ref qW, .ref qM, .ref qK, .ref qJ, .ref qG, .ref qH, .ref qP, .int (nI pl)])), (qW, .inl (cI, 22400, .inl (fun z9 => nI (w7 z9)))), (qM, .inl (cI, 7, .inl (fun z9 => nI ((pn_up m6 0 j7) z9))))] := hD
        dsimp only at hs7 hS7
        have hq2 := hS7 2 _ (by omega) hd1
        have hq1 := hS7 1 _ (by omega) (hd3 1 _ (by omega) (by omega) hn53)
        obtain ⟨q21, q22, q23, q24⟩ := id hq2
        have hqz := pm_N_zero hq2
        have hqb : (ρ a).natAbs / (ρ b).natAbs < 10000 ^ 1506 := Nat.lt_of_le_of_lt (Nat.div_le_self _ _) (pm_rb2 hρ ha).2
        refine lv_aload_n hx hb d_M_nearest_69 rfl (lv_at hl 1 rfl) ?_
        refine lv_iconst (v := nI 0) hx hb d_M_nearest_70 (by decide) ?_
        refine lv_iconst (v := nI 1) hx hb d_M_nearest_71 (by decide) ?_
        refine pn_bi (wr := [(qH, .inl (cI, 2700, .inl (fun z9 => nI (hv z9)))), (qG, .inl (cI, 24, .inl sg)), (qK, .inl (cI, 36480, .inl (fun z9 => nI (kp z9)))), (qJ, .inl (cI, 24, .inl (fun z9 => nI (km z9))))]) [4, 5, 6] [0, 1, 2, 3] hP hD hS hA (pn_rV [.int (nI 0), .int (nI 1)] [] Fx hK hN hP hD [4, 5, 6] rfl rfl (c_M_order l D cI cZ cB cJ _ oM qW qM qK qJ qG qH qP 0 pl w7 (pn_up m6 0 j7) 0 1 (2 * ((ρ a).natAbs % (ρ b).natAbs)) (ρ b).natAbs (by omega) (by omega) hs7 hq1) kw_743 cal_M_order inst_M_order sel_M_order ⟨by decide, by decide⟩ ⟨rfl, rfl⟩ 0 rfl rfl rfl rfl hl.1 (Nat.le_of_ble_eq_true rfl) d_M_nearest_72 ⟨Nat.zero_le _, Nat.zero_le _⟩) rfl rfl rfl (by decide) (fun r_72 u_72 H locs hw hP hD hS => ?_)
        obtain ⟨⟩ := u_72
        obtain rfl := hw
        have hP : va_P D pn_cl [(qH, .inl (cI, 2700, .inl (fun z9 => nI (hv z9)))), (qG, .inl (cI, 24, .inl sg)), (qK, .inl (cI, 36480, .inl (fun z9 => nI (kp z9)))), (qJ, .inl (cI, 24, .inl (fun z9 => nI (km z9)))), (oM, .inr (5, [.int (nI 0), .ref qW, .ref qM, .ref qK, .ref qJ, .ref qG, .ref qH, .ref qP, .int (nI pl)])), (qW, .inl (cI, 22400, .inl (fun z9 => nI (w7 z9)))), (qM, .inl (cI, 7, .inl (fun z9 => nI ((pn_up m6 0 j7) z9))))] H := hP
        have hD : va_D A [(qH, .inl (cI, 2700, .inl (fun z9 => nI (hv z9)))), (qG, .inl (cI, 24, .inl sg)), (qK, .inl (cI, 36480, .inl (fun z9 => nI (kp z9)))), (qJ, .inl (cI, 24, .inl (fun z9 => nI (km z9)))), (oM, .inr (5, [.int (nI 0), .ref qW, .ref qM, .ref qK, .ref qJ, .ref qG, .ref qH, .ref qP, .int (nI pl)])), (qW, .inl (cI, 22400, .inl (fun z9 => nI (w7 z9)))), (qM, .inl (cI, 7, .inl (fun z9 => nI ((pn_up m6 0 j7) z9))))] := hD
        refine lv_istore (lv' := [(5, .int (pn_cmp ((2 * ((ρ a).natAbs % (ρ b).natAbs) : Nat) : Int) (((ρ b).natAbs : Nat) : Int))), (4, .int (sg a)), (0, .ref oM), (1, .int (nI k)), (2, .int (nI a)), (3, .int (nI b))]) hx hb d_M_nearest_75 hl (by decide) rfl (fun ls hl => ?_)
        refine lv_aload_n hx hb d_M_nearest_77 rfl (lv_at hl 2 rfl) ?_
        refine pw_get Fx hK hP fld_M 4 rfl 2 (by decide) kw_632 (v := .ref qM) rfl d_M_nearest_78 ?_
        refine lv_iconst (v := nI 2) hx hb d_M_nearest_81 (by decide) ?_
        refine pw_iald Fx hK hP 6 0 (f := fun z9 => nI ((pn_up m6 0 j7) z9)) rfl rfl (k := 2) (by omega) (by decide) d_M_nearest_82 ?_
        refine pn_topi (nI ((pn_up m6 0 j7) 2)) rfl ?_
        refine pw_if_le (a := (pn_up m6 0 j7) 2) (tgt := 104) hx hb d_M_nearest_83 (by decide) (by omega) (fun h_83 => ?_) (fun h_83 => ?_)
        · skip
          have hpar : (ρ a).natAbs / (ρ b).natAbs % 2 = 0 := by rw [hqz.mp (by omega)]
          have hodd : (false = true ↔ (ρ a).natAbs / (ρ b).natAbs % 2 = 1) := ⟨fun g => absurd g (by decide), fun g => by omega⟩
          refine lv_iconst (v := pn_b false) hx hb d_M_nearest_104 (by decide) ?_
          refine lv_istore (lv' := [(6, .int (pn_b false)), (5, .int (pn_cmp ((2 * ((ρ a).natAbs % (ρ b).natAbs) : Nat) : Int) (((ρ b).natAbs : Nat) : Int))), (4, .int (sg a)), (0, .ref oM), (1, .int (nI k)), (2, .int (nI a)), (3, .int (nI b))]) hx hb d_M_nearest_105 hl (by decide) rfl (fun ls hl => ?_)
          have hcp := pn_cmp_pos (x := ((2 * ((ρ a).natAbs % (ρ b).natAbs) : Nat) : Int)) (y := (((ρ b).natAbs : Nat) : Int))
          have hc0 := pn_cmp_0 (x := ((2 * ((ρ a).natAbs % (ρ b).natAbs) : Nat) : Int)) (y := (((ρ b).natAbs : Nat) : Int))
          refine lv_iload hx hb d_M_nearest_107 (lv_at hl 1 rfl) ?_
          refine lv_if_gt (tgt := 122) hx hb d_M_nearest_109 (by decide) (fun h_109 => ?_) (fun h_109 => ?_)
          · skip
            have hup : ((ρ b).natAbs < 2 * ((ρ a).natAbs % (ρ b).natAbs) ∨ (2 * ((ρ a).natAbs % (ρ b).natAbs) = (ρ b).natAbs ∧ (ρ a).natAbs / (ρ b).natAbs % 2 = 1)) := Or.inl (by have := hcp.mp h_109; omega)
            refine lv_aload_n hx hb d_M_nearest_122 rfl (lv_at hl 3 rfl) ?_
            refine lv_iconst (v := nI 4) hx hb d_M_nearest_123 (by decide) ?_
            refine lv_lconst (v := pn_L 1) hx hb d_M_nearest_124 (by decide) ?_
            refine pn_bv (wr := [(qH, .inl (cI, 2700, .inl (fun z9 => nI (hv z9)))), (qG, .inl (cI, 24, .inl sg)), (qK, .inl (cI, 36480, .inl (fun z9 => nI (kp z9)))), (qJ, .inl (cI, 24, .inl (fun z9 => nI (km z9))))]) [4, 5, 6] [0, 1, 2, 3] hP hD hS hA (pn_rV [.int (nI 4), .long (pn_L 1)] [] Fx hK hN hP hD [4, 5, 6] rfl rfl (c_M_setLong l D cI cZ cB cJ _ oM qW qM qK qJ qG qH qP 0 pl w7 (pn_up m6 0 j7) 4 1 (by omega) (by decide) (by decide)) kw_673 cal_M_setLong inst_M_setLong sel_M_setLong ⟨by decide, by decide⟩ ⟨rfl, rfl⟩ 0 rfl rfl rfl rfl hl.1 (Nat.le_of_ble_eq_true rfl) d_M_nearest_125 ⟨Nat.zero_le _, Nat.zero_le _⟩) rfl rfl rfl (by decide) (fun u_125 H locs hw hP hD hS => ?_)
            obtain ⟨w8, j8⟩ := u_125
            obtain ⟨he1, he2⟩ := hw
            have hP : va_P D pn_cl [(qH, .inl (cI, 2700, .inl (fun z9 => nI (hv z9)))), (qG, .inl (cI, 24, .inl sg)), (qK, .inl (cI, 36480, .inl (fun z9 => nI (kp z9)))), (qJ, .inl (cI, 24, .inl (fun z9 => nI (km z9)))), (oM, .inr (5, [.int (nI 0), .ref qW, .ref qM, .ref qK, .ref qJ, .ref qG, .ref qH, .ref qP, .int (nI pl)])), (qW, .inl (cI, 22400, .inl (fun z9 => nI (w8 z9)))), (qM, .inl (cI, 7, .inl (fun z9 => nI ((pn_up (pn_up m6 0 j7) 4 j8) z9))))] H := hP
            have hD : va_D A [(qH, .inl (cI, 2700, .inl (fun z9 => nI (hv z9)))), (qG, .inl (cI, 24, .inl sg)), (qK, .inl (cI, 36480, .inl (fun z9 => nI (kp z9)))), (qJ, .inl (cI, 24, .inl (fun z9 => nI (km z9)))), (oM, .inr (5, [.int (nI 0), .ref qW, .ref qM, .ref qK, .ref qJ, .ref qG, .ref qH, .ref qP, .int (nI pl)])), (qW, .inl (cI, 22400, .inl (fun z9 => nI (w8 z9)))), (qM, .inl (cI, 7, .inl (fun z9 => nI ((pn_up (pn_up m6 0 j7) 4 j8) z9))))] := hD
            dsimp only at he1 he2
            have he3 : pm_N w8 (pn_up (pn_up m6 0 j7) 4 j8) 4 1 := he1
            have hq3 := he2 2 _ (by omega) hq2
            refine lv_aload_n hx hb d_M_nearest_128 rfl (lv_at hl 3 rfl) ?_
            refine lv_iconst (v := nI 2) hx hb d_M_nearest_129 (by decide) ?_
            refine lv_iconst (v := nI 4) hx hb d_M_nearest_130 (by decide) ?_
            refine pn_bv (wr := [(qH, .inl (cI, 2700, .inl (fun z9 => nI (hv z9)))), (qG, .inl (cI, 24, .inl sg)), (qK, .inl (cI, 36480, .inl (fun z9 => nI (kp z9)))), (qJ, .inl (cI, 24, .inl (fun z9 => nI (km z9))))]) [4, 5, 6] [0, 1, 2, 3] hP hD hS hA (pn_rV [.int (nI 2), .int (nI 4)] [] Fx hK hN hP hD [4, 5, 6] rfl rfl (c_M_addTo l D cI cZ cB cJ _ oM qW qM qK qJ qG qH qP 0 pl w8 (pn_up (pn_up m6 0 j7) 4 j8) 2 4 ((ρ a).natAbs / (ρ b).natAbs) 1 (by omega) (by omega) (by omega) hq3 he3 (Nat.le_trans (pm_N_cnt hq3 hqb) (by decide)) (Nat.le_trans (pm_N_cnt (m := 1) he3 (by decide)) (by decide))) kw_712 cal_M_addTo inst_M_addTo sel_M_addTo ⟨by decide, by decide⟩ ⟨rfl, rfl⟩ 0 rfl rfl rfl rfl hl.1 (Nat.le_of_ble_eq_true rfl) d_M_nearest_131 ⟨Nat.zero_le _, Nat.zero_le _⟩) rfl rfl rfl (by decide) (fun u_131 H locs hw hP hD hS => ?_)
            obtain ⟨w9, j9⟩ := u_131
            obtain ⟨hf1, hf2⟩ := hw
            have hP : va_P D pn_cl [(qH, .inl (cI, 2700, .inl (fun z9 => nI (hv z9)))), (qG, .inl (cI, 24, .inl sg)), (qK, .inl (cI, 36480, .inl (fun z9 => nI (kp z9)))), (qJ, .inl (cI, 24, .inl (fun z9 => nI (km z9)))), (oM, .inr (5, [.int (nI 0), .ref qW, .ref qM, .ref qK, .ref qJ, .ref qG, .ref qH, .ref qP, .int (nI pl)])), (qW, .inl (cI, 22400, .inl (fun z9 => nI (w9 z9)))), (qM, .inl (cI, 7, .inl (fun z9 => nI ((pn_up (pn_up (pn_up m6 0 j7) 4 j8) 2 j9) z9))))] H := hP
            have hD : va_D A [(qH, .inl (cI, 2700, .inl (fun z9 => nI (hv z9)))), (qG, .inl (cI, 24, .inl sg)), (qK, .inl (cI, 36480, .inl (fun z9 => nI (kp z9)))), (qJ, .inl (cI, 24, .inl (fun z9 => nI (km z9)))), (oM, .inr (5, [.int (nI 0), .ref qW, .ref qM, .ref qK, .ref qJ, .ref qG, .ref qH, .ref qP, .int (nI pl)])), (qW, .inl (cI, 22400, .inl (fun z9 => nI (w9 z9)))), (qM, .inl (cI, 7, .inl (fun z9 => nI ((pn_up (pn_up (pn_up m6 0 j7) 4 j8) 2 j9) z9))))] := hD
            dsimp only at hf1
            have hfin : pm_N w9 (pn_up (pn_up (pn_up m6 0 j7) 4 j8) 2 j9) 2 (pn_near (ρ a) (ρ b)).natAbs := by rw [(pm_near hpos).1, if_pos hup]; exact hf1
            refine lv_aload_n hx hb d_M_nearest_134 rfl (lv_at hl 3 rfl) ?_
            refine lv_iload_n hx hb d_M_nearest_135 rfl (lv_at hl 4 rfl) ?_
            refine lv_iconst (v := nI 2) hx hb d_M_nearest_136 (by decide) ?_
            refine lv_iload hx hb d_M_nearest_137 (lv_at hl 2 rfl) ?_
            refine lv_iconst (v := nI 3) hx hb d_M_nearest_139 (by decide) ?_
            refine pn_bi (wr := []) [4, 5, 6, 0, 2, 3, 1] [] hP hD hS hA (pn_rV [.int (nI k), .int (nI 2), .int (sg a), .int (nI 3)] [] Fx hK hN hP hD [4, 5, 6, 0, 2, 3, 1] rfl rfl (c_M_put l D cI cZ cB cJ _ oM qW qM qK qJ qG qH qP 0 pl w9 (pn_up (pn_up (pn_up m6 0 j7) 4 j8) 2 j9) hv kp km sg (ρ) k 2 3 (sg a) (pn_near (ρ a) (ρ b)) (by omega) (by omega) hk (by omega) (by omega) hfin (pm_up43 (Nat.lt_of_le_of_lt (pm_near_abs hpos) (pm_rb2 hρ ha).1) (by decide)) (by rw [(hρ a ha).2.1]; exact (pm_near hpos).2) hρ) kw_678 cal_M_put inst_M_put sel_M_put ⟨by decide, by decide⟩ ⟨rfl, rfl⟩ 0 rfl rfl rfl rfl hl.1 (Nat.le_of_ble_eq_true rfl) d_M_nearest_140 ⟨Nat.zero_le _, Nat.zero_le _⟩) rfl rfl rfl (by decide) (fun r_140 u_140 H locs hw hP hD hS => ?_)
            obtain ⟨c8, w8, m8, h8, kp8, km8, sg8⟩ := u_140
            obtain ⟨hK140, hp140⟩ := hw
            have hP : va_P D pn_cl [(oM, .inr (5, [.int (nI c8), .ref qW, .ref qM, .ref qK, .ref qJ, .ref qG, .ref qH, .ref qP, .int (nI pl)])), (qW, .inl (cI, 22400, .inl (fun z9 => nI (w8 z9)))), (qM, .inl (cI, 7, .inl (fun z9 => nI (m8 z9)))), (qH, .inl (cI, 2700, .inl (fun z9 => nI (h8 z9)))), (qK, .inl (cI, 36480, .inl (fun z9 => nI (kp8 z9)))), (qJ, .inl (cI, 24, .inl (fun z9 => nI (km8 z9)))), (qG, .inl (cI, 24, .inl sg8))] H := hP
            have hD : va_D A [(oM, .inr (5, [.int (nI c8), .ref qW, .ref qM, .ref qK, .ref qJ, .ref qG, .ref qH, .ref qP, .int (nI pl)])), (qW, .inl (cI, 22400, .inl (fun z9 => nI (w8 z9)))), (qM, .inl (cI, 7, .inl (fun z9 => nI (m8 z9)))), (qH, .inl (cI, 2700, .inl (fun z9 => nI (h8 z9)))), (qK, .inl (cI, 36480, .inl (fun z9 => nI (kp8 z9)))), (qJ, .inl (cI, 24, .inl (fun z9 => nI (km8 z9)))), (qG, .inl (cI, 24, .inl sg8))] := hD
            dsimp only at hK140 hp140
            exact pn_reti ((c8, w8, m8, h8, kp8, km8, sg8)) Fx hr hlocks hQ hAe hP hD hS (by (try dsimp only); first | done | exact (Or.inr ⟨k, a, b, hk, ha, hb9, rfl, rfl, rfl, Or.inr ⟨hpos, (hp140.resolve_right (fun g => absurd g.1 (Nat.not_lt.mpr (Nat.le_trans (pn_lenI_le (pm_near_abs hpos)) (hρ a ha).2.2)))).2⟩⟩)) d_M_nearest_143
          · skip
            have hng := mt hcp.mpr h_109
            refine lv_iload hx hb d_M_nearest_112 (lv_at hl 1 rfl) ?_
            refine lv_if_ne (tgt := 134) hx hb d_M_nearest_114 (by decide) (fun h_114 => ?_) (fun h_114 => ?_)
            · skip
              have hne := mt hc0.mpr h_114
              have hfin : pm_N w7 (pn_up m6 0 j7) 2 (pn_near (ρ a) (ρ b)).natAbs := by rw [(pm_near hpos).1, if_neg (by omega)]; exact hq2
              refine lv_aload_n hx hb d_M_nearest_134 rfl (lv_at hl 3 rfl) ?_
              refine lv_iload_n hx hb d_M_nearest_135 rfl (lv_at hl 4 rfl) ?_
              refine lv_iconst (v := nI 2) hx hb d_M_nearest_136 (by decide) ?_
              refine lv_iload hx hb d_M_nearest_137 (lv_at hl 2 rfl) ?_
              refine lv_iconst (v := nI 3) hx hb d_M_nearest_139 (by decide) ?_
              refine pn_bi (wr := []) [4, 5, 6, 0, 2, 3, 1] [] hP hD hS hA (pn_rV [.int (nI k), .int (nI 2), .int (sg a), .int (nI 3)] [] Fx hK hN hP hD [4, 5, 6, 0, 2, 3, 1] rfl rfl (c_M_put l D cI cZ cB cJ _ oM qW qM qK qJ qG qH qP 0 pl w7 (pn_up m6 0 j7) hv kp km sg (ρ) k 2 3 (sg a) (pn_near (ρ a) (ρ b)) (by omega) (by omega) hk (by omega) (by omega) hfin (pm_up43 (Nat.lt_of_le_of_lt (pm_near_abs hpos) (pm_rb2 hρ ha).1) (by decide)) (by rw [(hρ a ha).2.1]; exact (pm_near hpos).2) hρ) kw_678 cal_M_put inst_M_put sel_M_put ⟨by decide, by decide⟩ ⟨rfl, rfl⟩ 0 rfl rfl rfl rfl hl.1 (Nat.le_of_ble_eq_true rfl) d_M_nearest_140 ⟨Nat.zero_le _, Nat.zero_le _⟩) rfl rfl rfl (by decide) (fun r_140 u_140 H locs hw hP hD hS => ?_)
              obtain ⟨c8, w8, m8, h8, kp8, km8, sg8⟩ := u_140
              obtain ⟨hK140, hp140⟩ := hw
              have hP : va_P D pn_cl [(oM, .inr (5, [.int (nI c8), .ref qW, .ref qM, .ref qK, .ref qJ, .ref qG, .ref qH, .ref qP, .int (nI pl)])), (qW, .inl (cI, 22400, .inl (fun z9 => nI (w8 z9)))), (qM, .inl (cI, 7, .inl (fun z9 => nI (m8 z9)))), (qH, .inl (cI, 2700, .inl (fun z9 => nI (h8 z9)))), (qK, .inl (cI, 36480, .inl (fun z9 => nI (kp8 z9)))), (qJ, .inl (cI, 24, .inl (fun z9 => nI (km8 z9)))), (qG, .inl (cI, 24, .inl sg8))] H := hP
              have hD : va_D A [(oM, .inr (5, [.int (nI c8), .ref qW, .ref qM, .ref qK, .ref qJ, .ref qG, .ref qH, .ref qP, .int (nI pl)])), (qW, .inl (cI, 22400, .inl (fun z9 => nI (w8 z9)))), (qM, .inl (cI, 7, .inl (fun z9 => nI (m8 z9)))), (qH, .inl (cI, 2700, .inl (fun z9 => nI (h8 z9)))), (qK, .inl (cI, 36480, .inl (fun z9 => nI (kp8 z9)))), (qJ, .inl (cI, 24, .inl (fun z9 => nI (km8 z9)))), (qG, .inl (cI, 24, .inl sg8))] := hD
              dsimp only at hK140 hp140
              exact pn_reti ((c8, w8, m8, h8, kp8, km8, sg8)) Fx hr hlocks hQ hAe hP hD hS (by (try dsimp only); first | done | exact (Or.inr ⟨k, a, b, hk, ha, hb9, rfl, rfl, rfl, Or.inr ⟨hpos, (hp140.resolve_right (fun g => absurd g.1 (Nat.not_lt.mpr (Nat.le_trans (pn_lenI_le (pm_near_abs hpos)) (hρ a ha).2.2)))).2⟩⟩)) d_M_nearest_143
            · skip
              have heq := hc0.mp h_114
              refine lv_iload hx hb d_M_nearest_117 (lv_at hl 0 rfl) ?_
              refine pw_ifb_eq (tgt := 134) hx hb d_M_nearest_119 (by decide) (fun h_119 => ?_) (fun h_119 => ?_)
              · skip
                have hn1 : ¬ (ρ a).natAbs / (ρ b).natAbs % 2 = 1 := fun g => absurd (hodd.mpr g) (by rw [h_119]; decide)
                have hfin : pm_N w7 (pn_up m6 0 j7) 2 (pn_near (ρ a) (ρ b)).natAbs := by rw [(pm_near hpos).1, if_neg (by omega)]; exact hq2
                refine lv_aload_n hx hb d_M_nearest_134 rfl (lv_at hl 3 rfl) ?_
                refine lv_iload_n hx hb d_M_nearest_135 rfl (lv_at hl 4 rfl) ?_
                refine lv_iconst (v := nI 2) hx hb d_M_nearest_136 (by decide) ?_
                refine lv_iload hx hb d_M_nearest_137 (lv_at hl 2 rfl) ?_
                refine lv_iconst (v := nI 3) hx hb d_M_nearest_139 (by decide) ?_
                refine pn_bi (wr := []) [4, 5, 6, 0, 2, 3, 1] [] hP hD hS hA (pn_rV [.int (nI k), .int (nI 2), .int (sg a), .int (nI 3)] [] Fx hK hN hP hD [4, 5, 6, 0, 2, 3, 1] rfl rfl (c_M_put l D cI cZ cB cJ _ oM qW qM qK qJ qG qH qP 0 pl w7 (pn_up m6 0 j7) hv kp km sg (ρ) k 2 3 (sg a) (pn_near (ρ a) (ρ b)) (by omega) (by omega) hk (by omega) (by omega) hfin (pm_up43 (Nat.lt_of_le_of_lt (pm_near_abs hpos) (pm_rb2 hρ ha).1) (by decide)) (by rw [(hρ a ha).2.1]; exact (pm_near hpos).2) hρ) kw_678 cal_M_put inst_M_put sel_M_put ⟨by decide, by decide⟩ ⟨rfl, rfl⟩ 0 rfl rfl rfl rfl hl.1 (Nat.le_of_ble_eq_true rfl) d_M_nearest_140 ⟨Nat.zero_le _, Nat.zero_le _⟩) rfl rfl rfl (by decide) (fun r_140 u_140 H locs hw hP hD hS => ?_)
                obtain ⟨c8, w8, m8, h8, kp8, km8, sg8⟩ := u_140
                obtain ⟨hK140, hp140⟩ := hw
                have hP : va_P D pn_cl [(oM, .inr (5, [.int (nI c8), .ref qW, .ref qM, .ref qK, .ref qJ, .ref qG, .ref qH, .ref qP, .int (nI pl)])), (qW, .inl (cI, 22400, .inl (fun z9 => nI (w8 z9)))), (qM, .inl (cI, 7, .inl (fun z9 => nI (m8 z9)))), (qH, .inl (cI, 2700, .inl (fun z9 => nI (h8 z9)))), (qK, .inl (cI, 36480, .inl (fun z9 => nI (kp8 z9)))), (qJ, .inl (cI, 24, .inl (fun z9 => nI (km8 z9)))), (qG, .inl (cI, 24, .inl sg8))] H := hP
                have hD : va_D A [(oM, .inr (5, [.int (nI c8), .ref qW, .ref qM, .ref qK, .ref qJ, .ref qG, .ref qH, .ref qP, .int (nI pl)])), (qW, .inl (cI, 22400, .inl (fun z9 => nI (w8 z9)))), (qM, .inl (cI, 7, .inl (fun z9 => nI (m8 z9)))), (qH, .inl (cI, 2700, .inl (fun z9 => nI (h8 z9)))), (qK, .inl (cI, 36480, .inl (fun z9 => nI (kp8 z9)))), (qJ, .inl (cI, 24, .inl (fun z9 => nI (km8 z9)))), (qG, .inl (cI, 24, .inl sg8))] := hD
                dsimp only at hK140 hp140
                exact pn_reti ((c8, w8, m8, h8, kp8, km8, sg8)) Fx hr hlocks hQ hAe hP hD hS (by (try dsimp only); first | done | exact (Or.inr ⟨k, a, b, hk, ha, hb9, rfl, rfl, rfl, Or.inr ⟨hpos, (hp140.resolve_right (fun g => absurd g.1 (Nat.not_lt.mpr (Nat.le_trans (pn_lenI_le (pm_near_abs hpos)) (hρ a ha).2.2)))).2⟩⟩)) d_M_nearest_143
              · skip
                exact absurd h_119 (by decide)
        · skip
          have hf0 := q22 0 h_83
          have hpar : (ρ a).natAbs / (ρ b).natAbs % 2 = w7 6400 % 2 := by rw [← q24, pm_odd h_83]; rfl
          have hf0 : w7 6400 < 10000 := hf0
          refine lv_aload_n hx hb d_M_nearest_86 rfl (lv_at hl 2 rfl) ?_
          refine pw_get Fx hK hP fld_M 4 rfl 1 (by decide) kw_631 (v := .ref qW) rfl d_M_nearest_87 ?_
          refine lv_sipush (v := nI 6400) hx hb d_M_nearest_90 (by decide) ?_
          refine pw_iald Fx hK hP 5 0 (f := fun z9 => nI (w7 z9)) rfl rfl (k := 6400) (by omega) (by decide) d_M_nearest_93 ?_
          refine pn_topi (nI (w7 6400)) rfl ?_
          refine lv_iconst (v := nI 2) hx hb d_M_nearest_94 (by decide) ?_
          refine pw_irem hx hb d_M_nearest_95 (by omega) (by omega) (by omega) ?_
          refine lv_iconst (v := nI 1) hx hb d_M_nearest_96 (by decide) ?_
          refine pw_icmp_ne (a := (w7 6400) % 2) (b := 1) (tgt := 104) hx hb d_M_nearest_97 (by decide) (by omega) (by omega) (fun h_97 => ?_) (fun h_97 => ?_)
          · skip
            have hodd : (false = true ↔ (ρ a).natAbs / (ρ b).natAbs % 2 = 1) := ⟨fun g => absurd g (by decide), fun g => by omega⟩
            refine lv_iconst (v := pn_b false) hx hb d_M_nearest_104 (by decide) ?_
            refine lv_istore (lv' := [(6, .int (pn_b false)), (5, .int (pn_cmp ((2 * ((ρ a).natAbs % (ρ b).natAbs) : Nat) : Int) (((ρ b).natAbs : Nat) : Int))), (4, .int (sg a)), (0, .ref oM), (1, .int (nI k)), (2, .int (nI a)), (3, .int (nI b))]) hx hb d_M_nearest_105 hl (by decide) rfl (fun ls hl => ?_)
            have hcp := pn_cmp_pos (x := ((2 * ((ρ a).natAbs % (ρ b).natAbs) : Nat) : Int)) (y := (((ρ b).natAbs : Nat) : Int))
            have hc0 := pn_cmp_0 (x := ((2 * ((ρ a).natAbs % (ρ b).natAbs) : Nat) : Int)) (y := (((ρ b).natAbs : Nat) : Int))
            refine lv_iload hx hb d_M_nearest_107 (lv_at hl 1 rfl) ?_
            refine lv_if_gt (tgt := 122) hx hb d_M_nearest_109 (by decide) (fun h_109 => ?_) (fun h_109 => ?_)
            · skip
              have hup : ((ρ b).natAbs < 2 * ((ρ a).natAbs % (ρ b).natAbs) ∨ (2 * ((ρ a).natAbs % (ρ b).natAbs) = (ρ b).natAbs ∧ (ρ a).natAbs / (ρ b).natAbs % 2 = 1)) := Or.inl (by have := hcp.mp h_109; omega)
              refine lv_aload_n hx hb d_M_nearest_122 rfl (lv_at hl 3 rfl) ?_
              refine lv_iconst (v := nI 4) hx hb d_M_nearest_123 (by decide) ?_
              refine lv_lconst (v := pn_L 1) hx hb d_M_nearest_124 (by decide) ?_
              refine pn_bv (wr := [(qH, .inl (cI, 2700, .inl (fun z9 => nI (hv z9)))), (qG, .inl (cI, 24, .inl sg)), (qK, .inl (cI, 36480, .inl (fun z9 => nI (kp z9)))), (qJ, .inl (cI, 24, .inl (fun z9 => nI (km z9))))]) [4, 5, 6] [0, 1, 2, 3] hP hD hS hA (pn_rV [.int (nI 4), .long (pn_L 1)] [] Fx hK hN hP hD [4, 5, 6] rfl rfl (c_M_setLong l D cI cZ cB cJ _ oM qW qM qK qJ qG qH qP 0 pl w7 (pn_up m6 0 j7) 4 1 (by omega) (by decide) (by decide)) kw_673 cal_M_setLong inst_M_setLong sel_M_setLong ⟨by decide, by decide⟩ ⟨rfl, rfl⟩ 0 rfl rfl rfl rfl hl.1 (Nat.le_of_ble_eq_true rfl) d_M_nearest_125 ⟨Nat.zero_le _, Nat.zero_le _⟩) rfl rfl rfl (by decide) (fun u_125 H locs hw hP hD hS => ?_)
              obtain ⟨w8, j8⟩ := u_125
              obtain ⟨he1, he2⟩ := hw
              have hP : va_P D pn_cl [(qH, .inl (cI, 2700, .inl (fun z9 => nI (hv z9)))), (qG, .inl (cI, 24, .inl sg)), (qK, .inl (cI, 36480, .inl (fun z9 => nI (kp z9)))), (qJ, .inl (cI, 24, .inl (fun z9 => nI (km z9)))), (oM, .inr (5, [.int (nI 0), .ref qW, .ref qM, .ref qK, .ref qJ, .ref qG, .ref qH, .ref qP, .int (nI pl)])), (qW, .inl (cI, 22400, .inl (fun z9 => nI (w8 z9)))), (qM, .inl (cI, 7, .inl (fun z9 => nI ((pn_up (pn_up m6 0 j7) 4 j8) z9))))] H := hP
              have hD : va_D A [(qH, .inl (cI, 2700, .inl (fun z9 => nI (hv z9)))), (qG, .inl (cI, 24, .inl sg)), (qK, .inl (cI, 36480, .inl (fun z9 => nI (kp z9)))), (qJ, .inl (cI, 24, .inl (fun z9 => nI (km z9)))), (oM, .inr (5, [.int (nI 0), .ref qW, .ref qM, .ref qK, .ref qJ, .ref qG, .ref qH, .ref qP, .int (nI pl)])), (qW, .inl (cI, 22400, .inl (fun z9 => nI (w8 z9)))), (qM, .inl (cI, 7, .inl (fun z9 => nI ((pn_up (pn_up m6 0 j7) 4 j8) z9))))] := hD
              dsimp only at he1 he2
              have he3 : pm_N w8 (pn_up (pn_up m6 0 j7) 4 j8) 4 1 := he1
              have hq3 := he2 2 _ (by omega) hq2
              refine lv_aload_n hx hb d_M_nearest_128 rfl (lv_at hl 3 rfl) ?_
              refine lv_iconst (v := nI 2) hx hb d_M_nearest_129 (by decide) ?_
              refine lv_iconst (v := nI 4) hx hb d_M_nearest_130 (by decide) ?_
              refine pn_bv (wr := [(qH, .inl (cI, 2700, .inl (fun z9 => nI (hv z9)))), (qG, .inl (cI, 24, .inl sg)), (qK, .inl (cI, 36480, .inl (fun z9 => nI (kp z9)))), (qJ, .inl (cI, 24, .inl (fun z9 => nI (km z9))))]) [4, 5, 6] [0, 1, 2, 3] hP hD hS hA (pn_rV [.int (nI 2), .int (nI 4)] [] Fx hK hN hP hD [4, 5, 6] rfl rfl (c_M_addTo l D cI cZ cB cJ _ oM qW qM qK qJ qG qH qP 0 pl w8 (pn_up (pn_up m6 0 j7) 4 j8) 2 4 ((ρ a).natAbs / (ρ b).natAbs) 1 (by omega) (by omega) (by omega) hq3 he3 (Nat.le_trans (pm_N_cnt hq3 hqb) (by decide)) (Nat.le_trans (pm_N_cnt (m := 1) he3 (by decide)) (by decide))) kw_712 cal_M_addTo inst_M_addTo sel_M_addTo ⟨by decide, by decide⟩ ⟨rfl, rfl⟩ 0 rfl rfl rfl rfl hl.1 (Nat.le_of_ble_eq_true rfl) d_M_nearest_131 ⟨Nat.zero_le _, Nat.zero_le _⟩) rfl rfl rfl (by decide) (fun u_131 H locs hw hP hD hS => ?_)
              obtain ⟨w9, j9⟩ := u_131
              obtain ⟨hf1, hf2⟩ := hw
              have hP : va_P D pn_cl [(qH, .inl (cI, 2700, .inl (fun z9 => nI (hv z9)))), (qG, .inl (cI, 24, .inl sg)), (qK, .inl (cI, 36480, .inl (fun z9 => nI (kp z9)))), (qJ, .inl (cI, 24, .inl (fun z9 => nI (km z9)))), (oM, .inr (5, [.int (nI 0), .ref qW, .ref qM, .ref qK, .ref qJ, .ref qG, .ref qH, .ref qP, .int (nI pl)])), (qW, .inl (cI, 22400, .inl (fun z9 => nI (w9 z9)))), (qM, .inl (cI, 7, .inl (fun z9 => nI ((pn_up (pn_up (pn_up m6 0 j7) 4 j8) 2 j9) z9))))] H := hP
              have hD : va_D A [(qH, .inl (cI, 2700, .inl (fun z9 => nI (hv z9)))), (qG, .inl (cI, 24, .inl sg)), (qK, .inl (cI, 36480, .inl (fun z9 => nI (kp z9)))), (qJ, .inl (cI, 24, .inl (fun z9 => nI (km z9)))), (oM, .inr (5, [.int (nI 0), .ref qW, .ref qM, .ref qK, .ref qJ, .ref qG, .ref qH, .ref qP, .int (nI pl)])), (qW, .inl (cI, 22400, .inl (fun z9 => nI (w9 z9)))), (qM, .inl (cI, 7, .inl (fun z9 => nI ((pn_up (pn_up (pn_up m6 0 j7) 4 j8) 2 j9) z9))))] := hD
              dsimp only at hf1
              have hfin : pm_N w9 (pn_up (pn_up (pn_up m6 0 j7) 4 j8) 2 j9) 2 (pn_near (ρ a) (ρ b)).natAbs := by rw [(pm_near hpos).1, if_pos hup]; exact hf1
              refine lv_aload_n hx hb d_M_nearest_134 rfl (lv_at hl 3 rfl) ?_
              refine lv_iload_n hx hb d_M_nearest_135 rfl (lv_at hl 4 rfl) ?_
              refine lv_iconst (v := nI 2) hx hb d_M_nearest_136 (by decide) ?_
              refine lv_iload hx hb d_M_nearest_137 (lv_at hl 2 rfl) ?_
              refine lv_iconst (v := nI 3) hx hb d_M_nearest_139 (by decide) ?_
              refine pn_bi (wr := []) [4, 5, 6, 0, 2, 3, 1] [] hP hD hS hA (pn_rV [.int (nI k), .int (nI 2), .int (sg a), .int (nI 3)] [] Fx hK hN hP hD [4, 5, 6, 0, 2, 3, 1] rfl rfl (c_M_put l D cI cZ cB cJ _ oM qW qM qK qJ qG qH qP 0 pl w9 (pn_up (pn_up (pn_up m6 0 j7) 4 j8) 2 j9) hv kp km sg (ρ) k 2 3 (sg a) (pn_near (ρ a) (ρ b)) (by omega) (by omega) hk (by omega) (by omega) hfin (pm_up43 (Nat.lt_of_le_of_lt (pm_near_abs hpos) (pm_rb2 hρ ha).1) (by decide)) (by rw [(hρ a ha).2.1]; exact (pm_near hpos).2) hρ) kw_678 cal_M_put inst_M_put sel_M_put ⟨by decide, by decide⟩ ⟨rfl, rfl⟩ 0 rfl rfl rfl rfl hl.1 (Nat.le_of_ble_eq_true rfl) d_M_nearest_140 ⟨Nat.zero_le _, Nat.zero_le _⟩) rfl rfl rfl (by decide) (fun r_140 u_140 H locs hw hP hD hS => ?_)
              obtain ⟨c8, w8, m8, h8, kp8, km8, sg8⟩ := u_140
              obtain ⟨hK140, hp140⟩ := hw
              have hP : va_P D pn_cl [(oM, .inr (5, [.int (nI c8), .ref qW, .ref qM, .ref qK, .ref qJ, .ref qG, .ref qH, .ref qP, .int (nI pl)])), (qW, .inl (cI, 22400, .inl (fun z9 => nI (w8 z9)))), (qM, .inl (cI, 7, .inl (fun z9 => nI (m8 z9)))), (qH, .inl (cI, 2700, .inl (fun z9 => nI (h8 z9)))), (qK, .inl (cI, 36480, .inl (fun z9 => nI (kp8 z9)))), (qJ, .inl (cI, 24, .inl (fun z9 => nI (km8 z9)))), (qG, .inl (cI, 24, .inl sg8))] H := hP
              have hD : va_D A [(oM, .inr (5, [.int (nI c8), .ref qW, .ref qM, .ref qK, .ref qJ, .ref qG, .ref qH, .ref qP, .int (nI pl)])), (qW, .inl (cI, 22400, .inl (fun z9 => nI (w8 z9)))), (qM, .inl (cI, 7, .inl (fun z9 => nI (m8 z9)))), (qH, .inl (cI, 2700, .inl (fun z9 => nI (h8 z9)))), (qK, .inl (cI, 36480, .inl (fun z9 => nI (kp8 z9)))), (qJ, .inl (cI, 24, .inl (fun z9 => nI (km8 z9)))), (qG, .inl (cI, 24, .inl sg8))] := hD
              dsimp only at hK140 hp140
              exact pn_reti ((c8, w8, m8, h8, kp8, km8, sg8)) Fx hr hlocks hQ hAe hP hD hS (by (try dsimp only); first | done | exact (Or.inr ⟨k, a, b, hk, ha, hb9, rfl, rfl, rfl, Or.inr ⟨hpos, (hp140.resolve_right (fun g => absurd g.1 (Nat.not_lt.mpr (Nat.le_trans (pn_lenI_le (pm_near_abs hpos)) (hρ a ha).2.2)))).2⟩⟩)) d_M_nearest_143
            · skip
              have hng := mt hcp.mpr h_109
              refine lv_iload hx hb d_M_nearest_112 (lv_at hl 1 rfl) ?_
              refine lv_if_ne (tgt := 134) hx hb d_M_nearest_114 (by decide) (fun h_114 => ?_) (fun h_114 => ?_)
              · skip
                have hne := mt hc0.mpr h_114
                have hfin : pm_N w7 (pn_up m6 0 j7) 2 (pn_near (ρ a) (ρ b)).natAbs := by rw [(pm_near hpos).1, if_neg (by omega)]; exact hq2
                refine lv_aload_n hx hb d_M_nearest_134 rfl (lv_at hl 3 rfl) ?_
                refine lv_iload_n hx hb d_M_nearest_135 rfl (lv_at hl 4 rfl) ?_
                refine lv_iconst (v := nI 2) hx hb d_M_nearest_136 (by decide) ?_
                refine lv_iload hx hb d_M_nearest_137 (lv_at hl 2 rfl) ?_
                refine lv_iconst (v := nI 3) hx hb d_M_nearest_139 (by decide) ?_
                refine pn_bi (wr := []) [4, 5, 6, 0, 2, 3, 1] [] hP hD hS hA (pn_rV [.int (nI k), .int (nI 2), .int (sg a), .int (nI 3)] [] Fx hK hN hP hD [4, 5, 6, 0, 2, 3, 1] rfl rfl (c_M_put l D cI cZ cB cJ _ oM qW qM qK qJ qG qH qP 0 pl w7 (pn_up m6 0 j7) hv kp km sg (ρ) k 2 3 (sg a) (pn_near (ρ a) (ρ b)) (by omega) (by omega) hk (by omega) (by omega) hfin (pm_up43 (Nat.lt_of_le_of_lt (pm_near_abs hpos) (pm_rb2 hρ ha).1) (by decide)) (by rw [(hρ a ha).2.1]; exact (pm_near hpos).2) hρ) kw_678 cal_M_put inst_M_put sel_M_put ⟨by decide, by decide⟩ ⟨rfl, rfl⟩ 0 rfl rfl rfl rfl hl.1 (Nat.le_of_ble_eq_true rfl) d_M_nearest_140 ⟨Nat.zero_le _, Nat.zero_le _⟩) rfl rfl rfl (by decide) (fun r_140 u_140 H locs hw hP hD hS => ?_)
                obtain ⟨c8, w8, m8, h8, kp8, km8, sg8⟩ := u_140
                obtain ⟨hK140, hp140⟩ := hw
                have hP : va_P D pn_cl [(oM, .inr (5, [.int (nI c8), .ref qW, .ref qM, .ref qK, .ref qJ, .ref qG, .ref qH, .ref qP, .int (nI pl)])), (qW, .inl (cI, 22400, .inl (fun z9 => nI (w8 z9)))), (qM, .inl (cI, 7, .inl (fun z9 => nI (m8 z9)))), (qH, .inl (cI, 2700, .inl (fun z9 => nI (h8 z9)))), (qK, .inl (cI, 36480, .inl (fun z9 => nI (kp8 z9)))), (qJ, .inl (cI, 24, .inl (fun z9 => nI (km8 z9)))), (qG, .inl (cI, 24, .inl sg8))] H := hP
                have hD : va_D A [(oM, .inr (5, [.int (nI c8), .ref qW, .ref qM, .ref qK, .ref qJ, .ref qG, .ref qH, .ref qP, .int (nI pl)])), (qW, .inl (cI, 22400, .inl (fun z9 => nI (w8 z9)))), (qM, .inl (cI, 7, .inl (fun z9 => nI (m8 z9)))), (qH, .inl (cI, 2700, .inl (fun z9 => nI (h8 z9)))), (qK, .inl (cI, 36480, .inl (fun z9 => nI (kp8 z9)))), (qJ, .inl (cI, 24, .inl (fun z9 => nI (km8 z9)))), (qG, .inl (cI, 24, .inl sg8))] := hD
                dsimp only at hK140 hp140
                exact pn_reti ((c8, w8, m8, h8, kp8, km8, sg8)) Fx hr hlocks hQ hAe hP hD hS (by (try dsimp only); first | done | exact (Or.inr ⟨k, a, b, hk, ha, hb9, rfl, rfl, rfl, Or.inr ⟨hpos, (hp140.resolve_right (fun g => absurd g.1 (Nat.not_lt.mpr (Nat.le_trans (pn_lenI_le (pm_near_abs hpos)) (hρ a ha).2.2)))).2⟩⟩)) d_M_nearest_143
              · skip
                have heq := hc0.mp h_114
                refine lv_iload hx hb d_M_nearest_117 (lv_at hl 0 rfl) ?_
                refine pw_ifb_eq (tgt := 134) hx hb d_M_nearest_119 (by decide) (fun h_119 => ?_) (fun h_119 => ?_)
                · skip
                  have hn1 : ¬ (ρ a).natAbs / (ρ b).natAbs % 2 = 1 := fun g => absurd (hodd.mpr g) (by rw [h_119]; decide)
                  have hfin : pm_N w7 (pn_up m6 0 j7) 2 (pn_near (ρ a) (ρ b)).natAbs := by rw [(pm_near hpos).1, if_neg (by omega)]; exact hq2
                  refine lv_aload_n hx hb d_M_nearest_134 rfl (lv_at hl 3 rfl) ?_
                  refine lv_iload_n hx hb d_M_nearest_135 rfl (lv_at hl 4 rfl) ?_
                  refine lv_iconst (v := nI 2) hx hb d_M_nearest_136 (by decide) ?_
                  refine lv_iload hx hb d_M_nearest_137 (lv_at hl 2 rfl) ?_
                  refine lv_iconst (v := nI 3) hx hb d_M_nearest_139 (by decide) ?_
                  refine pn_bi (wr := []) [4, 5, 6, 0, 2, 3, 1] [] hP hD hS hA (pn_rV [.int (nI k), .int (nI 2), .int (sg a), .int (nI 3)] [] Fx hK hN hP hD [4, 5, 6, 0, 2, 3, 1] rfl rfl (c_M_put l D cI cZ cB cJ _ oM qW qM qK qJ qG qH qP 0 pl w7 (pn_up m6 0 j7) hv kp km sg (ρ) k 2 3 (sg a) (pn_near (ρ a) (ρ b)) (by omega) (by omega) hk (by omega) (by omega) hfin (pm_up43 (Nat.lt_of_le_of_lt (pm_near_abs hpos) (pm_rb2 hρ ha).1) (by decide)) (by rw [(hρ a ha).2.1]; exact (pm_near hpos).2) hρ) kw_678 cal_M_put inst_M_put sel_M_put ⟨by decide, by decide⟩ ⟨rfl, rfl⟩ 0 rfl rfl rfl rfl hl.1 (Nat.le_of_ble_eq_true rfl) d_M_nearest_140 ⟨Nat.zero_le _, Nat.zero_le _⟩) rfl rfl rfl (by decide) (fun r_140 u_140 H locs hw hP hD hS => ?_)
                  obtain ⟨c8, w8, m8, h8, kp8, km8, sg8⟩ := u_140
                  obtain ⟨hK140, hp140⟩ := hw
                  have hP : va_P D pn_cl [(oM, .inr (5, [.int (nI c8), .ref qW, .ref qM, .ref qK, .ref qJ, .ref qG, .ref qH, .ref qP, .int (nI pl)])), (qW, .inl (cI, 22400, .inl (fun z9 => nI (w8 z9)))), (qM, .inl (cI, 7, .inl (fun z9 => nI (m8 z9)))), (qH, .inl (cI, 2700, .inl (fun z9 => nI (h8 z9)))), (qK, .inl (cI, 36480, .inl (fun z9 => nI (kp8 z9)))), (qJ, .inl (cI, 24, .inl (fun z9 => nI (km8 z9)))), (qG, .inl (cI, 24, .inl sg8))] H := hP
                  have hD : va_D A [(oM, .inr (5, [.int (nI c8), .ref qW, .ref qM, .ref qK, .ref qJ, .ref qG, .ref qH, .ref qP, .int (nI pl)])), (qW, .inl (cI, 22400, .inl (fun z9 => nI (w8 z9)))), (qM, .inl (cI, 7, .inl (fun z9 => nI (m8 z9)))), (qH, .inl (cI, 2700, .inl (fun z9 => nI (h8 z9)))), (qK, .inl (cI, 36480, .inl (fun z9 => nI (kp8 z9)))), (qJ, .inl (cI, 24, .inl (fun z9 => nI (km8 z9)))), (qG, .inl (cI, 24, .inl sg8))] := hD
                  dsimp only at hK140 hp140
                  exact pn_reti ((c8, w8, m8, h8, kp8, km8, sg8)) Fx hr hlocks hQ hAe hP hD hS (by (try dsimp only); first | done | exact (Or.inr ⟨k, a, b, hk, ha, hb9, rfl, rfl, rfl, Or.inr ⟨hpos, (hp140.resolve_right (fun g => absurd g.1 (Nat.not_lt.mpr (Nat.le_trans (pn_lenI_le (pm_near_abs hpos)) (hρ a ha).2.2)))).2⟩⟩)) d_M_nearest_143
                · skip
                  exact absurd h_119 (by decide)
          · skip
            have hodd : (true = true ↔ (ρ a).natAbs / (ρ b).natAbs % 2 = 1) := ⟨fun _ => by omega, fun _ => rfl⟩
            refine lv_iconst (v := pn_b true) hx hb d_M_nearest_100 (by decide) ?_
            refine lv_goto (tgt := 105) hx hb d_M_nearest_101 (by decide) ?_
            refine lv_istore (lv' := [(6, .int (pn_b true)), (5, .int (pn_cmp ((2 * ((ρ a).natAbs % (ρ b).natAbs) : Nat) : Int) (((ρ b).natAbs : Nat) : Int))), (4, .int (sg a)), (0, .ref oM), (1, .int (nI k)), (2, .int (nI a)), (3, .int (nI b))]) hx hb d_M_nearest_105 hl (by decide) rfl (fun ls hl => ?_)
            have hcp := pn_cmp_pos (x := ((2 * ((ρ a).natAbs % (ρ b).natAbs) : Nat) : Int)) (y := (((ρ b).natAbs : Nat) : Int))
            have hc0 := pn_cmp_0 (x := ((2 * ((ρ a).natAbs % (ρ b).natAbs) : Nat) : Int)) (y := (((ρ b).natAbs : Nat) : Int))
            refine lv_iload hx hb d_M_nearest_107 (lv_at hl 1 rfl) ?_
            refine lv_if_gt (tgt := 122) hx hb d_M_nearest_109 (by decide) (fun h_109 => ?_) (fun h_109 => ?_)
            · skip
              have hup : ((ρ b).natAbs < 2 * ((ρ a).natAbs % (ρ b).natAbs) ∨ (2 * ((ρ a).natAbs % (ρ b).natAbs) = (ρ b).natAbs ∧ (ρ a).natAbs / (ρ b).natAbs % 2 = 1)) := Or.inl (by have := hcp.mp h_109; omega)
              refine lv_aload_n hx hb d_M_nearest_122 rfl (lv_at hl 3 rfl) ?_
              refine lv_iconst (v := nI 4) hx hb d_M_nearest_123 (by decide) ?_
              refine lv_lconst (v := pn_L 1) hx hb d_M_nearest_124 (by decide) ?_
              refine pn_bv (wr := [(qH, .inl (cI, 2700, .inl (fun z9 => nI (hv z9)))), (qG, .inl (cI, 24, .inl sg)), (qK, .inl (cI, 36480, .inl (fun z9 => nI (kp z9)))), (qJ, .inl (cI, 24, .inl (fun z9 => nI (km z9))))]) [4, 5, 6] [0, 1, 2, 3] hP hD hS hA (pn_rV [.int (nI 4), .long (pn_L 1)] [] Fx hK hN hP hD [4, 5, 6] rfl rfl (c_M_setLong l D cI cZ cB cJ _ oM qW qM qK qJ qG qH qP 0 pl w7 (pn_up m6 0 j7) 4 1 (by omega) (by decide) (by decide)) kw_673 cal_M_setLong inst_M_setLong sel_M_setLong ⟨by decide, by decide⟩ ⟨rfl, rfl⟩ 0 rfl rfl rfl rfl hl.1 (Nat.le_of_ble_eq_true rfl) d_M_nearest_125 ⟨Nat.zero_le _, Nat.zero_le _⟩) rfl rfl rfl (by decide) (fun u_125 H locs hw hP hD hS => ?_)
              obtain ⟨w8, j8⟩ := u_125
              obtain ⟨he1, he2⟩ := hw
              have hP : va_P D pn_cl [(qH, .inl (cI, 2700, .inl (fun z9 => nI (hv z9)))), (qG, .inl (cI, 24, .inl sg)), (qK, .inl (cI, 36480, .inl (fun z9 => nI (kp z9)))), (qJ, .inl (cI, 24, .inl (fun z9 => nI (km z9)))), (oM, .inr (5, [.int (nI 0), .ref qW, .ref qM, .ref qK, .ref qJ, .ref qG, .ref qH, .ref qP, .int (nI pl)])), (qW, .inl (cI, 22400, .inl (fun z9 => nI (w8 z9)))), (qM, .inl (cI, 7, .inl (fun z9 => nI ((pn_up (pn_up m6 0 j7) 4 j8) z9))))] H := hP
              have hD : va_D A [(qH, .inl (cI, 2700, .inl (fun z9 => nI (hv z9)))), (qG, .inl (cI, 24, .inl sg)), (qK, .inl (cI, 36480, .inl (fun z9 => nI (kp z9)))), (qJ, .inl (cI, 24, .inl (fun z9 => nI (km z9)))), (oM, .inr (5, [.int (nI 0), .ref qW, .ref qM, .ref qK, .ref qJ, .ref qG, .ref qH, .ref qP, .int (nI pl)])), (qW, .inl (cI, 22400, .inl (fun z9 => nI (w8 z9)))), (qM, .inl (cI, 7, .inl (fun z9 => nI ((pn_up (pn_up m6 0 j7) 4 j8) z9))))] := hD
              dsimp only at he1 he2
              have he3 : pm_N w8 (pn_up (pn_up m6 0 j7) 4 j8) 4 1 := he1
              have hq3 := he2 2 _ (by omega) hq2
              refine lv_aload_n hx hb d_M_nearest_128 rfl (lv_at hl 3 rfl) ?_
              refine lv_iconst (v := nI 2) hx hb d_M_nearest_129 (by decide) ?_
              refine lv_iconst (v := nI 4) hx hb d_M_nearest_130 (by decide) ?_
              refine pn_bv (wr := [(qH, .inl (cI, 2700, .inl (fun z9 => nI (hv z9)))), (qG, .inl (cI, 24, .inl sg)), (qK, .inl (cI, 36480, .inl (fun z9 => nI (kp z9)))), (qJ, .inl (cI, 24, .inl (fun z9 => nI (km z9))))]) [4, 5, 6] [0, 1, 2, 3] hP hD hS hA (pn_rV [.int (nI 2), .int (nI 4)] [] Fx hK hN hP hD [4, 5, 6] rfl rfl (c_M_addTo l D cI cZ cB cJ _ oM qW qM qK qJ qG qH qP 0 pl w8 (pn_up (pn_up m6 0 j7) 4 j8) 2 4 ((ρ a).natAbs / (ρ b).natAbs) 1 (by omega) (by omega) (by omega) hq3 he3 (Nat.le_trans (pm_N_cnt hq3 hqb) (by decide)) (Nat.le_trans (pm_N_cnt (m := 1) he3 (by decide)) (by decide))) kw_712 cal_M_addTo inst_M_addTo sel_M_addTo ⟨by decide, by decide⟩ ⟨rfl, rfl⟩ 0 rfl rfl rfl rfl hl.1 (Nat.le_of_ble_eq_true rfl) d_M_nearest_131 ⟨Nat.zero_le _, Nat.zero_le _⟩) rfl rfl rfl (by decide) (fun u_131 H locs hw hP hD hS => ?_)
              obtain ⟨w9, j9⟩ := u_131
              obtain ⟨hf1, hf2⟩ := hw
              have hP : va_P D pn_cl [(qH, .inl (cI, 2700, .inl (fun z9 => nI (hv z9)))), (qG, .inl (cI, 24, .inl sg)), (qK, .inl (cI, 36480, .inl (fun z9 => nI (kp z9)))), (qJ, .inl (cI, 24, .inl (fun z9 => nI (km z9)))), (oM, .inr (5, [.int (nI 0), .ref qW, .ref qM, .ref qK, .ref qJ, .ref qG, .ref qH, .ref qP, .int (nI pl)])), (qW, .inl (cI, 22400, .inl (fun z9 => nI (w9 z9)))), (qM, .inl (cI, 7, .inl (fun z9 => nI ((pn_up (pn_up (pn_up m6 0 j7) 4 j8) 2 j9) z9))))] H := hP
              have hD : va_D A [(qH, .inl (cI, 2700, .inl (fun z9 => nI (hv z9)))), (qG, .inl (cI, 24, .inl sg)), (qK, .inl (cI, 36480, .inl (fun z9 => nI (kp z9)))), (qJ, .inl (cI, 24, .inl (fun z9 => nI (km z9)))), (oM, .inr (5, [.int (nI 0), .ref qW, .ref qM, .ref qK, .ref qJ, .ref qG, .ref qH, .ref qP, .int (nI pl)])), (qW, .inl (cI, 22400, .inl (fun z9 => nI (w9 z9)))), (qM, .inl (cI, 7, .inl (fun z9 => nI ((pn_up (pn_up (pn_up m6 0 j7) 4 j8) 2 j9) z9))))] := hD
              dsimp only at hf1
              have hfin : pm_N w9 (pn_up (pn_up (pn_up m6 0 j7) 4 j8) 2 j9) 2 (pn_near (ρ a) (ρ b)).natAbs := by rw [(pm_near hpos).1, if_pos hup]; exact hf1
              refine lv_aload_n hx hb d_M_nearest_134 rfl (lv_at hl 3 rfl) ?_
              refine lv_iload_n hx hb d_M_nearest_135 rfl (lv_at hl 4 rfl) ?_
              refine lv_iconst (v := nI 2) hx hb d_M_nearest_136 (by decide) ?_
              refine lv_iload hx hb d_M_nearest_137 (lv_at hl 2 rfl) ?_
              refine lv_iconst (v := nI 3) hx hb d_M_nearest_139 (by decide) ?_
              refine pn_bi (wr := []) [4, 5, 6, 0, 2, 3, 1] [] hP hD hS hA (pn_rV [.int (nI k), .int (nI 2), .int (sg a), .int (nI 3)] [] Fx hK hN hP hD [4, 5, 6, 0, 2, 3, 1] rfl rfl (c_M_put l D cI cZ cB cJ _ oM qW qM qK qJ qG qH qP 0 pl w9 (pn_up (pn_up (pn_up m6 0 j7) 4 j8) 2 j9) hv kp km sg (ρ) k 2 3 (sg a) (pn_near (ρ a) (ρ b)) (by omega) (by omega) hk (by omega) (by omega) hfin (pm_up43 (Nat.lt_of_le_of_lt (pm_near_abs hpos) (pm_rb2 hρ ha).1) (by decide)) (by rw [(hρ a ha).2.1]; exact (pm_near hpos).2) hρ) kw_678 cal_M_put inst_M_put sel_M_put ⟨by decide, by decide⟩ ⟨rfl, rfl⟩ 0 rfl rfl rfl rfl hl.1 (Nat.le_of_ble_eq_true rfl) d_M_nearest_140 ⟨Nat.zero_le _, Nat.zero_le _⟩) rfl rfl rfl (by decide) (fun r_140 u_140 H locs hw hP hD hS => ?_)
              obtain ⟨c8, w8, m8, h8, kp8, km8, sg8⟩ := u_140
              obtain ⟨hK140, hp140⟩ := hw
              have hP : va_P D pn_cl [(oM, .inr (5, [.int (nI c8), .ref qW, .ref qM, .ref qK, .ref qJ, .ref qG, .ref qH, .ref qP, .int (nI pl)])), (qW, .inl (cI, 22400, .inl (fun z9 => nI (w8 z9)))), (qM, .inl (cI, 7, .inl (fun z9 => nI (m8 z9)))), (qH, .inl (cI, 2700, .inl (fun z9 => nI (h8 z9)))), (qK, .inl (cI, 36480, .inl (fun z9 => nI (kp8 z9)))), (qJ, .inl (cI, 24, .inl (fun z9 => nI (km8 z9)))), (qG, .inl (cI, 24, .inl sg8))] H := hP
              have hD : va_D A [(oM, .inr (5, [.int (nI c8), .ref qW, .ref qM, .ref qK, .ref qJ, .ref qG, .ref qH, .ref qP, .int (nI pl)])), (qW, .inl (cI, 22400, .inl (fun z9 => nI (w8 z9)))), (qM, .inl (cI, 7, .inl (fun z9 => nI (m8 z9)))), (qH, .inl (cI, 2700, .inl (fun z9 => nI (h8 z9)))), (qK, .inl (cI, 36480, .inl (fun z9 => nI (kp8 z9)))), (qJ, .inl (cI, 24, .inl (fun z9 => nI (km8 z9)))), (qG, .inl (cI, 24, .inl sg8))] := hD
              dsimp only at hK140 hp140
              exact pn_reti ((c8, w8, m8, h8, kp8, km8, sg8)) Fx hr hlocks hQ hAe hP hD hS (by (try dsimp only); first | done | exact (Or.inr ⟨k, a, b, hk, ha, hb9, rfl, rfl, rfl, Or.inr ⟨hpos, (hp140.resolve_right (fun g => absurd g.1 (Nat.not_lt.mpr (Nat.le_trans (pn_lenI_le (pm_near_abs hpos)) (hρ a ha).2.2)))).2⟩⟩)) d_M_nearest_143
            · skip
              have hng := mt hcp.mpr h_109
              refine lv_iload hx hb d_M_nearest_112 (lv_at hl 1 rfl) ?_
              refine lv_if_ne (tgt := 134) hx hb d_M_nearest_114 (by decide) (fun h_114 => ?_) (fun h_114 => ?_)
              · skip
                have hne := mt hc0.mpr h_114
                have hfin : pm_N w7 (pn_up m6 0 j7) 2 (pn_near (ρ a) (ρ b)).natAbs := by rw [(pm_near hpos).1, if_neg (by omega)]; exact hq2
                refine lv_aload_n hx hb d_M_nearest_134 rfl (lv_at hl 3 rfl) ?_
                refine lv_iload_n hx hb d_M_nearest_135 rfl (lv_at hl 4 rfl) ?_
                refine lv_iconst (v := nI 2) hx hb d_M_nearest_136 (by decide) ?_
                refine lv_iload hx hb d_M_nearest_137 (lv_at hl 2 rfl) ?_
                refine lv_iconst (v := nI 3) hx hb d_M_nearest_139 (by decide) ?_
                refine pn_bi (wr := []) [4, 5, 6, 0, 2, 3, 1] [] hP hD hS hA (pn_rV [.int (nI k), .int (nI 2), .int (sg a), .int (nI 3)] [] Fx hK hN hP hD [4, 5, 6, 0, 2, 3, 1] rfl rfl (c_M_put l D cI cZ cB cJ _ oM qW qM qK qJ qG qH qP 0 pl w7 (pn_up m6 0 j7) hv kp km sg (ρ) k 2 3 (sg a) (pn_near (ρ a) (ρ b)) (by omega) (by omega) hk (by omega) (by omega) hfin (pm_up43 (Nat.lt_of_le_of_lt (pm_near_abs hpos) (pm_rb2 hρ ha).1) (by decide)) (by rw [(hρ a ha).2.1]; exact (pm_near hpos).2) hρ) kw_678 cal_M_put inst_M_put sel_M_put ⟨by decide, by decide⟩ ⟨rfl, rfl⟩ 0 rfl rfl rfl rfl hl.1 (Nat.le_of_ble_eq_true rfl) d_M_nearest_140 ⟨Nat.zero_le _, Nat.zero_le _⟩) rfl rfl rfl (by decide) (fun r_140 u_140 H locs hw hP hD hS => ?_)
                obtain ⟨c8, w8, m8, h8, kp8, km8, sg8⟩ := u_140
                obtain ⟨hK140, hp140⟩ := hw
                have hP : va_P D pn_cl [(oM, .inr (5, [.int (nI c8), .ref qW, .ref qM, .ref qK, .ref qJ, .ref qG, .ref qH, .ref qP, .int (nI pl)])), (qW, .inl (cI, 22400, .inl (fun z9 => nI (w8 z9)))), (qM, .inl (cI, 7, .inl (fun z9 => nI (m8 z9)))), (qH, .inl (cI, 2700, .inl (fun z9 => nI (h8 z9)))), (qK, .inl (cI, 36480, .inl (fun z9 => nI (kp8 z9)))), (qJ, .inl (cI, 24, .inl (fun z9 => nI (km8 z9)))), (qG, .inl (cI, 24, .inl sg8))] H := hP
                have hD : va_D A [(oM, .inr (5, [.int (nI c8), .ref qW, .ref qM, .ref qK, .ref qJ, .ref qG, .ref qH, .ref qP, .int (nI pl)])), (qW, .inl (cI, 22400, .inl (fun z9 => nI (w8 z9)))), (qM, .inl (cI, 7, .inl (fun z9 => nI (m8 z9)))), (qH, .inl (cI, 2700, .inl (fun z9 => nI (h8 z9)))), (qK, .inl (cI, 36480, .inl (fun z9 => nI (kp8 z9)))), (qJ, .inl (cI, 24, .inl (fun z9 => nI (km8 z9)))), (qG, .inl (cI, 24, .inl sg8))] := hD
                dsimp only at hK140 hp140
                exact pn_reti ((c8, w8, m8, h8, kp8, km8, sg8)) Fx hr hlocks hQ hAe hP hD hS (by (try dsimp only); first | done | exact (Or.inr ⟨k, a, b, hk, ha, hb9, rfl, rfl, rfl, Or.inr ⟨hpos, (hp140.resolve_right (fun g => absurd g.1 (Nat.not_lt.mpr (Nat.le_trans (pn_lenI_le (pm_near_abs hpos)) (hρ a ha).2.2)))).2⟩⟩)) d_M_nearest_143
              · skip
                have heq := hc0.mp h_114
                refine lv_iload hx hb d_M_nearest_117 (lv_at hl 0 rfl) ?_
                refine pw_ifb_eq (tgt := 134) hx hb d_M_nearest_119 (by decide) (fun h_119 => ?_) (fun h_119 => ?_)
                · skip
                  exact absurd h_119 (by decide)
                · skip
                  have hup : ((ρ b).natAbs < 2 * ((ρ a).natAbs % (ρ b).natAbs) ∨ (2 * ((ρ a).natAbs % (ρ b).natAbs) = (ρ b).natAbs ∧ (ρ a).natAbs / (ρ b).natAbs % 2 = 1)) := Or.inr ⟨by omega, hodd.mp h_119⟩
                  refine lv_aload_n hx hb d_M_nearest_122 rfl (lv_at hl 3 rfl) ?_
                  refine lv_iconst (v := nI 4) hx hb d_M_nearest_123 (by decide) ?_
                  refine lv_lconst (v := pn_L 1) hx hb d_M_nearest_124 (by decide) ?_
                  refine pn_bv (wr := [(qH, .inl (cI, 2700, .inl (fun z9 => nI (hv z9)))), (qG, .inl (cI, 24, .inl sg)), (qK, .inl (cI, 36480, .inl (fun z9 => nI (kp z9)))), (qJ, .inl (cI, 24, .inl (fun z9 => nI (km z9))))]) [4, 5, 6] [0, 1, 2, 3] hP hD hS hA (pn_rV [.int (nI 4), .long (pn_L 1)] [] Fx hK hN hP hD [4, 5, 6] rfl rfl (c_M_setLong l D cI cZ cB cJ _ oM qW qM qK qJ qG qH qP 0 pl w7 (pn_up m6 0 j7) 4 1 (by omega) (by decide) (by decide)) kw_673 cal_M_setLong inst_M_setLong sel_M_setLong ⟨by decide, by decide⟩ ⟨rfl, rfl⟩ 0 rfl rfl rfl rfl hl.1 (Nat.le_of_ble_eq_true rfl) d_M_nearest_125 ⟨Nat.zero_le _, Nat.zero_le _⟩) rfl rfl rfl (by decide) (fun u_125 H locs hw hP hD hS => ?_)
                  obtain ⟨w8, j8⟩ := u_125
                  obtain ⟨he1, he2⟩ := hw
                  have hP : va_P D pn_cl [(qH, .inl (cI, 2700, .inl (fun z9 => nI (hv z9)))), (qG, .inl (cI, 24, .inl sg)), (qK, .inl (cI, 36480, .inl (fun z9 => nI (kp z9)))), (qJ, .inl (cI, 24, .inl (fun z9 => nI (km z9)))), (oM, .inr (5, [.int (nI 0), .ref qW, .ref qM, .ref qK, .ref qJ, .ref qG, .ref qH, .ref qP, .int (nI pl)])), (qW, .inl (cI, 22400, .inl (fun z9 => nI (w8 z9)))), (qM, .inl (cI, 7, .inl (fun z9 => nI ((pn_up (pn_up m6 0 j7) 4 j8) z9))))] H := hP
                  have hD : va_D A [(qH, .inl (cI, 2700, .inl (fun z9 => nI (hv z9)))), (qG, .inl (cI, 24, .inl sg)), (qK, .inl (cI, 36480, .inl (fun z9 => nI (kp z9)))), (qJ, .inl (cI, 24, .inl (fun z9 => nI (km z9)))), (oM, .inr (5, [.int (nI 0), .ref qW, .ref qM, .ref qK, .ref qJ, .ref qG, .ref qH, .ref qP, .int (nI pl)])), (qW, .inl (cI, 22400, .inl (fun z9 => nI (w8 z9)))), (qM, .inl (cI, 7, .inl (fun z9 => nI ((pn_up (pn_up m6 0 j7) 4 j8) z9))))] := hD
                  dsimp only at he1 he2
                  have he3 : pm_N w8 (pn_up (pn_up m6 0 j7) 4 j8) 4 1 := he1
                  have hq3 := he2 2 _ (by omega) hq2
                  refine lv_aload_n hx hb d_M_nearest_128 rfl (lv_at hl 3 rfl) ?_
                  refine lv_iconst (v := nI 2) hx hb d_M_nearest_129 (by decide) ?_
                  refine lv_iconst (v := nI 4) hx hb d_M_nearest_130 (by decide) ?_
                  refine pn_bv (wr := [(qH, .inl (cI, 2700, .inl (fun z9 => nI (hv z9)))), (qG, .inl (cI, 24, .inl sg)), (qK, .inl (cI, 36480, .inl (fun z9 => nI (kp z9)))), (qJ, .inl (cI, 24, .inl (fun z9 => nI (km z9))))]) [4, 5, 6] [0, 1, 2, 3] hP hD hS hA (pn_rV [.int (nI 2), .int (nI 4)] [] Fx hK hN hP hD [4, 5, 6] rfl rfl (c_M_addTo l D cI cZ cB cJ _ oM qW qM qK qJ qG qH qP 0 pl w8 (pn_up (pn_up m6 0 j7) 4 j8) 2 4 ((ρ a).natAbs / (ρ b).natAbs) 1 (by omega) (by omega) (by omega) hq3 he3 (Nat.le_trans (pm_N_cnt hq3 hqb) (by decide)) (Nat.le_trans (pm_N_cnt (m := 1) he3 (by decide)) (by decide))) kw_712 cal_M_addTo inst_M_addTo sel_M_addTo ⟨by decide, by decide⟩ ⟨rfl, rfl⟩ 0 rfl rfl rfl rfl hl.1 (Nat.le_of_ble_eq_true rfl) d_M_nearest_131 ⟨Nat.zero_le _, Nat.zero_le _⟩) rfl rfl rfl (by decide) (fun u_131 H locs hw hP hD hS => ?_)
                  obtain ⟨w9, j9⟩ := u_131
                  obtain ⟨hf1, hf2⟩ := hw
                  have hP : va_P D pn_cl [(qH, .inl (cI, 2700, .inl (fun z9 => nI (hv z9)))), (qG, .inl (cI, 24, .inl sg)), (qK, .inl (cI, 36480, .inl (fun z9 => nI (kp z9)))), (qJ, .inl (cI, 24, .inl (fun z9 => nI (km z9)))), (oM, .inr (5, [.int (nI 0), .ref qW, .ref qM, .ref qK, .ref qJ, .ref qG, .ref qH, .ref qP, .int (nI pl)])), (qW, .inl (cI, 22400, .inl (fun z9 => nI (w9 z9)))), (qM, .inl (cI, 7, .inl (fun z9 => nI ((pn_up (pn_up (pn_up m6 0 j7) 4 j8) 2 j9) z9))))] H := hP
                  have hD : va_D A [(qH, .inl (cI, 2700, .inl (fun z9 => nI (hv z9)))), (qG, .inl (cI, 24, .inl sg)), (qK, .inl (cI, 36480, .inl (fun z9 => nI (kp z9)))), (qJ, .inl (cI, 24, .inl (fun z9 => nI (km z9)))), (oM, .inr (5, [.int (nI 0), .ref qW, .ref qM, .ref qK, .ref qJ, .ref qG, .ref qH, .ref qP, .int (nI pl)])), (qW, .inl (cI, 22400, .inl (fun z9 => nI (w9 z9)))), (qM, .inl (cI, 7, .inl (fun z9 => nI ((pn_up (pn_up (pn_up m6 0 j7) 4 j8) 2 j9) z9))))] := hD
                  dsimp only at hf1
                  have hfin : pm_N w9 (pn_up (pn_up (pn_up m6 0 j7) 4 j8) 2 j9) 2 (pn_near (ρ a) (ρ b)).natAbs := by rw [(pm_near hpos).1, if_pos hup]; exact hf1
                  refine lv_aload_n hx hb d_M_nearest_134 rfl (lv_at hl 3 rfl) ?_
                  refine lv_iload_n hx hb d_M_nearest_135 rfl (lv_at hl 4 rfl) ?_
                  refine lv_iconst (v := nI 2) hx hb d_M_nearest_136 (by decide) ?_
                  refine lv_iload hx hb d_M_nearest_137 (lv_at hl 2 rfl) ?_
                  refine lv_iconst (v := nI 3) hx hb d_M_nearest_139 (by decide) ?_
                  refine pn_bi (wr := []) [4, 5, 6, 0, 2, 3, 1] [] hP hD hS hA (pn_rV [.int (nI k), .int (nI 2), .int (sg a), .int (nI 3)] [] Fx hK hN hP hD [4, 5, 6, 0, 2, 3, 1] rfl rfl (c_M_put l D cI cZ cB cJ _ oM qW qM qK qJ qG qH qP 0 pl w9 (pn_up (pn_up (pn_up m6 0 j7) 4 j8) 2 j9) hv kp km sg (ρ) k 2 3 (sg a) (pn_near (ρ a) (ρ b)) (by omega) (by omega) hk (by omega) (by omega) hfin (pm_up43 (Nat.lt_of_le_of_lt (pm_near_abs hpos) (pm_rb2 hρ ha).1) (by decide)) (by rw [(hρ a ha).2.1]; exact (pm_near hpos).2) hρ) kw_678 cal_M_put inst_M_put sel_M_put ⟨by decide, by decide⟩ ⟨rfl, rfl⟩ 0 rfl rfl rfl rfl hl.1 (Nat.le_of_ble_eq_true rfl) d_M_nearest_140 ⟨Nat.zero_le _, Nat.zero_le _⟩) rfl rfl rfl (by decide) (fun r_140 u_140 H locs hw hP hD hS => ?_)
                  obtain ⟨c8, w8, m8, h8, kp8, km8, sg8⟩ := u_140
                  obtain ⟨hK140, hp140⟩ := hw
                  have hP : va_P D pn_cl [(oM, .inr (5, [.int (nI c8), .ref qW, .ref qM, .ref qK, .ref qJ, .ref qG, .ref qH, .ref qP, .int (nI pl)])), (qW, .inl (cI, 22400, .inl (fun z9 => nI (w8 z9)))), (qM, .inl (cI, 7, .inl (fun z9 => nI (m8 z9)))), (qH, .inl (cI, 2700, .inl (fun z9 => nI (h8 z9)))), (qK, .inl (cI, 36480, .inl (fun z9 => nI (kp8 z9)))), (qJ, .inl (cI, 24, .inl (fun z9 => nI (km8 z9)))), (qG, .inl (cI, 24, .inl sg8))] H := hP
                  have hD : va_D A [(oM, .inr (5, [.int (nI c8), .ref qW, .ref qM, .ref qK, .ref qJ, .ref qG, .ref qH, .ref qP, .int (nI pl)])), (qW, .inl (cI, 22400, .inl (fun z9 => nI (w8 z9)))), (qM, .inl (cI, 7, .inl (fun z9 => nI (m8 z9)))), (qH, .inl (cI, 2700, .inl (fun z9 => nI (h8 z9)))), (qK, .inl (cI, 36480, .inl (fun z9 => nI (kp8 z9)))), (qJ, .inl (cI, 24, .inl (fun z9 => nI (km8 z9)))), (qG, .inl (cI, 24, .inl sg8))] := hD
                  dsimp only at hK140 hp140
                  exact pn_reti ((c8, w8, m8, h8, kp8, km8, sg8)) Fx hr hlocks hQ hAe hP hD hS (by (try dsimp only); first | done | exact (Or.inr ⟨k, a, b, hk, ha, hb9, rfl, rfl, rfl, Or.inr ⟨hpos, (hp140.resolve_right (fun g => absurd g.1 (Nat.not_lt.mpr (Nat.le_trans (pn_lenI_le (pm_near_abs hpos)) (hρ a ha).2.2)))).2⟩⟩)) d_M_nearest_143
      · skip
        rw [hrf28] at h_31
        exact absurd h_31 (by decide)
    · skip
      have hneg : ¬ 0 < ρ b := fun g => h_20 (by rw [(hρ b hb9).2.1]; exact pn_cmp_pos.mpr g)
      refine lv_iconst (v := nI 2) hx hb d_M_nearest_23 (by decide) ?_
      refine lv_goto (tgt := 28) hx hb d_M_nearest_24 (by decide) ?_
      refine pn_bi (wr := [(qW, .inl (cI, 22400, .inl (fun z9 => nI (wk z9)))), (qM, .inl (cI, 7, .inl (fun z9 => nI (mn z9)))), (qH, .inl (cI, 2700, .inl (fun z9 => nI (hv z9)))), (qK, .inl (cI, 36480, .inl (fun z9 => nI (kp z9)))), (qJ, .inl (cI, 24, .inl (fun z9 => nI (km z9)))), (qG, .inl (cI, 24, .inl sg))]) [0] [1, 2, 3, 4, 5, 6] hP hD hS hA (pn_rV [.int (nI 2)] [] Fx hK hN hP hD [0] rfl rfl (c_M_refuses l D cI cZ cB cJ _ oM qW qM qK qJ qG qH qP cd pl 2 (by omega)) kw_669 cal_M_refuses inst_M_refuses sel_M_refuses ⟨by decide, by decide⟩ ⟨rfl, rfl⟩ 0 rfl rfl rfl rfl hl.1 (Nat.le_of_ble_eq_true rfl) d_M_nearest_28 ⟨Nat.zero_le _, Nat.zero_le _⟩) rfl rfl rfl (by decide) (fun r_28 u_28 H locs hw hP hD hS => ?_)
      obtain ⟨rfl, hrf28⟩ := hw
      have hP : va_P D pn_cl [(qW, .inl (cI, 22400, .inl (fun z9 => nI (wk z9)))), (qM, .inl (cI, 7, .inl (fun z9 => nI (mn z9)))), (qH, .inl (cI, 2700, .inl (fun z9 => nI (hv z9)))), (qK, .inl (cI, 36480, .inl (fun z9 => nI (kp z9)))), (qJ, .inl (cI, 24, .inl (fun z9 => nI (km z9)))), (qG, .inl (cI, 24, .inl sg)), (oM, .inr (5, [.int (nI 2), .ref qW, .ref qM, .ref qK, .ref qJ, .ref qG, .ref qH, .ref qP, .int (nI pl)]))] H := hP
      have hD : va_D A [(qW, .inl (cI, 22400, .inl (fun z9 => nI (wk z9)))), (qM, .inl (cI, 7, .inl (fun z9 => nI (mn z9)))), (qH, .inl (cI, 2700, .inl (fun z9 => nI (hv z9)))), (qK, .inl (cI, 36480, .inl (fun z9 => nI (kp z9)))), (qJ, .inl (cI, 24, .inl (fun z9 => nI (km z9)))), (qG, .inl (cI, 24, .inl sg)), (oM, .inr (5, [.int (nI 2), .ref qW, .ref qM, .ref qK, .ref qJ, .ref qG, .ref qH, .ref qP, .int (nI pl)]))] := hD
      refine pw_ifb_eq (tgt := 36) hx hb d_M_nearest_31 (by decide) (fun h_31 => ?_) (fun h_31 => ?_)
      · skip
        rw [hrf28] at h_31
        exact absurd h_31 (by decide)
      · skip
        refine lv_iconst (v := nI 0) hx hb d_M_nearest_34 (by decide) ?_
        exact pn_reti ((2, wk, mn, hv, kp, km, sg)) Fx hr hlocks hQ hAe (hP.sub [6, 0, 1, 2, 3, 4, 5] rfl) (hD.sub [6, 0, 1, 2, 3, 4, 5] (by decide) rfl) hS (by (try dsimp only); first | done | exact (Or.inr ⟨k, a, b, hk, ha, hb9, rfl, rfl, rfl, Or.inl ⟨rfl, hneg, hρ⟩⟩)) d_M_nearest_35
  · skip
    have hno : ¬ (pn_isR x ∧ pn_isR y ∧ pn_isR z) := fun q => absurd (h4.mpr q) (by rw [h_7]; decide)
    refine lv_iconst (v := nI 1) hx hb d_M_nearest_10 (by decide) ?_
    refine lv_goto (tgt := 28) hx hb d_M_nearest_11 (by decide) ?_
    refine pn_bi (wr := [(qW, .inl (cI, 22400, .inl (fun z9 => nI (wk z9)))), (qM, .inl (cI, 7, .inl (fun z9 => nI (mn z9)))), (qH, .inl (cI, 2700, .inl (fun z9 => nI (hv z9)))), (qK, .inl (cI, 36480, .inl (fun z9 => nI (kp z9)))), (qJ, .inl (cI, 24, .inl (fun z9 => nI (km z9)))), (qG, .inl (cI, 24, .inl sg))]) [0] [1, 2, 3, 4, 5, 6] hP hD hS hA (pn_rV [.int (nI 1)] [] Fx hK hN hP hD [0] rfl rfl (c_M_refuses l D cI cZ cB cJ _ oM qW qM qK qJ qG qH qP cd pl 1 (by omega)) kw_669 cal_M_refuses inst_M_refuses sel_M_refuses ⟨by decide, by decide⟩ ⟨rfl, rfl⟩ 0 rfl rfl rfl rfl hl.1 (Nat.le_of_ble_eq_true rfl) d_M_nearest_28 ⟨Nat.zero_le _, Nat.zero_le _⟩) rfl rfl rfl (by decide) (fun r_28 u_28 H locs hw hP hD hS => ?_)
    obtain ⟨rfl, hrf28⟩ := hw
    have hP : va_P D pn_cl [(qW, .inl (cI, 22400, .inl (fun z9 => nI (wk z9)))), (qM, .inl (cI, 7, .inl (fun z9 => nI (mn z9)))), (qH, .inl (cI, 2700, .inl (fun z9 => nI (hv z9)))), (qK, .inl (cI, 36480, .inl (fun z9 => nI (kp z9)))), (qJ, .inl (cI, 24, .inl (fun z9 => nI (km z9)))), (qG, .inl (cI, 24, .inl sg)), (oM, .inr (5, [.int (nI 1), .ref qW, .ref qM, .ref qK, .ref qJ, .ref qG, .ref qH, .ref qP, .int (nI pl)]))] H := hP
    have hD : va_D A [(qW, .inl (cI, 22400, .inl (fun z9 => nI (wk z9)))), (qM, .inl (cI, 7, .inl (fun z9 => nI (mn z9)))), (qH, .inl (cI, 2700, .inl (fun z9 => nI (hv z9)))), (qK, .inl (cI, 36480, .inl (fun z9 => nI (kp z9)))), (qJ, .inl (cI, 24, .inl (fun z9 => nI (km z9)))), (qG, .inl (cI, 24, .inl sg)), (oM, .inr (5, [.int (nI 1), .ref qW, .ref qM, .ref qK, .ref qJ, .ref qG, .ref qH, .ref qP, .int (nI pl)]))] := hD
    refine pw_ifb_eq (tgt := 36) hx hb d_M_nearest_31 (by decide) (fun h_31 => ?_) (fun h_31 => ?_)
    · skip
      rw [hrf28] at h_31
      exact absurd h_31 (by decide)
    · skip
      refine lv_iconst (v := nI 0) hx hb d_M_nearest_34 (by decide) ?_
      exact pn_reti ((1, wk, mn, hv, kp, km, sg)) Fx hr hlocks hQ hAe (hP.sub [6, 0, 1, 2, 3, 4, 5] rfl) (hD.sub [6, 0, 1, 2, 3, 4, 5] (by decide) rfl) hS (by (try dsimp only); first | done | exact (Or.inl ⟨rfl, hno, hρ⟩)) d_M_nearest_35
