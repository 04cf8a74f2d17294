theorem pm_rb2 {kp km : Nat → Nat} {sg : Nat → Int32} {ρ : Nat → Int} {r : Nat} (h : pm_regs kp km sg ρ) (hr : r < 24) : (ρ r).natAbs < 2 ^ 20000 ∧ (ρ r).natAbs < 10000 ^ 1506 := ⟨pm_nat2 (h r hr).2.2, pm_1506l (h r hr).2.2⟩
theorem pm_big : (2 : Nat) ^ 43200 = 65536 ^ 2700 := by decide +kernel
theorem pm_up43 {x n : Nat} (h : x < 2 ^ n) (hn : n ≤ 43200) : x < 65536 ^ 2700 := by
  rw [← pm_big]; exact Nat.lt_of_lt_of_le h (Nat.pow_le_pow_right (by decide) hn)
theorem pm_p2 (n : Nat) : 2 ^ n + 2 ^ n = 2 ^ (n + 1) := by rw [Nat.pow_succ]; omega
theorem pm_lim_sum {x y : Nat} {n : Nat} (hx : x < 2 ^ n) (hy : y < 2 ^ n) : x + y < 2 ^ (n + 1) := by have := pm_p2 n; omega
theorem pm_lim_mul {x y n m : Nat} (hx : x < 2 ^ n) (hy : y < 2 ^ m) : x * y < 2 ^ (n + m) := by
  rw [Nat.pow_add]
  exact Nat.mul_lt_mul_of_lt_of_le hx (Nat.le_of_lt hy) (Nat.pow_pos (by decide))
theorem pm_sumabs {v : Bool} {A B : Int} : (pn_sum v A B).natAbs ≤ A.natAbs + B.natAbs := by
  unfold pn_sum; cases v
  · rw [pn_sg_f]; omega
  · rw [pn_sg_t]; omega
theorem pm_push_abs {v : Int} {y : Int32} : (pn_push v y).natAbs = 65536 * (65536 * v.natAbs) + (pn_u y).natAbs := by
  have a := pn_u_nonneg y
  unfold pn_push; split <;> omega
theorem pm_push_sgn {v : Int} {y : Int32} : (v < 0 → pn_cmp (pn_push v y) 0 = -1) ∧ (¬ v < 0 → pn_push v y = 0 ∨ pn_cmp (pn_push v y) 0 = 1) := by
  have a := pn_u_nonneg y
  constructor
  · intro h
    unfold pn_push; rw [if_pos h]; exact pn_cmp_lt (by omega)
  · intro h
    unfold pn_push; rw [if_neg h]
    rcases (show v * 4294967296 + pn_u y = 0 ∨ 0 < v * 4294967296 + pn_u y by omega) with z | z
    · exact Or.inl z
    · exact Or.inr (pn_cmp_gt z)
theorem pm_up_self {ρ : Nat → Int} {k : Nat} : pn_up ρ k (ρ k) = ρ := by
  funext i; by_cases z : i = k
  · subst z; rw [pn_up_s]
  · rw [pn_up_n z]
theorem pm_lt3 {x y : Int32} (h : ¬ 0 ≤ x) : x < 0 := Int32.not_le.mp h

set_option maxHeartbeats 4000000 in
set_option maxRecDepth 100000 in
theorem c_M_set (l : Launch) (D : va_G) (cI cZ cB cJ : ClassId) (sz : Nat) (oM qW qM qK qJ qG qH qP cd pl : Nat) (wk mn : Nat → Nat) (hv kp km : Nat → Nat) (sg : Nat → Int32) (ρ : Nat → Int) (x : Int32) (z : Int) (hz0 : -9223372036854775808 ≤ z) (hz1 : z < 9223372036854775808) (hρ : pm_regs kp km sg ρ) : pn_Ci l D (pn_ty cI cZ cB cJ) y_M_set w_M_set ({ frames := 4, cells := 0, slots := 0, locals := 150 } : Room) [.ref oM, .int x, .long (pn_L z)] [(oM, .inr (5, [.int (nI cd), .ref qW, .ref qM, .ref qK, .ref qJ, .ref qG, .ref qH, .ref qP, .int (nI pl)])), (qW, .inl (cI, 22400, .inl (fun z9 => nI (wk z9)))), (qM, .inl (cI, 7, .inl (fun z9 => nI (mn z9)))), (qH, .inl (cI, 2700, .inl (fun z9 => nI (hv z9)))), (qK, .inl (cI, 36480, .inl (fun z9 => nI (kp z9)))), (qJ, .inl (cI, 24, .inl (fun z9 => nI (km z9)))), (qG, .inl (cI, 24, .inl sg))] sz (S := Nat × (Nat → Nat) × (Nat → Nat) × (Nat → Nat) × (Nat → Nat) × (Nat → Nat) × (Nat → Int32)) (fun r u => (u.1 = 1 ∧ ¬ (pn_isR x) ∧ pm_regs u.2.2.2.2.1 u.2.2.2.2.2.1 u.2.2.2.2.2.2 ρ) ∨ (∃ k, k < 24 ∧ x = nI k ∧ r = nI (pn_lenI z) ∧ u.1 = 0 ∧ pm_regs u.2.2.2.2.1 u.2.2.2.2.2.1 u.2.2.2.2.2.2 (pn_up ρ k z))) (fun u => [(oM, .inr (5, [.int (nI u.1), .ref qW, .ref qM, .ref qK, .ref qJ, .ref qG, .ref qH, .ref qP, .int (nI pl)])), (qW, .inl (cI, 22400, .inl (fun z9 => nI (u.2.1 z9)))), (qM, .inl (cI, 7, .inl (fun z9 => nI (u.2.2.1 z9)))), (qH, .inl (cI, 2700, .inl (fun z9 => nI (u.2.2.2.1 z9)))), (qK, .inl (cI, 36480, .inl (fun z9 => nI (u.2.2.2.2.1 z9)))), (qJ, .inl (cI, 24, .inl (fun z9 => nI (u.2.2.2.2.2.1 z9)))), (qG, .inl (cI, 24, .inl u.2.2.2.2.2.2))]) := by
  refine pn_start (by decide) (Nat.le_of_ble_eq_true rfl) ?_
  intro p e s m below meth c A Q ls hQ hAe Fx hr hlocks hN hK hP hD hS hA hl
  have hx := Fx.1
  have hb := Fx.2.1
  have hl : lv_has ls 4 [(0, .ref oM), (1, .int x), (2, .long (pn_L z))] := hl
  refine lv_aload_n hx hb d_M_set_0 rfl (lv_at hl 0 rfl) ?_
  refine lv_iload_n hx hb d_M_set_1 rfl (lv_at hl 1 rfl) ?_
  refine pn_bi (wr := [(oM, .inr (5, [.int (nI cd), .ref qW, .ref qM, .ref qK, .ref qJ, .ref qG, .ref qH, .ref qP, .int (nI pl)])), (qW, .inl (cI, 22400, .inl (fun z9 => nI (wk z9)))), (qM, .inl (cI, 7, .inl (fun z9 => nI (mn z9)))), (qH, .inl (cI, 2700, .inl (fun z9 => nI (hv z9)))), (qK, .inl (cI, 36480, .inl (fun z9 => nI (kp z9)))), (qJ, .inl (cI, 24, .inl (fun z9 => nI (km z9)))), (qG, .inl (cI, 24, .inl sg))]) [] [0, 1, 2, 3, 4, 5, 6] hP hD hS hA (pn_rS [.int x] [.ref oM] Fx hK hN hP hD [] rfl rfl (c_M_isRegister l D cI cZ cB cJ _ x) kw_666 cal_M_isRegister stat_M_isRegister ⟨by decide, by decide⟩ ⟨rfl, rfl⟩ rfl hl.1 (Nat.le_of_ble_eq_true rfl) d_M_set_2 ⟨Nat.zero_le _, Nat.zero_le _⟩) rfl rfl rfl (by decide) (fun r_2 u_2 H locs hw hP hD hS => ?_)
  obtain ⟨rfl, h2⟩ := hw
  have hP : va_P D pn_cl [(oM, .inr (5, [.int (nI cd), .ref qW, .ref qM, .ref qK, .ref qJ, .ref qG, .ref qH, .ref qP, .int (nI pl)])), (qW, .inl (cI, 22400, .inl (fun z9 => nI (wk z9)))), (qM, .inl (cI, 7, .inl (fun z9 => nI (mn z9)))), (qH, .inl (cI, 2700, .inl (fun z9 => nI (hv z9)))), (qK, .inl (cI, 36480, .inl (fun z9 => nI (kp z9)))), (qJ, .inl (cI, 24, .inl (fun z9 => nI (km z9)))), (qG, .inl (cI, 24, .inl sg))] H := hP
  have hD : va_D A [(oM, .inr (5, [.int (nI cd), .ref qW, .ref qM, .ref qK, .ref qJ, .ref qG, .ref qH, .ref qP, .int (nI pl)])), (qW, .inl (cI, 22400, .inl (fun z9 => nI (wk z9)))), (qM, .inl (cI, 7, .inl (fun z9 => nI (mn z9)))), (qH, .inl (cI, 2700, .inl (fun z9 => nI (hv z9)))), (qK, .inl (cI, 36480, .inl (fun z9 => nI (kp z9)))), (qJ, .inl (cI, 24, .inl (fun z9 => nI (km z9)))), (qG, .inl (cI, 24, .inl sg))] := hD
  refine pw_ifb_eq (tgt := 12) hx hb d_M_set_5 (by decide) (fun h_5 => ?_) (fun h_5 => ?_)
  · skip
    have hno : ¬ pn_isR x := fun q => absurd (h2.mpr q) (by rw [h_5]; decide)
    refine lv_iconst (v := nI 1) hx hb d_M_set_12 (by decide) ?_
    refine pn_bi (wr := [(qW, .inl (cI, 22400, .inl (fun z9 => nI (wk z9)))), (qM, .inl (cI, 7, .inl (fun z9 => nI (mn z9)))), (qH, .inl (cI, 2700, .inl (fun z9 => nI (hv z9)))), (qK, .inl (cI, 36480, .inl (fun z9 => nI (kp z9)))), (qJ, .inl (cI, 24, .inl (fun z9 => nI (km z9)))), (qG, .inl (cI, 24, .inl sg))]) [0] [1, 2, 3, 4, 5, 6] hP hD hS hA (pn_rV [.int (nI 1)] [] Fx hK hN hP hD [0] rfl rfl (c_M_refuses l D cI cZ cB cJ _ oM qW qM qK qJ qG qH qP cd pl 1 (by omega)) kw_669 cal_M_refuses inst_M_refuses sel_M_refuses ⟨by decide, by decide⟩ ⟨rfl, rfl⟩ 0 rfl rfl rfl rfl hl.1 (Nat.le_of_ble_eq_true rfl) d_M_set_13 ⟨Nat.zero_le _, Nat.zero_le _⟩) rfl rfl rfl (by decide) (fun r_13 u_13 H locs hw hP hD hS => ?_)
    obtain ⟨rfl, hrf13⟩ := hw
    have hP : va_P D pn_cl [(qW, .inl (cI, 22400, .inl (fun z9 => nI (wk z9)))), (qM, .inl (cI, 7, .inl (fun z9 => nI (mn z9)))), (qH, .inl (cI, 2700, .inl (fun z9 => nI (hv z9)))), (qK, .inl (cI, 36480, .inl (fun z9 => nI (kp z9)))), (qJ, .inl (cI, 24, .inl (fun z9 => nI (km z9)))), (qG, .inl (cI, 24, .inl sg)), (oM, .inr (5, [.int (nI 1), .ref qW, .ref qM, .ref qK, .ref qJ, .ref qG, .ref qH, .ref qP, .int (nI pl)]))] H := hP
    have hD : va_D A [(qW, .inl (cI, 22400, .inl (fun z9 => nI (wk z9)))), (qM, .inl (cI, 7, .inl (fun z9 => nI (mn z9)))), (qH, .inl (cI, 2700, .inl (fun z9 => nI (hv z9)))), (qK, .inl (cI, 36480, .inl (fun z9 => nI (kp z9)))), (qJ, .inl (cI, 24, .inl (fun z9 => nI (km z9)))), (qG, .inl (cI, 24, .inl sg)), (oM, .inr (5, [.int (nI 1), .ref qW, .ref qM, .ref qK, .ref qJ, .ref qG, .ref qH, .ref qP, .int (nI pl)]))] := hD
    refine pw_ifb_eq (tgt := 21) hx hb d_M_set_16 (by decide) (fun h_16 => ?_) (fun h_16 => ?_)
    · skip
      rw [hrf13] at h_16
      exact absurd h_16 (by decide)
    · skip
      refine lv_iconst (v := nI 0) hx hb d_M_set_19 (by decide) ?_
      exact pn_reti ((1, wk, mn, hv, kp, km, sg)) Fx hr hlocks hQ hAe (hP.sub [6, 0, 1, 2, 3, 4, 5] rfl) (hD.sub [6, 0, 1, 2, 3, 4, 5] (by decide) rfl) hS (by (try dsimp only); first | done | exact (Or.inl ⟨rfl, hno, hρ⟩)) d_M_set_20
  · skip
    obtain ⟨k, hk, rfl⟩ := h2.mp h_5
    refine lv_iconst (v := nI 0) hx hb d_M_set_8 (by decide) ?_
    refine lv_goto (tgt := 13) hx hb d_M_set_9 (by decide) ?_
    refine pn_bi (wr := [(qW, .inl (cI, 22400, .inl (fun z9 => nI (wk z9)))), (qM, .inl (cI, 7, .inl (fun z9 => nI (mn z9)))), (qH, .inl (cI, 2700, .inl (fun z9 => nI (hv z9)))), (qK, .inl (cI, 36480, .inl (fun z9 => nI (kp z9)))), (qJ, .inl (cI, 24, .inl (fun z9 => nI (km z9)))), (qG, .inl (cI, 24, .inl sg))]) [0] [1, 2, 3, 4, 5, 6] hP hD hS hA (pn_rV [.int (nI 0)] [] Fx hK hN hP hD [0] rfl rfl (c_M_refuses l D cI cZ cB cJ _ oM qW qM qK qJ qG qH qP cd pl 0 (by omega)) kw_669 cal_M_refuses inst_M_refuses sel_M_refuses ⟨by decide, by decide⟩ ⟨rfl, rfl⟩ 0 rfl rfl rfl rfl hl.1 (Nat.le_of_ble_eq_true rfl) d_M_set_13 ⟨Nat.zero_le _, Nat.zero_le _⟩) rfl rfl rfl (by decide) (fun r_13 u_13 H locs hw hP hD hS => ?_)
    obtain ⟨rfl, hrf13⟩ := hw
    have hP : va_P D pn_cl [(qW, .inl (cI, 22400, .inl (fun z9 => nI (wk z9)))), (qM, .inl (cI, 7, .inl (fun z9 => nI (mn z9)))), (qH, .inl (cI, 2700, .inl (fun z9 => nI (hv z9)))), (qK, .inl (cI, 36480, .inl (fun z9 => nI (kp z9)))), (qJ, .inl (cI, 24, .inl (fun z9 => nI (km z9)))), (qG, .inl (cI, 24, .inl sg)), (oM, .inr (5, [.int (nI 0), .ref qW, .ref qM, .ref qK, .ref qJ, .ref qG, .ref qH, .ref qP, .int (nI pl)]))] H := hP
    have hD : va_D A [(qW, .inl (cI, 22400, .inl (fun z9 => nI (wk z9)))), (qM, .inl (cI, 7, .inl (fun z9 => nI (mn z9)))), (qH, .inl (cI, 2700, .inl (fun z9 => nI (hv z9)))), (qK, .inl (cI, 36480, .inl (fun z9 => nI (kp z9)))), (qJ, .inl (cI, 24, .inl (fun z9 => nI (km z9)))), (qG, .inl (cI, 24, .inl sg)), (oM, .inr (5, [.int (nI 0), .ref qW, .ref qM, .ref qK, .ref qJ, .ref qG, .ref qH, .ref qP, .int (nI pl)]))] := hD
    refine pw_ifb_eq (tgt := 21) hx hb d_M_set_16 (by decide) (fun h_16 => ?_) (fun h_16 => ?_)
    · skip
      refine lv_aload_n hx hb d_M_set_21 rfl (lv_at hl 0 rfl) ?_
      refine lv_iconst (v := nI 0) hx hb d_M_set_22 (by decide) ?_
      refine lv_lload_n hx hb d_M_set_23 rfl (lv_at hl 2 rfl) ?_
      refine pn_bv (wr := [(qH, .inl (cI, 2700, .inl (fun z9 => nI (hv z9)))), (qK, .inl (cI, 36480, .inl (fun z9 => nI (kp z9)))), (qJ, .inl (cI, 24, .inl (fun z9 => nI (km z9)))), (qG, .inl (cI, 24, .inl sg))]) [6, 0, 1] [2, 3, 4, 5] hP hD hS hA (pn_rV [.int (nI 0), .long (pn_L z)] [] Fx hK hN hP hD [6, 0, 1] rfl rfl (c_M_setLong l D cI cZ cB cJ _ oM qW qM qK qJ qG qH qP 0 pl wk mn 0 z (by omega) hz0 hz1) kw_673 cal_M_setLong inst_M_setLong sel_M_setLong ⟨by decide, by decide⟩ ⟨rfl, rfl⟩ 0 rfl rfl rfl rfl hl.1 (Nat.le_of_ble_eq_true rfl) d_M_set_24 ⟨Nat.zero_le _, Nat.zero_le _⟩) rfl rfl rfl (by decide) (fun u_24 H locs hw hP hD hS => ?_)
      obtain ⟨w1, j1⟩ := u_24
      obtain ⟨hs1, hs2⟩ := hw
      have hP : va_P D pn_cl [(qH, .inl (cI, 2700, .inl (fun z9 => nI (hv z9)))), (qK, .inl (cI, 36480, .inl (fun z9 => nI (kp z9)))), (qJ, .inl (cI, 24, .inl (fun z9 => nI (km z9)))), (qG, .inl (cI, 24, .inl sg)), (oM, .inr (5, [.int (nI 0), .ref qW, .ref qM, .ref qK, .ref qJ, .ref qG, .ref qH, .ref qP, .int (nI pl)])), (qW, .inl (cI, 22400, .inl (fun z9 => nI (w1 z9)))), (qM, .inl (cI, 7, .inl (fun z9 => nI ((pn_up mn 0 j1) z9))))] H := hP
      have hD : va_D A [(qH, .inl (cI, 2700, .inl (fun z9 => nI (hv z9)))), (qK, .inl (cI, 36480, .inl (fun z9 => nI (kp z9)))), (qJ, .inl (cI, 24, .inl (fun z9 => nI (km z9)))), (qG, .inl (cI, 24, .inl sg)), (oM, .inr (5, [.int (nI 0), .ref qW, .ref qM, .ref qK, .ref qJ, .ref qG, .ref qH, .ref qP, .int (nI pl)])), (qW, .inl (cI, 22400, .inl (fun z9 => nI (w1 z9)))), (qM, .inl (cI, 7, .inl (fun z9 => nI ((pn_up mn 0 j1) z9))))] := hD
      dsimp only at hs1
      refine lv_aload_n hx hb d_M_set_27 rfl (lv_at hl 0 rfl) ?_
      refine lv_iload_n hx hb d_M_set_28 rfl (lv_at hl 1 rfl) ?_
      refine lv_iconst (v := nI 0) hx hb d_M_set_29 (by decide) ?_
      refine lv_lload_n hx hb d_M_set_30 rfl (lv_at hl 2 rfl) ?_
      refine lv_lconst (v := pn_L 0) hx hb d_M_set_31 (by decide) ?_
      refine W.lcmp hx hb d_M_set_32 ?_
      refine pw_ifl_ge (a := z) (b := 0) (tgt := 40) hx hb d_M_set_33 (by decide) (by omega) (by omega) (by omega) (by omega) (fun h_33 => ?_) (fun h_33 => ?_)
      · skip
        have hsg : z = 0 ∨ nI 1 = pn_cmp z 0 := by rcases (show z = 0 ∨ 0 < z by omega) with q | q; (· exact Or.inl q); (· exact Or.inr (pn_cmp_gt q).symm)
        refine lv_iconst (v := nI 1) hx hb d_M_set_40 (by decide) ?_
        refine lv_iconst (v := nI 2) hx hb d_M_set_41 (by decide) ?_
        refine pn_bi (wr := []) [4, 5, 6, 0, 1, 2, 3] [] hP hD hS hA (pn_rV [.int (nI k), .int (nI 0), .int (nI 1), .int (nI 2)] [] Fx hK hN hP hD [4, 5, 6, 0, 1, 2, 3] rfl rfl (c_M_put l D cI cZ cB cJ _ oM qW qM qK qJ qG qH qP 0 pl w1 (pn_up mn 0 j1) hv kp km sg (ρ) k 0 2 (nI 1) z (by omega) (by omega) hk (by omega) (by omega) hs1 (pm_up43 (n := 64) (show z.natAbs < 18446744073709551616 by omega) (by decide)) hsg hρ) kw_678 cal_M_put inst_M_put sel_M_put ⟨by decide, by decide⟩ ⟨rfl, rfl⟩ 0 rfl rfl rfl rfl hl.1 (Nat.le_of_ble_eq_true rfl) d_M_set_42 ⟨Nat.zero_le _, Nat.zero_le _⟩) rfl rfl rfl (by decide) (fun r_42 u_42 H locs hw hP hD hS => ?_)
        obtain ⟨c8, w8, m8, h8, kp8, km8, sg8⟩ := u_42
        obtain ⟨hK42, hp42⟩ := hw
        have hP : va_P D pn_cl [(oM, .inr (5, [.int (nI c8), .ref qW, .ref qM, .ref qK, .ref qJ, .ref qG, .ref qH, .ref qP, .int (nI pl)])), (qW, .inl (cI, 22400, .inl (fun z9 => nI (w8 z9)))), (qM, .inl (cI, 7, .inl (fun z9 => nI (m8 z9)))), (qH, .inl (cI, 2700, .inl (fun z9 => nI (h8 z9)))), (qK, .inl (cI, 36480, .inl (fun z9 => nI (kp8 z9)))), (qJ, .inl (cI, 24, .inl (fun z9 => nI (km8 z9)))), (qG, .inl (cI, 24, .inl sg8))] H := hP
        have hD : va_D A [(oM, .inr (5, [.int (nI c8), .ref qW, .ref qM, .ref qK, .ref qJ, .ref qG, .ref qH, .ref qP, .int (nI pl)])), (qW, .inl (cI, 22400, .inl (fun z9 => nI (w8 z9)))), (qM, .inl (cI, 7, .inl (fun z9 => nI (m8 z9)))), (qH, .inl (cI, 2700, .inl (fun z9 => nI (h8 z9)))), (qK, .inl (cI, 36480, .inl (fun z9 => nI (kp8 z9)))), (qJ, .inl (cI, 24, .inl (fun z9 => nI (km8 z9)))), (qG, .inl (cI, 24, .inl sg8))] := hD
        dsimp only at hK42 hp42
        exact pn_reti ((c8, w8, m8, h8, kp8, km8, sg8)) Fx hr hlocks hQ hAe hP hD hS (by (try dsimp only); first | done | exact (Or.inr ⟨k, hk, rfl, (hp42.resolve_right (fun q => absurd q.1 (Nat.not_lt.mpr (pn_lenI_long hz0 hz1)))).2⟩)) d_M_set_45
      · skip
        have hsg : z = 0 ∨ (-1) = pn_cmp z 0 := Or.inr (pn_cmp_lt h_33).symm
        refine lv_iconst (v := (-1)) hx hb d_M_set_36 (by decide) ?_
        refine lv_goto (tgt := 41) hx hb d_M_set_37 (by decide) ?_
        refine lv_iconst (v := nI 2) hx hb d_M_set_41 (by decide) ?_
        refine pn_bi (wr := []) [4, 5, 6, 0, 1, 2, 3] [] hP hD hS hA (pn_rV [.int (nI k), .int (nI 0), .int (-1), .int (nI 2)] [] Fx hK hN hP hD [4, 5, 6, 0, 1, 2, 3] rfl rfl (c_M_put l D cI cZ cB cJ _ oM qW qM qK qJ qG qH qP 0 pl w1 (pn_up mn 0 j1) hv kp km sg (ρ) k 0 2 (-1) z (by omega) (by omega) hk (by omega) (by omega) hs1 (pm_up43 (n := 64) (show z.natAbs < 18446744073709551616 by omega) (by decide)) hsg hρ) kw_678 cal_M_put inst_M_put sel_M_put ⟨by decide, by decide⟩ ⟨rfl, rfl⟩ 0 rfl rfl rfl rfl hl.1 (Nat.le_of_ble_eq_true rfl) d_M_set_42 ⟨Nat.zero_le _, Nat.zero_le _⟩) rfl rfl rfl (by decide) (fun r_42 u_42 H locs hw hP hD hS => ?_)
        obtain ⟨c8, w8, m8, h8, kp8, km8, sg8⟩ := u_42
        obtain ⟨hK42, hp42⟩ := hw
        have hP : va_P D pn_cl [(oM, .inr (5, [.int (nI c8), .ref qW, .ref qM, .ref qK, .ref qJ, .ref qG, .ref qH, .ref qP, .int (nI pl)])), (qW, .inl (cI, 22400, .inl (fun z9 => nI (w8 z9)))), (qM, .inl (cI, 7, .inl (fun z9 => nI (m8 z9)))), (qH, .inl (cI, 2700, .inl (fun z9 => nI (h8 z9)))), (qK, .inl (cI, 36480, .inl (fun z9 => nI (kp8 z9)))), (qJ, .inl (cI, 24, .inl (fun z9 => nI (km8 z9)))), (qG, .inl (cI, 24, .inl sg8))] H := hP
        have hD : va_D A [(oM, .inr (5, [.int (nI c8), .ref qW, .ref qM, .ref qK, .ref qJ, .ref qG, .ref qH, .ref qP, .int (nI pl)])), (qW, .inl (cI, 22400, .inl (fun z9 => nI (w8 z9)))), (qM, .inl (cI, 7, .inl (fun z9 => nI (m8 z9)))), (qH, .inl (cI, 2700, .inl (fun z9 => nI (h8 z9)))), (qK, .inl (cI, 36480, .inl (fun z9 => nI (kp8 z9)))), (qJ, .inl (cI, 24, .inl (fun z9 => nI (km8 z9)))), (qG, .inl (cI, 24, .inl sg8))] := hD
        dsimp only at hK42 hp42
        exact pn_reti ((c8, w8, m8, h8, kp8, km8, sg8)) Fx hr hlocks hQ hAe hP hD hS (by (try dsimp only); first | done | exact (Or.inr ⟨k, hk, rfl, (hp42.resolve_right (fun q => absurd q.1 (Nat.not_lt.mpr (pn_lenI_long hz0 hz1)))).2⟩)) d_M_set_45
    · skip
      rw [hrf13] at h_16
      exact absurd h_16 (by decide)

set_option maxHeartbeats 4000000 in
set_option maxRecDepth 100000 in
theorem c_M_push (l : Launch) (D : va_G) (cI cZ cB cJ : ClassId) (sz : Nat) (oM qW qM qK qJ qG qH qP cd pl : Nat) (wk mn : Nat → Nat) (hv kp km : Nat → Nat) (sg : Nat → Int32) (ρ : Nat → Int) (x y : Int32) (hρ : pm_regs kp km sg ρ) : pn_Ci l D (pn_ty cI cZ cB cJ) y_M_push w_M_push ({ frames := 4, cells := 0, slots := 0, locals := 150 } : Room) [.ref oM, .int x, .int y] [(oM, .inr (5, [.int (nI cd), .ref qW, .ref qM, .ref qK, .ref qJ, .ref qG, .ref qH, .ref qP, .int (nI pl)])), (qW, .inl (cI, 22400, .inl (fun z9 => nI (wk z9)))), (qM, .inl (cI, 7, .inl (fun z9 => nI (mn z9)))), (qH, .inl (cI, 2700, .inl (fun z9 => nI (hv z9)))), (qK, .inl (cI, 36480, .inl (fun z9 => nI (kp z9)))), (qJ, .inl (cI, 24, .inl (fun z9 => nI (km z9)))), (qG, .inl (cI, 24, .inl sg))] sz (S := Nat × (Nat → Nat) × (Nat → Nat) × (Nat → Nat) × (Nat → Nat) × (Nat → Nat) × (Nat → Int32)) (fun r u => (u.1 = 1 ∧ ¬ (pn_isR x) ∧ pm_regs u.2.2.2.2.1 u.2.2.2.2.2.1 u.2.2.2.2.2.2 ρ) ∨ (∃ k, k < 24 ∧ x = nI k ∧ ((pn_lenI (pn_push (ρ k) y) ≤ 20000 ∧ r = nI (pn_lenI (pn_push (ρ k) y)) ∧ u.1 = 0 ∧ pm_regs u.2.2.2.2.1 u.2.2.2.2.2.1 u.2.2.2.2.2.2 (pn_up ρ k (pn_push (ρ k) y))) ∨ (20000 < pn_lenI (pn_push (ρ k) y) ∧ u.1 = 2 ∧ pm_regs u.2.2.2.2.1 u.2.2.2.2.2.1 u.2.2.2.2.2.2 ρ)))) (fun u => [(oM, .inr (5, [.int (nI u.1), .ref qW, .ref qM, .ref qK, .ref qJ, .ref qG, .ref qH, .ref qP, .int (nI pl)])), (qW, .inl (cI, 22400, .inl (fun z9 => nI (u.2.1 z9)))), (qM, .inl (cI, 7, .inl (fun z9 => nI (u.2.2.1 z9)))), (qH, .inl (cI, 2700, .inl (fun z9 => nI (u.2.2.2.1 z9)))), (qK, .inl (cI, 36480, .inl (fun z9 => nI (u.2.2.2.2.1 z9)))), (qJ, .inl (cI, 24, .inl (fun z9 => nI (u.2.2.2.2.2.1 z9)))), (qG, .inl (cI, 24, .inl u.2.2.2.2.2.2))]) := by
  refine pn_start (by decide) (Nat.le_of_ble_eq_true rfl) ?_
  intro p e s m below meth c A Q ls hQ hAe Fx hr hlocks hN hK hP hD hS hA hl
  have hx := Fx.1
  have hb := Fx.2.1
  have hl : lv_has ls 3 [(0, .ref oM), (1, .int x), (2, .int y)] := hl
  refine lv_aload_n hx hb d_M_push_0 rfl (lv_at hl 0 rfl) ?_
  refine lv_iload_n hx hb d_M_push_1 rfl (lv_at hl 1 rfl) ?_
  refine pn_bi (wr := [(oM, .inr (5, [.int (nI cd), .ref qW, .ref qM, .ref qK, .ref qJ, .ref qG, .ref qH, .ref qP, .int (nI pl)])), (qW, .inl (cI, 22400, .inl (fun z9 => nI (wk z9)))), (qM, .inl (cI, 7, .inl (fun z9 => nI (mn z9)))), (qH, .inl (cI, 2700, .inl (fun z9 => nI (hv z9)))), (qK, .inl (cI, 36480, .inl (fun z9 => nI (kp z9)))), (qJ, .inl (cI, 24, .inl (fun z9 => nI (km z9)))), (qG, .inl (cI, 24, .inl sg))]) [] [0, 1, 2, 3, 4, 5, 6] hP hD hS hA (pn_rS [.int x] [.ref oM] Fx hK hN hP hD [] rfl rfl (c_M_isRegister l D cI cZ cB cJ _ x) kw_666 cal_M_isRegister stat_M_isRegister ⟨by decide, by decide⟩ ⟨rfl, rfl⟩ rfl hl.1 (Nat.le_of_ble_eq_true rfl) d_M_push_2 ⟨Nat.zero_le _, Nat.zero_le _⟩) rfl rfl rfl (by decide) (fun r_2 u_2 H locs hw hP hD hS => ?_)
  obtain ⟨rfl, h2⟩ := hw
  have hP : va_P D pn_cl [(oM, .inr (5, [.int (nI cd), .ref qW, .ref qM, .ref qK, .ref qJ, .ref qG, .ref qH, .ref qP, .int (nI pl)])), (qW, .inl (cI, 22400, .inl (fun z9 => nI (wk z9)))), (qM, .inl (cI, 7, .inl (fun z9 => nI (mn z9)))), (qH, .inl (cI, 2700, .inl (fun z9 => nI (hv z9)))), (qK, .inl (cI, 36480, .inl (fun z9 => nI (kp z9)))), (qJ, .inl (cI, 24, .inl (fun z9 => nI (km z9)))), (qG, .inl (cI, 24, .inl sg))] H := hP
  have hD : va_D A [(oM, .inr (5, [.int (nI cd), .ref qW, .ref qM, .ref qK, .ref qJ, .ref qG, .ref qH, .ref qP, .int (nI pl)])), (qW, .inl (cI, 22400, .inl (fun z9 => nI (wk z9)))), (qM, .inl (cI, 7, .inl (fun z9 => nI (mn z9)))), (qH, .inl (cI, 2700, .inl (fun z9 => nI (hv z9)))), (qK, .inl (cI, 36480, .inl (fun z9 => nI (kp z9)))), (qJ, .inl (cI, 24, .inl (fun z9 => nI (km z9)))), (qG, .inl (cI, 24, .inl sg))] := hD
  refine pw_ifb_eq (tgt := 12) hx hb d_M_push_5 (by decide) (fun h_5 => ?_) (fun h_5 => ?_)
  · skip
    have hno : ¬ pn_isR x := fun q => absurd (h2.mpr q) (by rw [h_5]; decide)
    refine lv_iconst (v := nI 1) hx hb d_M_push_12 (by decide) ?_
    refine pn_bi (wr := [(qW, .inl (cI, 22400, .inl (fun z9 => nI (wk z9)))), (qM, .inl (cI, 7, .inl (fun z9 => nI (mn z9)))), (qH, .inl (cI, 2700, .inl (fun z9 => nI (hv z9)))), (qK, .inl (cI, 36480, .inl (fun z9 => nI (kp z9)))), (qJ, .inl (cI, 24, .inl (fun z9 => nI (km z9)))), (qG, .inl (cI, 24, .inl sg))]) [0] [1, 2, 3, 4, 5, 6] hP hD hS hA (pn_rV [.int (nI 1)] [] Fx hK hN hP hD [0] rfl rfl (c_M_refuses l D cI cZ cB cJ _ oM qW qM qK qJ qG qH qP cd pl 1 (by omega)) kw_669 cal_M_refuses inst_M_refuses sel_M_refuses ⟨by decide, by decide⟩ ⟨rfl, rfl⟩ 0 rfl rfl rfl rfl hl.1 (Nat.le_of_ble_eq_true rfl) d_M_push_13 ⟨Nat.zero_le _, Nat.zero_le _⟩) rfl rfl rfl (by decide) (fun r_13 u_13 H locs hw hP hD hS => ?_)
    obtain ⟨rfl, hrf13⟩ := hw
    have hP : va_P D pn_cl [(qW, .inl (cI, 22400, .inl (fun z9 => nI (wk z9)))), (qM, .inl (cI, 7, .inl (fun z9 => nI (mn z9)))), (qH, .inl (cI, 2700, .inl (fun z9 => nI (hv z9)))), (qK, .inl (cI, 36480, .inl (fun z9 => nI (kp z9)))), (qJ, .inl (cI, 24, .inl (fun z9 => nI (km z9)))), (qG, .inl (cI, 24, .inl sg)), (oM, .inr (5, [.int (nI 1), .ref qW, .ref qM, .ref qK, .ref qJ, .ref qG, .ref qH, .ref qP, .int (nI pl)]))] H := hP
    have hD : va_D A [(qW, .inl (cI, 22400, .inl (fun z9 => nI (wk z9)))), (qM, .inl (cI, 7, .inl (fun z9 => nI (mn z9)))), (qH, .inl (cI, 2700, .inl (fun z9 => nI (hv z9)))), (qK, .inl (cI, 36480, .inl (fun z9 => nI (kp z9)))), (qJ, .inl (cI, 24, .inl (fun z9 => nI (km z9)))), (qG, .inl (cI, 24, .inl sg)), (oM, .inr (5, [.int (nI 1), .ref qW, .ref qM, .ref qK, .ref qJ, .ref qG, .ref qH, .ref qP, .int (nI pl)]))] := hD
    refine pw_ifb_eq (tgt := 21) hx hb d_M_push_16 (by decide) (fun h_16 => ?_) (fun h_16 => ?_)
    · skip
      rw [hrf13] at h_16
      exact absurd h_16 (by decide)
    · skip
      refine lv_iconst (v := nI 0) hx hb d_M_push_19 (by decide) ?_
      exact pn_reti ((1, wk, mn, hv, kp, km, sg)) Fx hr hlocks hQ hAe (hP.sub [6, 0, 1, 2, 3, 4, 5] rfl) (hD.sub [6, 0, 1, 2, 3, 4, 5] (by decide) rfl) hS (by (try dsimp only); first | done | exact (Or.inl ⟨rfl, hno, hρ⟩)) d_M_push_20
  · skip
    obtain ⟨k, hk, rfl⟩ := h2.mp h_5
    refine lv_iconst (v := nI 0) hx hb d_M_push_8 (by decide) ?_
    refine lv_goto (tgt := 13) hx hb d_M_push_9 (by decide) ?_
    refine pn_bi (wr := [(qW, .inl (cI, 22400, .inl (fun z9 => nI (wk z9)))), (qM, .inl (cI, 7, .inl (fun z9 => nI (mn z9)))), (qH, .inl (cI, 2700, .inl (fun z9 => nI (hv z9)))), (qK, .inl (cI, 36480, .inl (fun z9 => nI (kp z9)))), (qJ, .inl (cI, 24, .inl (fun z9 => nI (km z9)))), (qG, .inl (cI, 24, .inl sg))]) [0] [1, 2, 3, 4, 5, 6] hP hD hS hA (pn_rV [.int (nI 0)] [] Fx hK hN hP hD [0] rfl rfl (c_M_refuses l D cI cZ cB cJ _ oM qW qM qK qJ qG qH qP cd pl 0 (by omega)) kw_669 cal_M_refuses inst_M_refuses sel_M_refuses ⟨by decide, by decide⟩ ⟨rfl, rfl⟩ 0 rfl rfl rfl rfl hl.1 (Nat.le_of_ble_eq_true rfl) d_M_push_13 ⟨Nat.zero_le _, Nat.zero_le _⟩) rfl rfl rfl (by decide) (fun r_13 u_13 H locs hw hP hD hS => ?_)
    obtain ⟨rfl, hrf13⟩ := hw
    have hP : va_P D pn_cl [(qW, .inl (cI, 22400, .inl (fun z9 => nI (wk z9)))), (qM, .inl (cI, 7, .inl (fun z9 => nI (mn z9)))), (qH, .inl (cI, 2700, .inl (fun z9 => nI (hv z9)))), (qK, .inl (cI, 36480, .inl (fun z9 => nI (kp z9)))), (qJ, .inl (cI, 24, .inl (fun z9 => nI (km z9)))), (qG, .inl (cI, 24, .inl sg)), (oM, .inr (5, [.int (nI 0), .ref qW, .ref qM, .ref qK, .ref qJ, .ref qG, .ref qH, .ref qP, .int (nI pl)]))] H := hP
    have hD : va_D A [(qW, .inl (cI, 22400, .inl (fun z9 => nI (wk z9)))), (qM, .inl (cI, 7, .inl (fun z9 => nI (mn z9)))), (qH, .inl (cI, 2700, .inl (fun z9 => nI (hv z9)))), (qK, .inl (cI, 36480, .inl (fun z9 => nI (kp z9)))), (qJ, .inl (cI, 24, .inl (fun z9 => nI (km z9)))), (qG, .inl (cI, 24, .inl sg)), (oM, .inr (5, [.int (nI 0), .ref qW, .ref qM, .ref qK, .ref qJ, .ref qG, .ref qH, .ref qP, .int (nI pl)]))] := hD
    refine pw_ifb_eq (tgt := 21) hx hb d_M_push_16 (by decide) (fun h_16 => ?_) (fun h_16 => ?_)
    · skip
      refine lv_aload_n hx hb d_M_push_21 rfl (lv_at hl 0 rfl) ?_
      refine lv_iconst (v := nI 0) hx hb d_M_push_22 (by decide) ?_
      refine lv_iload_n hx hb d_M_push_23 rfl (lv_at hl 1 rfl) ?_
      refine pn_bv (wr := [(qH, .inl (cI, 2700, .inl (fun z9 => nI (hv z9)))), (qG, .inl (cI, 24, .inl sg))]) [6, 0, 1, 3, 4] [2, 5] hP hD hS hA (pn_rV [.int (nI 0), .int (nI k)] [] Fx hK hN hP hD [6, 0, 1, 3, 4] rfl rfl (c_M_load l D cI cZ cB cJ _ oM qW qM qK qJ qG qH qP 0 pl wk mn kp km 0 k ((ρ k).natAbs) (by omega) hk (hρ k hk).1) kw_703 cal_M_load inst_M_load sel_M_load ⟨by decide, by decide⟩ ⟨rfl, rfl⟩ 0 rfl rfl rfl rfl hl.1 (Nat.le_of_ble_eq_true rfl) d_M_push_24 ⟨Nat.zero_le _, Nat.zero_le _⟩) rfl rfl rfl (by decide) (fun u_24 H locs hw hP hD hS => ?_)
      obtain ⟨hn24, hK24⟩ := hw
      have hP : va_P D pn_cl [(qH, .inl (cI, 2700, .inl (fun z9 => nI (hv z9)))), (qG, .inl (cI, 24, .inl sg)), (oM, .inr (5, [.int (nI 0), .ref qW, .ref qM, .ref qK, .ref qJ, .ref qG, .ref qH, .ref qP, .int (nI pl)])), (qW, .inl (cI, 22400, .inl (fun z9 => nI (u_24 z9)))), (qM, .inl (cI, 7, .inl (fun z9 => nI ((pn_up mn 0 (km k)) z9)))), (qK, .inl (cI, 36480, .inl (fun z9 => nI (kp z9)))), (qJ, .inl (cI, 24, .inl (fun z9 => nI (km z9))))] H := hP
      have hD : va_D A [(qH, .inl (cI, 2700, .inl (fun z9 => nI (hv z9)))), (qG, .inl (cI, 24, .inl sg)), (oM, .inr (5, [.int (nI 0), .ref qW, .ref qM, .ref qK, .ref qJ, .ref qG, .ref qH, .ref qP, .int (nI pl)])), (qW, .inl (cI, 22400, .inl (fun z9 => nI (u_24 z9)))), (qM, .inl (cI, 7, .inl (fun z9 => nI ((pn_up mn 0 (km k)) z9)))), (qK, .inl (cI, 36480, .inl (fun z9 => nI (kp z9)))), (qJ, .inl (cI, 24, .inl (fun z9 => nI (km z9))))] := hD
      have hb31 := (pm_rb2 hρ hk).1
      have hb38 : 65536 * (ρ k).natAbs < 2 ^ 20017 := pm_lim_mul (n := 17) (by decide) hb31
      have hyb : (pn_u y).natAbs < 2 ^ 20034 := Nat.lt_trans (show (pn_u y).natAbs < 4294967296 by have := pn_u_lt y; have := pn_u_nonneg y; omega) (by decide +kernel)
      have hlp : (pn_push (ρ k) y).natAbs < 65536 ^ 2700 := by rw [pm_push_abs]; exact pm_up43 (pm_lim_sum (pm_lim_mul (n := 17) (by decide) hb38) hyb) (by decide)
      have hsk := (hρ k hk).2.1
      refine lv_aload_n hx hb d_M_push_27 rfl (lv_at hl 0 rfl) ?_
      refine lv_iconst (v := nI 0) hx hb d_M_push_28 (by decide) ?_
      refine lv_ldc hx hb Fx.2.2.2.1 (Fx.2.2.2.2 _ kw_694) d_M_push_29 ?_
      refine pn_topi (nI 65536) (by decide) ?_
      refine pn_bv (wr := [(qH, .inl (cI, 2700, .inl (fun z9 => nI (hv z9)))), (qG, .inl (cI, 24, .inl sg)), (qK, .inl (cI, 36480, .inl (fun z9 => nI (kp z9)))), (qJ, .inl (cI, 24, .inl (fun z9 => nI (km z9))))]) [2, 3, 4] [0, 1, 5, 6] hP hD hS hA (pn_rV [.int (nI 0), .int (nI 65536)] [] Fx hK hN hP hD [2, 3, 4] rfl rfl (c_M_small l D cI cZ cB cJ _ oM qW qM qK qJ qG qH qP 0 pl u_24 (pn_up mn 0 (km k)) 0 65536 (ρ k).natAbs (by omega) (by omega) hn24 (Nat.lt_trans hb38 (by decide +kernel))) kw_707 cal_M_small inst_M_small sel_M_small ⟨by decide, by decide⟩ ⟨rfl, rfl⟩ 0 rfl rfl rfl rfl hl.1 (Nat.le_of_ble_eq_true rfl) d_M_push_31 ⟨Nat.zero_le _, Nat.zero_le _⟩) rfl rfl rfl (by decide) (fun u_31 H locs hw hP hD hS => ?_)
      obtain ⟨w31, j31⟩ := u_31
      obtain ⟨hs31, hS31⟩ := hw
      have hP : va_P D pn_cl [(qH, .inl (cI, 2700, .inl (fun z9 => nI (hv z9)))), (qG, .inl (cI, 24, .inl sg)), (qK, .inl (cI, 36480, .inl (fun z9 => nI (kp z9)))), (qJ, .inl (cI, 24, .inl (fun z9 => nI (km z9)))), (oM, .inr (5, [.int (nI 0), .ref qW, .ref qM, .ref qK, .ref qJ, .ref qG, .ref qH, .ref qP, .int (nI pl)])), (qW, .inl (cI, 22400, .inl (fun z9 => nI (w31 z9)))), (qM, .inl (cI, 7, .inl (fun z9 => nI ((pn_up (pn_up mn 0 (km k)) 0 j31) z9))))] H := hP
      have hD : va_D A [(qH, .inl (cI, 2700, .inl (fun z9 => nI (hv z9)))), (qG, .inl (cI, 24, .inl sg)), (qK, .inl (cI, 36480, .inl (fun z9 => nI (kp z9)))), (qJ, .inl (cI, 24, .inl (fun z9 => nI (km z9)))), (oM, .inr (5, [.int (nI 0), .ref qW, .ref qM, .ref qK, .ref qJ, .ref qG, .ref qH, .ref qP, .int (nI pl)])), (qW, .inl (cI, 22400, .inl (fun z9 => nI (w31 z9)))), (qM, .inl (cI, 7, .inl (fun z9 => nI ((pn_up (pn_up mn 0 (km k)) 0 j31) z9))))] := hD
      dsimp only at hs31 hS31
      refine lv_aload_n hx hb d_M_push_34 rfl (lv_at hl 0 rfl) ?_
      refine lv_iconst (v := nI 0) hx hb d_M_push_35 (by decide) ?_
      refine lv_ldc hx hb Fx.2.2.2.1 (Fx.2.2.2.2 _ kw_694) d_M_push_36 ?_
      refine pn_topi (nI 65536) (by decide) ?_
      refine pn_bv (wr := [(qH, .inl (cI, 2700, .inl (fun z9 => nI (hv z9)))), (qG, .inl (cI, 24, .inl sg)), (qK, .inl (cI, 36480, .inl (fun z9 => nI (kp z9)))), (qJ, .inl (cI, 24, .inl (fun z9 => nI (km z9))))]) [4, 5, 6] [0, 1, 2, 3] hP hD hS hA (pn_rV [.int (nI 0), .int (nI 65536)] [] Fx hK hN hP hD [4, 5, 6] rfl rfl (c_M_small l D cI cZ cB cJ _ oM qW qM qK qJ qG qH qP 0 pl w31 (pn_up (pn_up mn 0 (km k)) 0 j31) 0 65536 (65536 * (ρ k).natAbs) (by omega) (by omega) hs31 (Nat.lt_trans (pm_lim_mul (n := 17) (m := 20017) (by decide) hb38) (by decide +kernel))) kw_707 cal_M_small inst_M_small sel_M_small ⟨by decide, by decide⟩ ⟨rfl, rfl⟩ 0 rfl rfl rfl rfl hl.1 (Nat.le_of_ble_eq_true rfl) d_M_push_38 ⟨Nat.zero_le _, Nat.zero_le _⟩) rfl rfl rfl (by decide) (fun u_38 H locs hw hP hD hS => ?_)
      obtain ⟨w38, j38⟩ := u_38
      obtain ⟨hs38, hS38⟩ := hw
      have hP : va_P D pn_cl [(qH, .inl (cI, 2700, .inl (fun z9 => nI (hv z9)))), (qG, .inl (cI, 24, .inl sg)), (qK, .inl (cI, 36480, .inl (fun z9 => nI (kp z9)))), (qJ, .inl (cI, 24, .inl (fun z9 => nI (km z9)))), (oM, .inr (5, [.int (nI 0), .ref qW, .ref qM, .ref qK, .ref qJ, .ref qG, .ref qH, .ref qP, .int (nI pl)])), (qW, .inl (cI, 22400, .inl (fun z9 => nI (w38 z9)))), (qM, .inl (cI, 7, .inl (fun z9 => nI ((pn_up (pn_up (pn_up mn 0 (km k)) 0 j31) 0 j38) z9))))] H := hP
      have hD : va_D A [(qH, .inl (cI, 2700, .inl (fun z9 => nI (hv z9)))), (qG, .inl (cI, 24, .inl sg)), (qK, .inl (cI, 36480, .inl (fun z9 => nI (kp z9)))), (qJ, .inl (cI, 24, .inl (fun z9 => nI (km z9)))), (oM, .inr (5, [.int (nI 0), .ref qW, .ref qM, .ref qK, .ref qJ, .ref qG, .ref qH, .ref qP, .int (nI pl)])), (qW, .inl (cI, 22400, .inl (fun z9 => nI (w38 z9)))), (qM, .inl (cI, 7, .inl (fun z9 => nI ((pn_up (pn_up (pn_up mn 0 (km k)) 0 j31) 0 j38) z9))))] := hD
      dsimp only at hs38 hS38
      refine lv_aload_n hx hb d_M_push_41 rfl (lv_at hl 0 rfl) ?_
      refine lv_iconst (v := nI 4) hx hb d_M_push_42 (by decide) ?_
      refine lv_iload_n hx hb d_M_push_43 rfl (lv_at hl 2 rfl) ?_
      refine pw_i2l hx hb d_M_push_44 ?_
      refine lv_ldc2 hx hb Fx.2.2.2.1 (Fx.2.2.2.2 _ kw_711) d_M_push_45 ?_
      refine pw_limb hx hb d_M_push_48 ?_
      refine pn_bv (wr := [(qH, .inl (cI, 2700, .inl (fun z9 => nI (hv z9)))), (qG, .inl (cI, 24, .inl sg)), (qK, .inl (cI, 36480, .inl (fun z9 => nI (kp z9)))), (qJ, .inl (cI, 24, .inl (fun z9 => nI (km z9))))]) [4, 5, 6] [0, 1, 2, 3] hP hD hS hA (pn_rV [.int (nI 4), .long (pn_L (pn_u y))] [] Fx hK hN hP hD [4, 5, 6] rfl rfl (c_M_setLong l D cI cZ cB cJ _ oM qW qM qK qJ qG qH qP 0 pl w38 (pn_up (pn_up (pn_up mn 0 (km k)) 0 j31) 0 j38) 4 (pn_u y) (by omega) (by have := pn_u_nonneg y; omega) (by have := pn_u_lt y; omega)) kw_673 cal_M_setLong inst_M_setLong sel_M_setLong ⟨by decide, by decide⟩ ⟨rfl, rfl⟩ 0 rfl rfl rfl rfl hl.1 (Nat.le_of_ble_eq_true rfl) d_M_push_49 ⟨Nat.zero_le _, Nat.zero_le _⟩) rfl rfl rfl (by decide) (fun u_49 H locs hw hP hD hS => ?_)
      obtain ⟨w49, j49⟩ := u_49
      obtain ⟨hs49, hS49⟩ := hw
      have hP : va_P D pn_cl [(qH, .inl (cI, 2700, .inl (fun z9 => nI (hv z9)))), (qG, .inl (cI, 24, .inl sg)), (qK, .inl (cI, 36480, .inl (fun z9 => nI (kp z9)))), (qJ, .inl (cI, 24, .inl (fun z9 => nI (km z9)))), (oM, .inr (5, [.int (nI 0), .ref qW, .ref qM, .ref qK, .ref qJ, .ref qG, .ref qH, .ref qP, .int (nI pl)])), (qW, .inl (cI, 22400, .inl (fun z9 => nI (w49 z9)))), (qM, .inl (cI, 7, .inl (fun z9 => nI ((pn_up (pn_up (pn_up (pn_up mn 0 (km k)) 0 j31) 0 j38) 4 j49) z9))))] H := hP
      have hD : va_D A [(qH, .inl (cI, 2700, .inl (fun z9 => nI (hv z9)))), (qG, .inl (cI, 24, .inl sg)), (qK, .inl (cI, 36480, .inl (fun z9 => nI (kp z9)))), (qJ, .inl (cI, 24, .inl (fun z9 => nI (km z9)))), (oM, .inr (5, [.int (nI 0), .ref qW, .ref qM, .ref qK, .ref qJ, .ref qG, .ref qH, .ref qP, .int (nI pl)])), (qW, .inl (cI, 22400, .inl (fun z9 => nI (w49 z9)))), (qM, .inl (cI, 7, .inl (fun z9 => nI ((pn_up (pn_up (pn_up (pn_up mn 0 (km k)) 0 j31) 0 j38) 4 j49) z9))))] := hD
      dsimp only at hs49 hS49
      have hs0 := hS49 0 _ (by omega) hs38
      refine lv_aload_n hx hb d_M_push_52 rfl (lv_at hl 0 rfl) ?_
      refine lv_iconst (v := nI 0) hx hb d_M_push_53 (by decide) ?_
      refine lv_iconst (v := nI 4) hx hb d_M_push_54 (by decide) ?_
      refine pn_bv (wr := [(qH, .inl (cI, 2700, .inl (fun z9 => nI (hv z9)))), (qG, .inl (cI, 24, .inl sg)), (qK, .inl (cI, 36480, .inl (fun z9 => nI (kp z9)))), (qJ, .inl (cI, 24, .inl (fun z9 => nI (km z9))))]) [4, 5, 6] [0, 1, 2, 3] hP hD hS hA (pn_rV [.int (nI 0), .int (nI 4)] [] Fx hK hN hP hD [4, 5, 6] rfl rfl (c_M_addTo l D cI cZ cB cJ _ oM qW qM qK qJ qG qH qP 0 pl w49 (pn_up (pn_up (pn_up (pn_up mn 0 (km k)) 0 j31) 0 j38) 4 j49) 0 4 (65536 * (65536 * (ρ k).natAbs)) (pn_u y).natAbs (by omega) (by omega) (by omega) hs0 hs49 (Nat.le_trans (pm_N_cnt (m := 2000) hs0 (Nat.lt_trans (pm_lim_mul (n := 17) (m := 20017) (by decide) hb38) (by decide +kernel))) (by decide)) (Nat.le_trans (pm_N_cnt (m := 3) hs49 (by have := pn_u_lt y; have := pn_u_nonneg y; have : 10000 ^ 3 = 1000000000000 := rfl; omega)) (by decide))) kw_712 cal_M_addTo inst_M_addTo sel_M_addTo ⟨by decide, by decide⟩ ⟨rfl, rfl⟩ 0 rfl rfl rfl rfl hl.1 (Nat.le_of_ble_eq_true rfl) d_M_push_55 ⟨Nat.zero_le _, Nat.zero_le _⟩) rfl rfl rfl (by decide) (fun u_55 H locs hw hP hD hS => ?_)
      obtain ⟨w55, j55⟩ := u_55
      obtain ⟨hs55, hS55⟩ := hw
      have hP : va_P D pn_cl [(qH, .inl (cI, 2700, .inl (fun z9 => nI (hv z9)))), (qG, .inl (cI, 24, .inl sg)), (qK, .inl (cI, 36480, .inl (fun z9 => nI (kp z9)))), (qJ, .inl (cI, 24, .inl (fun z9 => nI (km z9)))), (oM, .inr (5, [.int (nI 0), .ref qW, .ref qM, .ref qK, .ref qJ, .ref qG, .ref qH, .ref qP, .int (nI pl)])), (qW, .inl (cI, 22400, .inl (fun z9 => nI (w55 z9)))), (qM, .inl (cI, 7, .inl (fun z9 => nI ((pn_up (pn_up (pn_up (pn_up (pn_up mn 0 (km k)) 0 j31) 0 j38) 4 j49) 0 j55) z9))))] H := hP
      have hD : va_D A [(qH, .inl (cI, 2700, .inl (fun z9 => nI (hv z9)))), (qG, .inl (cI, 24, .inl sg)), (qK, .inl (cI, 36480, .inl (fun z9 => nI (kp z9)))), (qJ, .inl (cI, 24, .inl (fun z9 => nI (km z9)))), (oM, .inr (5, [.int (nI 0), .ref qW, .ref qM, .ref qK, .ref qJ, .ref qG, .ref qH, .ref qP, .int (nI pl)])), (qW, .inl (cI, 22400, .inl (fun z9 => nI (w55 z9)))), (qM, .inl (cI, 7, .inl (fun z9 => nI ((pn_up (pn_up (pn_up (pn_up (pn_up mn 0 (km k)) 0 j31) 0 j38) 4 j49) 0 j55) z9))))] := hD
      dsimp only at hs55
      rw [← pm_push_abs] at hs55
      refine lv_aload_n hx hb d_M_push_58 rfl (lv_at hl 0 rfl) ?_
      refine lv_iload_n hx hb d_M_push_59 rfl (lv_at hl 1 rfl) ?_
      refine lv_iconst (v := nI 0) hx hb d_M_push_60 (by decide) ?_
      refine lv_aload_n hx hb d_M_push_61 rfl (lv_at hl 0 rfl) ?_
      refine pw_get Fx hK hP fld_M 4 rfl 5 (by decide) kw_635 (v := .ref qG) rfl d_M_push_62 ?_
      refine lv_iload_n hx hb d_M_push_65 rfl (lv_at hl 1 rfl) ?_
      refine pw_iald Fx hK hP 1 0 (f := sg) rfl rfl (k := k) (by omega) (by decide) d_M_push_66 ?_
      refine lv_if_ge (tgt := 74) hx hb d_M_push_67 (by decide) (fun h_67 => ?_) (fun h_67 => ?_)
      · skip
        have hsg : pn_push (ρ k) y = 0 ∨ nI 1 = pn_cmp (pn_push (ρ k) y) 0 := (pm_push_sgn.2 (fun q => by rw [hsk, pn_cmp_lt q] at h_67; exact absurd h_67 (by decide))).imp id Eq.symm
        refine lv_iconst (v := nI 1) hx hb d_M_push_74 (by decide) ?_
        refine lv_iconst (v := nI 2) hx hb d_M_push_75 (by decide) ?_
        refine pn_bi (wr := []) [4, 5, 6, 0, 2, 3, 1] [] hP hD hS hA (pn_rV [.int (nI k), .int (nI 0), .int (nI 1), .int (nI 2)] [] Fx hK hN hP hD [4, 5, 6, 0, 2, 3, 1] rfl rfl (c_M_put l D cI cZ cB cJ _ oM qW qM qK qJ qG qH qP 0 pl w55 (pn_up (pn_up (pn_up (pn_up (pn_up mn 0 (km k)) 0 j31) 0 j38) 4 j49) 0 j55) hv kp km sg (ρ) k 0 2 (nI 1) (pn_push (ρ k) y) (by omega) (by omega) hk (by omega) (by omega) hs55 hlp hsg hρ) kw_678 cal_M_put inst_M_put sel_M_put ⟨by decide, by decide⟩ ⟨rfl, rfl⟩ 0 rfl rfl rfl rfl hl.1 (Nat.le_of_ble_eq_true rfl) d_M_push_76 ⟨Nat.zero_le _, Nat.zero_le _⟩) rfl rfl rfl (by decide) (fun r_76 u_76 H locs hw hP hD hS => ?_)
        obtain ⟨c8, w8, m8, h8, kp8, km8, sg8⟩ := u_76
        obtain ⟨hK76, hp76⟩ := hw
        have hP : va_P D pn_cl [(oM, .inr (5, [.int (nI c8), .ref qW, .ref qM, .ref qK, .ref qJ, .ref qG, .ref qH, .ref qP, .int (nI pl)])), (qW, .inl (cI, 22400, .inl (fun z9 => nI (w8 z9)))), (qM, .inl (cI, 7, .inl (fun z9 => nI (m8 z9)))), (qH, .inl (cI, 2700, .inl (fun z9 => nI (h8 z9)))), (qK, .inl (cI, 36480, .inl (fun z9 => nI (kp8 z9)))), (qJ, .inl (cI, 24, .inl (fun z9 => nI (km8 z9)))), (qG, .inl (cI, 24, .inl sg8))] H := hP
        have hD : va_D A [(oM, .inr (5, [.int (nI c8), .ref qW, .ref qM, .ref qK, .ref qJ, .ref qG, .ref qH, .ref qP, .int (nI pl)])), (qW, .inl (cI, 22400, .inl (fun z9 => nI (w8 z9)))), (qM, .inl (cI, 7, .inl (fun z9 => nI (m8 z9)))), (qH, .inl (cI, 2700, .inl (fun z9 => nI (h8 z9)))), (qK, .inl (cI, 36480, .inl (fun z9 => nI (kp8 z9)))), (qJ, .inl (cI, 24, .inl (fun z9 => nI (km8 z9)))), (qG, .inl (cI, 24, .inl sg8))] := hD
        dsimp only at hK76 hp76
        exact pn_reti ((c8, w8, m8, h8, kp8, km8, sg8)) Fx hr hlocks hQ hAe hP hD hS (by (try dsimp only); first | done | exact (Or.inr ⟨k, hk, rfl, hp76.imp id (fun q => ⟨q.1, q.2.2⟩)⟩)) d_M_push_79
      · skip
        have hsg : pn_push (ρ k) y = 0 ∨ (-1) = pn_cmp (pn_push (ρ k) y) 0 := Or.inr (pm_push_sgn.1 (pn_cmp_neg.mp (by rw [← hsk]; exact Int32.not_le.mp h_67))).symm
        refine lv_iconst (v := (-1)) hx hb d_M_push_70 (by decide) ?_
        refine lv_goto (tgt := 75) hx hb d_M_push_71 (by decide) ?_
        refine lv_iconst (v := nI 2) hx hb d_M_push_75 (by decide) ?_
        refine pn_bi (wr := []) [4, 5, 6, 0, 2, 3, 1] [] hP hD hS hA (pn_rV [.int (nI k), .int (nI 0), .int (-1), .int (nI 2)] [] Fx hK hN hP hD [4, 5, 6, 0, 2, 3, 1] rfl rfl (c_M_put l D cI cZ cB cJ _ oM qW qM qK qJ qG qH qP 0 pl w55 (pn_up (pn_up (pn_up (pn_up (pn_up mn 0 (km k)) 0 j31) 0 j38) 4 j49) 0 j55) hv kp km sg (ρ) k 0 2 (-1) (pn_push (ρ k) y) (by omega) (by omega) hk (by omega) (by omega) hs55 hlp hsg hρ) kw_678 cal_M_put inst_M_put sel_M_put ⟨by decide, by decide⟩ ⟨rfl, rfl⟩ 0 rfl rfl rfl rfl hl.1 (Nat.le_of_ble_eq_true rfl) d_M_push_76 ⟨Nat.zero_le _, Nat.zero_le _⟩) rfl rfl rfl (by decide) (fun r_76 u_76 H locs hw hP hD hS => ?_)
        obtain ⟨c8, w8, m8, h8, kp8, km8, sg8⟩ := u_76
        obtain ⟨hK76, hp76⟩ := hw
        have hP : va_P D pn_cl [(oM, .inr (5, [.int (nI c8), .ref qW, .ref qM, .ref qK, .ref qJ, .ref qG, .ref qH, .ref qP, .int (nI pl)])), (qW, .inl (cI, 22400, .inl (fun z9 => nI (w8 z9)))), (qM, .inl (cI, 7, .inl (fun z9 => nI (m8 z9)))), (qH, .inl (cI, 2700, .inl (fun z9 => nI (h8 z9)))), (qK, .inl (cI, 36480, .inl (fun z9 => nI (kp8 z9)))), (qJ, .inl (cI, 24, .inl (fun z9 => nI (km8 z9)))), (qG, .inl (cI, 24, .inl sg8))] H := hP
        have hD : va_D A [(oM, .inr (5, [.int (nI c8), .ref qW, .ref qM, .ref qK, .ref qJ, .ref qG, .ref qH, .ref qP, .int (nI pl)])), (qW, .inl (cI, 22400, .inl (fun z9 => nI (w8 z9)))), (qM, .inl (cI, 7, .inl (fun z9 => nI (m8 z9)))), (qH, .inl (cI, 2700, .inl (fun z9 => nI (h8 z9)))), (qK, .inl (cI, 36480, .inl (fun z9 => nI (kp8 z9)))), (qJ, .inl (cI, 24, .inl (fun z9 => nI (km8 z9)))), (qG, .inl (cI, 24, .inl sg8))] := hD
        dsimp only at hK76 hp76
        exact pn_reti ((c8, w8, m8, h8, kp8, km8, sg8)) Fx hr hlocks hQ hAe hP hD hS (by (try dsimp only); first | done | exact (Or.inr ⟨k, hk, rfl, hp76.imp id (fun q => ⟨q.1, q.2.2⟩)⟩)) d_M_push_79
    · skip
      rw [hrf13] at h_16
      exact absurd h_16 (by decide)

set_option maxHeartbeats 4000000 in
set_option maxRecDepth 100000 in
theorem c_M_copy (l : Launch) (D : va_G) (cI cZ cB cJ : ClassId) (sz : Nat) (oM qW qM qK qJ qG qH qP cd pl : Nat) (wk mn : Nat → Nat) (hv kp km : Nat → Nat) (sg : Nat → Int32) (ρ : Nat → Int) (x y : Int32) (hρ : pm_regs kp km sg ρ) : pn_Ci l D (pn_ty cI cZ cB cJ) y_M_copy w_M_copy ({ frames := 4, cells := 0, slots := 0, locals := 150 } : Room) [.ref oM, .int x, .int y] [(oM, .inr (5, [.int (nI cd), .ref qW, .ref qM, .ref qK, .ref qJ, .ref qG, .ref qH, .ref qP, .int (nI pl)])), (qW, .inl (cI, 22400, .inl (fun z9 => nI (wk z9)))), (qM, .inl (cI, 7, .inl (fun z9 => nI (mn z9)))), (qH, .inl (cI, 2700, .inl (fun z9 => nI (hv z9)))), (qK, .inl (cI, 36480, .inl (fun z9 => nI (kp z9)))), (qJ, .inl (cI, 24, .inl (fun z9 => nI (km z9)))), (qG, .inl (cI, 24, .inl sg))] sz (S := Nat × (Nat → Nat) × (Nat → Nat) × (Nat → Nat) × (Nat → Nat) × (Nat → Nat) × (Nat → Int32)) (fun r u => (u.1 = 1 ∧ ¬ (pn_isR x ∧ pn_isR y) ∧ pm_regs u.2.2.2.2.1 u.2.2.2.2.2.1 u.2.2.2.2.2.2 ρ) ∨ (∃ k a, k < 24 ∧ a < 24 ∧ x = nI k ∧ y = nI a ∧ r = nI (pn_lenI (ρ a)) ∧ u.1 = 0 ∧ pm_regs u.2.2.2.2.1 u.2.2.2.2.2.1 u.2.2.2.2.2.2 (pn_up ρ k (ρ a)))) (fun u => [(oM, .inr (5, [.int (nI u.1), .ref qW, .ref qM, .ref qK, .ref qJ, .ref qG, .ref qH, .ref qP, .int (nI pl)])), (qW, .inl (cI, 22400, .inl (fun z9 => nI (u.2.1 z9)))), (qM, .inl (cI, 7, .inl (fun z9 => nI (u.2.2.1 z9)))), (qH, .inl (cI, 2700, .inl (fun z9 => nI (u.2.2.2.1 z9)))), (qK, .inl (cI, 36480, .inl (fun z9 => nI (u.2.2.2.2.1 z9)))), (qJ, .inl (cI, 24, .inl (fun z9 => nI (u.2.2.2.2.2.1 z9)))), (qG, .inl (cI, 24, .inl u.2.2.2.2.2.2))]) := by
  refine pn_start (by decide) (Nat.le_of_ble_eq_true rfl) ?_
  intro p e s m below meth c A Q ls hQ hAe Fx hr hlocks hN hK hP hD hS hA hl
  have hx := Fx.1
  have hb := Fx.2.1
  have hl : lv_has ls 3 [(0, .ref oM), (1, .int x), (2, .int y)] := hl
  refine lv_aload_n hx hb d_M_copy_0 rfl (lv_at hl 0 rfl) ?_
  refine lv_iload_n hx hb d_M_copy_1 rfl (lv_at hl 1 rfl) ?_
  refine lv_iload_n hx hb d_M_copy_2 rfl (lv_at hl 2 rfl) ?_
  refine lv_iload_n hx hb d_M_copy_3 rfl (lv_at hl 2 rfl) ?_
  refine pn_bi (wr := [(oM, .inr (5, [.int (nI cd), .ref qW, .ref qM, .ref qK, .ref qJ, .ref qG, .ref qH, .ref qP, .int (nI pl)])), (qW, .inl (cI, 22400, .inl (fun z9 => nI (wk z9)))), (qM, .inl (cI, 7, .inl (fun z9 => nI (mn z9)))), (qH, .inl (cI, 2700, .inl (fun z9 => nI (hv z9)))), (qK, .inl (cI, 36480, .inl (fun z9 => nI (kp z9)))), (qJ, .inl (cI, 24, .inl (fun z9 => nI (km z9)))), (qG, .inl (cI, 24, .inl sg))]) [] [0, 1, 2, 3, 4, 5, 6] hP hD hS hA (pn_rS [.int x, .int y, .int y] [.ref oM] Fx hK hN hP hD [] rfl rfl (c_M_are l D cI cZ cB cJ _ x y y) kw_724 cal_M_are stat_M_are ⟨by decide, by decide⟩ ⟨rfl, rfl⟩ rfl hl.1 (Nat.le_of_ble_eq_true rfl) d_M_copy_4 ⟨Nat.zero_le _, Nat.zero_le _⟩) rfl rfl rfl (by decide) (fun r_4 u_4 H locs hw hP hD hS => ?_)
  obtain ⟨rfl, h4⟩ := hw
  have hP : va_P D pn_cl [(oM, .inr (5, [.int (nI cd), .ref qW, .ref qM, .ref qK, .ref qJ, .ref qG, .ref qH, .ref qP, .int (nI pl)])), (qW, .inl (cI, 22400, .inl (fun z9 => nI (wk z9)))), (qM, .inl (cI, 7, .inl (fun z9 => nI (mn z9)))), (qH, .inl (cI, 2700, .inl (fun z9 => nI (hv z9)))), (qK, .inl (cI, 36480, .inl (fun z9 => nI (kp z9)))), (qJ, .inl (cI, 24, .inl (fun z9 => nI (km z9)))), (qG, .inl (cI, 24, .inl sg))] H := hP
  have hD : va_D A [(oM, .inr (5, [.int (nI cd), .ref qW, .ref qM, .ref qK, .ref qJ, .ref qG, .ref qH, .ref qP, .int (nI pl)])), (qW, .inl (cI, 22400, .inl (fun z9 => nI (wk z9)))), (qM, .inl (cI, 7, .inl (fun z9 => nI (mn z9)))), (qH, .inl (cI, 2700, .inl (fun z9 => nI (hv z9)))), (qK, .inl (cI, 36480, .inl (fun z9 => nI (kp z9)))), (qJ, .inl (cI, 24, .inl (fun z9 => nI (km z9)))), (qG, .inl (cI, 24, .inl sg))] := hD
  refine pw_ifb_eq (tgt := 14) hx hb d_M_copy_7 (by decide) (fun h_7 => ?_) (fun h_7 => ?_)
  · skip
    have hno : ¬ (pn_isR x ∧ pn_isR y) := fun q => absurd (h4.mpr ⟨q.1, q.2, q.2⟩) (by rw [h_7]; decide)
    refine lv_iconst (v := nI 1) hx hb d_M_copy_14 (by decide) ?_
    refine pn_bi (wr := [(qW, .inl (cI, 22400, .inl (fun z9 => nI (wk z9)))), (qM, .inl (cI, 7, .inl (fun z9 => nI (mn z9)))), (qH, .inl (cI, 2700, .inl (fun z9 => nI (hv z9)))), (qK, .inl (cI, 36480, .inl (fun z9 => nI (kp z9)))), (qJ, .inl (cI, 24, .inl (fun z9 => nI (km z9)))), (qG, .inl (cI, 24, .inl sg))]) [0] [1, 2, 3, 4, 5, 6] hP hD hS hA (pn_rV [.int (nI 1)] [] Fx hK hN hP hD [0] rfl rfl (c_M_refuses l D cI cZ cB cJ _ oM qW qM qK qJ qG qH qP cd pl 1 (by omega)) kw_669 cal_M_refuses inst_M_refuses sel_M_refuses ⟨by decide, by decide⟩ ⟨rfl, rfl⟩ 0 rfl rfl rfl rfl hl.1 (Nat.le_of_ble_eq_true rfl) d_M_copy_15 ⟨Nat.zero_le _, Nat.zero_le _⟩) rfl rfl rfl (by decide) (fun r_15 u_15 H locs hw hP hD hS => ?_)
    obtain ⟨rfl, hrf15⟩ := hw
    have hP : va_P D pn_cl [(qW, .inl (cI, 22400, .inl (fun z9 => nI (wk z9)))), (qM, .inl (cI, 7, .inl (fun z9 => nI (mn z9)))), (qH, .inl (cI, 2700, .inl (fun z9 => nI (hv z9)))), (qK, .inl (cI, 36480, .inl (fun z9 => nI (kp z9)))), (qJ, .inl (cI, 24, .inl (fun z9 => nI (km z9)))), (qG, .inl (cI, 24, .inl sg)), (oM, .inr (5, [.int (nI 1), .ref qW, .ref qM, .ref qK, .ref qJ, .ref qG, .ref qH, .ref qP, .int (nI pl)]))] H := hP
    have hD : va_D A [(qW, .inl (cI, 22400, .inl (fun z9 => nI (wk z9)))), (qM, .inl (cI, 7, .inl (fun z9 => nI (mn z9)))), (qH, .inl (cI, 2700, .inl (fun z9 => nI (hv z9)))), (qK, .inl (cI, 36480, .inl (fun z9 => nI (kp z9)))), (qJ, .inl (cI, 24, .inl (fun z9 => nI (km z9)))), (qG, .inl (cI, 24, .inl sg)), (oM, .inr (5, [.int (nI 1), .ref qW, .ref qM, .ref qK, .ref qJ, .ref qG, .ref qH, .ref qP, .int (nI pl)]))] := hD
    refine pw_ifb_eq (tgt := 23) hx hb d_M_copy_18 (by decide) (fun h_18 => ?_) (fun h_18 => ?_)
    · skip
      rw [hrf15] at h_18
      exact absurd h_18 (by decide)
    · skip
      refine lv_iconst (v := nI 0) hx hb d_M_copy_21 (by decide) ?_
      exact pn_reti ((1, wk, mn, hv, kp, km, sg)) Fx hr hlocks hQ hAe (hP.sub [6, 0, 1, 2, 3, 4, 5] rfl) (hD.sub [6, 0, 1, 2, 3, 4, 5] (by decide) rfl) hS (by (try dsimp only); first | done | exact (Or.inl ⟨rfl, hno, hρ⟩)) d_M_copy_22
  · skip
    obtain ⟨⟨k, hk, rfl⟩, ⟨a, ha, rfl⟩, -⟩ := h4.mp h_7
    refine lv_iconst (v := nI 0) hx hb d_M_copy_10 (by decide) ?_
    refine lv_goto (tgt := 15) hx hb d_M_copy_11 (by decide) ?_
    refine pn_bi (wr := [(qW, .inl (cI, 22400, .inl (fun z9 => nI (wk z9)))), (qM, .inl (cI, 7, .inl (fun z9 => nI (mn z9)))), (qH, .inl (cI, 2700, .inl (fun z9 => nI (hv z9)))), (qK, .inl (cI, 36480, .inl (fun z9 => nI (kp z9)))), (qJ, .inl (cI, 24, .inl (fun z9 => nI (km z9)))), (qG, .inl (cI, 24, .inl sg))]) [0] [1, 2, 3, 4, 5, 6] hP hD hS hA (pn_rV [.int (nI 0)] [] Fx hK hN hP hD [0] rfl rfl (c_M_refuses l D cI cZ cB cJ _ oM qW qM qK qJ qG qH qP cd pl 0 (by omega)) kw_669 cal_M_refuses inst_M_refuses sel_M_refuses ⟨by decide, by decide⟩ ⟨rfl, rfl⟩ 0 rfl rfl rfl rfl hl.1 (Nat.le_of_ble_eq_true rfl) d_M_copy_15 ⟨Nat.zero_le _, Nat.zero_le _⟩) rfl rfl rfl (by decide) (fun r_15 u_15 H locs hw hP hD hS => ?_)
    obtain ⟨rfl, hrf15⟩ := hw
    have hP : va_P D pn_cl [(qW, .inl (cI, 22400, .inl (fun z9 => nI (wk z9)))), (qM, .inl (cI, 7, .inl (fun z9 => nI (mn z9)))), (qH, .inl (cI, 2700, .inl (fun z9 => nI (hv z9)))), (qK, .inl (cI, 36480, .inl (fun z9 => nI (kp z9)))), (qJ, .inl (cI, 24, .inl (fun z9 => nI (km z9)))), (qG, .inl (cI, 24, .inl sg)), (oM, .inr (5, [.int (nI 0), .ref qW, .ref qM, .ref qK, .ref qJ, .ref qG, .ref qH, .ref qP, .int (nI pl)]))] H := hP
    have hD : va_D A [(qW, .inl (cI, 22400, .inl (fun z9 => nI (wk z9)))), (qM, .inl (cI, 7, .inl (fun z9 => nI (mn z9)))), (qH, .inl (cI, 2700, .inl (fun z9 => nI (hv z9)))), (qK, .inl (cI, 36480, .inl (fun z9 => nI (kp z9)))), (qJ, .inl (cI, 24, .inl (fun z9 => nI (km z9)))), (qG, .inl (cI, 24, .inl sg)), (oM, .inr (5, [.int (nI 0), .ref qW, .ref qM, .ref qK, .ref qJ, .ref qG, .ref qH, .ref qP, .int (nI pl)]))] := hD
    refine pw_ifb_eq (tgt := 23) hx hb d_M_copy_18 (by decide) (fun h_18 => ?_) (fun h_18 => ?_)
    · skip
      refine lv_aload_n hx hb d_M_copy_23 rfl (lv_at hl 0 rfl) ?_
      refine lv_iconst (v := nI 0) hx hb d_M_copy_24 (by decide) ?_
      refine lv_iload_n hx hb d_M_copy_25 rfl (lv_at hl 2 rfl) ?_
      refine pn_bv (wr := [(qH, .inl (cI, 2700, .inl (fun z9 => nI (hv z9)))), (qG, .inl (cI, 24, .inl sg))]) [6, 0, 1, 3, 4] [2, 5] hP hD hS hA (pn_rV [.int (nI 0), .int (nI a)] [] Fx hK hN hP hD [6, 0, 1, 3, 4] rfl rfl (c_M_load l D cI cZ cB cJ _ oM qW qM qK qJ qG qH qP 0 pl wk mn kp km 0 a ((ρ a).natAbs) (by omega) ha (hρ a ha).1) kw_703 cal_M_load inst_M_load sel_M_load ⟨by decide, by decide⟩ ⟨rfl, rfl⟩ 0 rfl rfl rfl rfl hl.1 (Nat.le_of_ble_eq_true rfl) d_M_copy_26 ⟨Nat.zero_le _, Nat.zero_le _⟩) rfl rfl rfl (by decide) (fun u_26 H locs hw hP hD hS => ?_)
      obtain ⟨hn26, hK26⟩ := hw
      have hP : va_P D pn_cl [(qH, .inl (cI, 2700, .inl (fun z9 => nI (hv z9)))), (qG, .inl (cI, 24, .inl sg)), (oM, .inr (5, [.int (nI 0), .ref qW, .ref qM, .ref qK, .ref qJ, .ref qG, .ref qH, .ref qP, .int (nI pl)])), (qW, .inl (cI, 22400, .inl (fun z9 => nI (u_26 z9)))), (qM, .inl (cI, 7, .inl (fun z9 => nI ((pn_up mn 0 (km a)) z9)))), (qK, .inl (cI, 36480, .inl (fun z9 => nI (kp z9)))), (qJ, .inl (cI, 24, .inl (fun z9 => nI (km z9))))] H := hP
      have hD : va_D A [(qH, .inl (cI, 2700, .inl (fun z9 => nI (hv z9)))), (qG, .inl (cI, 24, .inl sg)), (oM, .inr (5, [.int (nI 0), .ref qW, .ref qM, .ref qK, .ref qJ, .ref qG, .ref qH, .ref qP, .int (nI pl)])), (qW, .inl (cI, 22400, .inl (fun z9 => nI (u_26 z9)))), (qM, .inl (cI, 7, .inl (fun z9 => nI ((pn_up mn 0 (km a)) z9)))), (qK, .inl (cI, 36480, .inl (fun z9 => nI (kp z9)))), (qJ, .inl (cI, 24, .inl (fun z9 => nI (km z9))))] := hD
      refine lv_aload_n hx hb d_M_copy_29 rfl (lv_at hl 0 rfl) ?_
      refine lv_iload_n hx hb d_M_copy_30 rfl (lv_at hl 1 rfl) ?_
      refine lv_iconst (v := nI 0) hx hb d_M_copy_31 (by decide) ?_
      refine lv_aload_n hx hb d_M_copy_32 rfl (lv_at hl 0 rfl) ?_
      refine pw_get Fx hK hP fld_M 2 rfl 5 (by decide) kw_635 (v := .ref qG) rfl d_M_copy_33 ?_
      refine lv_iload_n hx hb d_M_copy_36 rfl (lv_at hl 2 rfl) ?_
      refine pw_iald Fx hK hP 1 0 (f := sg) rfl rfl (k := a) (by omega) (by decide) d_M_copy_37 ?_
      refine lv_iconst (v := nI 2) hx hb d_M_copy_38 (by decide) ?_
      refine pn_bi (wr := []) [2, 3, 4, 0, 5, 6, 1] [] hP hD hS hA (pn_rV [.int (nI k), .int (nI 0), .int (sg a), .int (nI 2)] [] Fx hK hN hP hD [2, 3, 4, 0, 5, 6, 1] rfl rfl (c_M_put l D cI cZ cB cJ _ oM qW qM qK qJ qG qH qP 0 pl u_26 (pn_up mn 0 (km a)) hv kp km sg (ρ) k 0 2 (sg a) (ρ a) (by omega) (by omega) hk (by omega) (by omega) hn26 (pm_up43 (pm_rb2 hρ ha).1 (by decide)) (Or.inr (hρ a ha).2.1) hρ) kw_678 cal_M_put inst_M_put sel_M_put ⟨by decide, by decide⟩ ⟨rfl, rfl⟩ 0 rfl rfl rfl rfl hl.1 (Nat.le_of_ble_eq_true rfl) d_M_copy_39 ⟨Nat.zero_le _, Nat.zero_le _⟩) rfl rfl rfl (by decide) (fun r_39 u_39 H locs hw hP hD hS => ?_)
      obtain ⟨c8, w8, m8, h8, kp8, km8, sg8⟩ := u_39
      obtain ⟨hK39, hp39⟩ := hw
      have hP : va_P D pn_cl [(oM, .inr (5, [.int (nI c8), .ref qW, .ref qM, .ref qK, .ref qJ, .ref qG, .ref qH, .ref qP, .int (nI pl)])), (qW, .inl (cI, 22400, .inl (fun z9 => nI (w8 z9)))), (qM, .inl (cI, 7, .inl (fun z9 => nI (m8 z9)))), (qH, .inl (cI, 2700, .inl (fun z9 => nI (h8 z9)))), (qK, .inl (cI, 36480, .inl (fun z9 => nI (kp8 z9)))), (qJ, .inl (cI, 24, .inl (fun z9 => nI (km8 z9)))), (qG, .inl (cI, 24, .inl sg8))] H := hP
      have hD : va_D A [(oM, .inr (5, [.int (nI c8), .ref qW, .ref qM, .ref qK, .ref qJ, .ref qG, .ref qH, .ref qP, .int (nI pl)])), (qW, .inl (cI, 22400, .inl (fun z9 => nI (w8 z9)))), (qM, .inl (cI, 7, .inl (fun z9 => nI (m8 z9)))), (qH, .inl (cI, 2700, .inl (fun z9 => nI (h8 z9)))), (qK, .inl (cI, 36480, .inl (fun z9 => nI (kp8 z9)))), (qJ, .inl (cI, 24, .inl (fun z9 => nI (km8 z9)))), (qG, .inl (cI, 24, .inl sg8))] := hD
      dsimp only at hK39 hp39
      exact pn_reti ((c8, w8, m8, h8, kp8, km8, sg8)) Fx hr hlocks hQ hAe hP hD hS (by (try dsimp only); first | done | exact (Or.inr ⟨k, a, hk, ha, rfl, rfl, (hp39.resolve_right (fun q => absurd q.1 (Nat.not_lt.mpr (hρ a ha).2.2))).2⟩)) d_M_copy_42
    · skip
      rw [hrf15] at h_18
      exact absurd h_18 (by decide)

set_option maxHeartbeats 4000000 in
set_option maxRecDepth 100000 in
theorem c_M_swap (l : Launch) (D : va_G) (cI cZ cB cJ : ClassId) (sz : Nat) (oM qW qM qK qJ qG qH qP cd pl : Nat) (wk mn : Nat → Nat) (hv kp km : Nat → Nat) (sg : Nat → Int32) (ρ : Nat → Int) (x y : Int32) (hρ : pm_regs kp km sg ρ) : pn_Ci l D (pn_ty cI cZ cB cJ) y_M_swap w_M_swap ({ frames := 4, cells := 0, slots := 0, locals := 150 } : Room) [.ref oM, .int x, .int y] [(oM, .inr (5, [.int (nI cd), .ref qW, .ref qM, .ref qK, .ref qJ, .ref qG, .ref qH, .ref qP, .int (nI pl)])), (qW, .inl (cI, 22400, .inl (fun z9 => nI (wk z9)))), (qM, .inl (cI, 7, .inl (fun z9 => nI (mn z9)))), (qH, .inl (cI, 2700, .inl (fun z9 => nI (hv z9)))), (qK, .inl (cI, 36480, .inl (fun z9 => nI (kp z9)))), (qJ, .inl (cI, 24, .inl (fun z9 => nI (km z9)))), (qG, .inl (cI, 24, .inl sg))] sz (S := Nat × (Nat → Nat) × (Nat → Nat) × (Nat → Nat) × (Nat → Nat) × (Nat → Nat) × (Nat → Int32)) (fun r u => (u.1 = 1 ∧ ¬ (pn_isR x ∧ pn_isR y) ∧ pm_regs u.2.2.2.2.1 u.2.2.2.2.2.1 u.2.2.2.2.2.2 ρ) ∨ (∃ k a, k < 24 ∧ a < 24 ∧ x = nI k ∧ y = nI a ∧ r = nI (pn_lenI (ρ a)) ∧ u.1 = 0 ∧ pm_regs u.2.2.2.2.1 u.2.2.2.2.2.1 u.2.2.2.2.2.2 (pn_up (pn_up ρ k (ρ a)) a (ρ k)))) (fun u => [(oM, .inr (5, [.int (nI u.1), .ref qW, .ref qM, .ref qK, .ref qJ, .ref qG, .ref qH, .ref qP, .int (nI pl)])), (qW, .inl (cI, 22400, .inl (fun z9 => nI (u.2.1 z9)))), (qM, .inl (cI, 7, .inl (fun z9 => nI (u.2.2.1 z9)))), (qH, .inl (cI, 2700, .inl (fun z9 => nI (u.2.2.2.1 z9)))), (qK, .inl (cI, 36480, .inl (fun z9 => nI (u.2.2.2.2.1 z9)))), (qJ, .inl (cI, 24, .inl (fun z9 => nI (u.2.2.2.2.2.1 z9)))), (qG, .inl (cI, 24, .inl u.2.2.2.2.2.2))]) := by
  refine pn_start (by decide) (Nat.le_of_ble_eq_true rfl) ?_
  intro p e s m below meth c A Q ls hQ hAe Fx hr hlocks hN hK hP hD hS hA hl
  have hx := Fx.1
  have hb := Fx.2.1
  have hl : lv_has ls 4 [(0, .ref oM), (1, .int x), (2, .int y)] := hl
  refine lv_aload_n hx hb d_M_swap_0 rfl (lv_at hl 0 rfl) ?_
  refine lv_iload_n hx hb d_M_swap_1 rfl (lv_at hl 1 rfl) ?_
  refine lv_iload_n hx hb d_M_swap_2 rfl (lv_at hl 2 rfl) ?_
  refine lv_iload_n hx hb d_M_swap_3 rfl (lv_at hl 2 rfl) ?_
  refine pn_bi (wr := [(oM, .inr (5, [.int (nI cd), .ref qW, .ref qM, .ref qK, .ref qJ, .ref qG, .ref qH, .ref qP, .int (nI pl)])), (qW, .inl (cI, 22400, .inl (fun z9 => nI (wk z9)))), (qM, .inl (cI, 7, .inl (fun z9 => nI (mn z9)))), (qH, .inl (cI, 2700, .inl (fun z9 => nI (hv z9)))), (qK, .inl (cI, 36480, .inl (fun z9 => nI (kp z9)))), (qJ, .inl (cI, 24, .inl (fun z9 => nI (km z9)))), (qG, .inl (cI, 24, .inl sg))]) [] [0, 1, 2, 3, 4, 5, 6] hP hD hS hA (pn_rS [.int x, .int y, .int y] [.ref oM] Fx hK hN hP hD [] rfl rfl (c_M_are l D cI cZ cB cJ _ x y y) kw_724 cal_M_are stat_M_are ⟨by decide, by decide⟩ ⟨rfl, rfl⟩ rfl hl.1 (Nat.le_of_ble_eq_true rfl) d_M_swap_4 ⟨Nat.zero_le _, Nat.zero_le _⟩) rfl rfl rfl (by decide) (fun r_4 u_4 H locs hw hP hD hS => ?_)
  obtain ⟨rfl, h4⟩ := hw
  have hP : va_P D pn_cl [(oM, .inr (5, [.int (nI cd), .ref qW, .ref qM, .ref qK, .ref qJ, .ref qG, .ref qH, .ref qP, .int (nI pl)])), (qW, .inl (cI, 22400, .inl (fun z9 => nI (wk z9)))), (qM, .inl (cI, 7, .inl (fun z9 => nI (mn z9)))), (qH, .inl (cI, 2700, .inl (fun z9 => nI (hv z9)))), (qK, .inl (cI, 36480, .inl (fun z9 => nI (kp z9)))), (qJ, .inl (cI, 24, .inl (fun z9 => nI (km z9)))), (qG, .inl (cI, 24, .inl sg))] H := hP
  have hD : va_D A [(oM, .inr (5, [.int (nI cd), .ref qW, .ref qM, .ref qK, .ref qJ, .ref qG, .ref qH, .ref qP, .int (nI pl)])), (qW, .inl (cI, 22400, .inl (fun z9 => nI (wk z9)))), (qM, .inl (cI, 7, .inl (fun z9 => nI (mn z9)))), (qH, .inl (cI, 2700, .inl (fun z9 => nI (hv z9)))), (qK, .inl (cI, 36480, .inl (fun z9 => nI (kp z9)))), (qJ, .inl (cI, 24, .inl (fun z9 => nI (km z9)))), (qG, .inl (cI, 24, .inl sg))] := hD
  refine pw_ifb_eq (tgt := 14) hx hb d_M_swap_7 (by decide) (fun h_7 => ?_) (fun h_7 => ?_)
  · skip
    have hno : ¬ (pn_isR x ∧ pn_isR y) := fun q => absurd (h4.mpr ⟨q.1, q.2, q.2⟩) (by rw [h_7]; decide)
    refine lv_iconst (v := nI 1) hx hb d_M_swap_14 (by decide) ?_
    refine pn_bi (wr := [(qW, .inl (cI, 22400, .inl (fun z9 => nI (wk z9)))), (qM, .inl (cI, 7, .inl (fun z9 => nI (mn z9)))), (qH, .inl (cI, 2700, .inl (fun z9 => nI (hv z9)))), (qK, .inl (cI, 36480, .inl (fun z9 => nI (kp z9)))), (qJ, .inl (cI, 24, .inl (fun z9 => nI (km z9)))), (qG, .inl (cI, 24, .inl sg))]) [0] [1, 2, 3, 4, 5, 6] hP hD hS hA (pn_rV [.int (nI 1)] [] Fx hK hN hP hD [0] rfl rfl (c_M_refuses l D cI cZ cB cJ _ oM qW qM qK qJ qG qH qP cd pl 1 (by omega)) kw_669 cal_M_refuses inst_M_refuses sel_M_refuses ⟨by decide, by decide⟩ ⟨rfl, rfl⟩ 0 rfl rfl rfl rfl hl.1 (Nat.le_of_ble_eq_true rfl) d_M_swap_15 ⟨Nat.zero_le _, Nat.zero_le _⟩) rfl rfl rfl (by decide) (fun r_15 u_15 H locs hw hP hD hS => ?_)
    obtain ⟨rfl, hrf15⟩ := hw
    have hP : va_P D pn_cl [(qW, .inl (cI, 22400, .inl (fun z9 => nI (wk z9)))), (qM, .inl (cI, 7, .inl (fun z9 => nI (mn z9)))), (qH, .inl (cI, 2700, .inl (fun z9 => nI (hv z9)))), (qK, .inl (cI, 36480, .inl (fun z9 => nI (kp z9)))), (qJ, .inl (cI, 24, .inl (fun z9 => nI (km z9)))), (qG, .inl (cI, 24, .inl sg)), (oM, .inr (5, [.int (nI 1), .ref qW, .ref qM, .ref qK, .ref qJ, .ref qG, .ref qH, .ref qP, .int (nI pl)]))] H := hP
    have hD : va_D A [(qW, .inl (cI, 22400, .inl (fun z9 => nI (wk z9)))), (qM, .inl (cI, 7, .inl (fun z9 => nI (mn z9)))), (qH, .inl (cI, 2700, .inl (fun z9 => nI (hv z9)))), (qK, .inl (cI, 36480, .inl (fun z9 => nI (kp z9)))), (qJ, .inl (cI, 24, .inl (fun z9 => nI (km z9)))), (qG, .inl (cI, 24, .inl sg)), (oM, .inr (5, [.int (nI 1), .ref qW, .ref qM, .ref qK, .ref qJ, .ref qG, .ref qH, .ref qP, .int (nI pl)]))] := hD
    refine pw_ifb_eq (tgt := 23) hx hb d_M_swap_18 (by decide) (fun h_18 => ?_) (fun h_18 => ?_)
    · skip
      rw [hrf15] at h_18
      exact absurd h_18 (by decide)
    · skip
      refine lv_iconst (v := nI 0) hx hb d_M_swap_21 (by decide) ?_
      exact pn_reti ((1, wk, mn, hv, kp, km, sg)) Fx hr hlocks hQ hAe (hP.sub [6, 0, 1, 2, 3, 4, 5] rfl) (hD.sub [6, 0, 1, 2, 3, 4, 5] (by decide) rfl) hS (by (try dsimp only); first | done | exact (Or.inl ⟨rfl, hno, hρ⟩)) d_M_swap_22
  · skip
    obtain ⟨⟨k, hk, rfl⟩, ⟨a, ha, rfl⟩, -⟩ := h4.mp h_7
    refine lv_iconst (v := nI 0) hx hb d_M_swap_10 (by decide) ?_
    refine lv_goto (tgt := 15) hx hb d_M_swap_11 (by decide) ?_
    refine pn_bi (wr := [(qW, .inl (cI, 22400, .inl (fun z9 => nI (wk z9)))), (qM, .inl (cI, 7, .inl (fun z9 => nI (mn z9)))), (qH, .inl (cI, 2700, .inl (fun z9 => nI (hv z9)))), (qK, .inl (cI, 36480, .inl (fun z9 => nI (kp z9)))), (qJ, .inl (cI, 24, .inl (fun z9 => nI (km z9)))), (qG, .inl (cI, 24, .inl sg))]) [0] [1, 2, 3, 4, 5, 6] hP hD hS hA (pn_rV [.int (nI 0)] [] Fx hK hN hP hD [0] rfl rfl (c_M_refuses l D cI cZ cB cJ _ oM qW qM qK qJ qG qH qP cd pl 0 (by omega)) kw_669 cal_M_refuses inst_M_refuses sel_M_refuses ⟨by decide, by decide⟩ ⟨rfl, rfl⟩ 0 rfl rfl rfl rfl hl.1 (Nat.le_of_ble_eq_true rfl) d_M_swap_15 ⟨Nat.zero_le _, Nat.zero_le _⟩) rfl rfl rfl (by decide) (fun r_15 u_15 H locs hw hP hD hS => ?_)
    obtain ⟨rfl, hrf15⟩ := hw
    have hP : va_P D pn_cl [(qW, .inl (cI, 22400, .inl (fun z9 => nI (wk z9)))), (qM, .inl (cI, 7, .inl (fun z9 => nI (mn z9)))), (qH, .inl (cI, 2700, .inl (fun z9 => nI (hv z9)))), (qK, .inl (cI, 36480, .inl (fun z9 => nI (kp z9)))), (qJ, .inl (cI, 24, .inl (fun z9 => nI (km z9)))), (qG, .inl (cI, 24, .inl sg)), (oM, .inr (5, [.int (nI 0), .ref qW, .ref qM, .ref qK, .ref qJ, .ref qG, .ref qH, .ref qP, .int (nI pl)]))] H := hP
    have hD : va_D A [(qW, .inl (cI, 22400, .inl (fun z9 => nI (wk z9)))), (qM, .inl (cI, 7, .inl (fun z9 => nI (mn z9)))), (qH, .inl (cI, 2700, .inl (fun z9 => nI (hv z9)))), (qK, .inl (cI, 36480, .inl (fun z9 => nI (kp z9)))), (qJ, .inl (cI, 24, .inl (fun z9 => nI (km z9)))), (qG, .inl (cI, 24, .inl sg)), (oM, .inr (5, [.int (nI 0), .ref qW, .ref qM, .ref qK, .ref qJ, .ref qG, .ref qH, .ref qP, .int (nI pl)]))] := hD
    refine pw_ifb_eq (tgt := 23) hx hb d_M_swap_18 (by decide) (fun h_18 => ?_) (fun h_18 => ?_)
    · skip
      refine lv_aload_n hx hb d_M_swap_23 rfl (lv_at hl 0 rfl) ?_
      refine lv_iconst (v := nI 0) hx hb d_M_swap_24 (by decide) ?_
      refine lv_iload_n hx hb d_M_swap_25 rfl (lv_at hl 1 rfl) ?_
      refine pn_bv (wr := [(qH, .inl (cI, 2700, .inl (fun z9 => nI (hv z9)))), (qG, .inl (cI, 24, .inl sg))]) [6, 0, 1, 3, 4] [2, 5] hP hD hS hA (pn_rV [.int (nI 0), .int (nI k)] [] Fx hK hN hP hD [6, 0, 1, 3, 4] rfl rfl (c_M_load l D cI cZ cB cJ _ oM qW qM qK qJ qG qH qP 0 pl wk mn kp km 0 k ((ρ k).natAbs) (by omega) hk (hρ k hk).1) kw_703 cal_M_load inst_M_load sel_M_load ⟨by decide, by decide⟩ ⟨rfl, rfl⟩ 0 rfl rfl rfl rfl hl.1 (Nat.le_of_ble_eq_true rfl) d_M_swap_26 ⟨Nat.zero_le _, Nat.zero_le _⟩) rfl rfl rfl (by decide) (fun u_26 H locs hw hP hD hS => ?_)
      obtain ⟨hn26, hK26⟩ := hw
      have hP : va_P D pn_cl [(qH, .inl (cI, 2700, .inl (fun z9 => nI (hv z9)))), (qG, .inl (cI, 24, .inl sg)), (oM, .inr (5, [.int (nI 0), .ref qW, .ref qM, .ref qK, .ref qJ, .ref qG, .ref qH, .ref qP, .int (nI pl)])), (qW, .inl (cI, 22400, .inl (fun z9 => nI (u_26 z9)))), (qM, .inl (cI, 7, .inl (fun z9 => nI ((pn_up mn 0 (km k)) z9)))), (qK, .inl (cI, 36480, .inl (fun z9 => nI (kp z9)))), (qJ, .inl (cI, 24, .inl (fun z9 => nI (km z9))))] H := hP
      have hD : va_D A [(qH, .inl (cI, 2700, .inl (fun z9 => nI (hv z9)))), (qG, .inl (cI, 24, .inl sg)), (oM, .inr (5, [.int (nI 0), .ref qW, .ref qM, .ref qK, .ref qJ, .ref qG, .ref qH, .ref qP, .int (nI pl)])), (qW, .inl (cI, 22400, .inl (fun z9 => nI (u_26 z9)))), (qM, .inl (cI, 7, .inl (fun z9 => nI ((pn_up mn 0 (km k)) z9)))), (qK, .inl (cI, 36480, .inl (fun z9 => nI (kp z9)))), (qJ, .inl (cI, 24, .inl (fun z9 => nI (km z9))))] := hD
      refine lv_aload_n hx hb d_M_swap_29 rfl (lv_at hl 0 rfl) ?_
      refine lv_iconst (v := nI 1) hx hb d_M_swap_30 (by decide) ?_
      refine lv_iload_n hx hb d_M_swap_31 rfl (lv_at hl 2 rfl) ?_
      refine pn_bv (wr := [(qH, .inl (cI, 2700, .inl (fun z9 => nI (hv z9)))), (qG, .inl (cI, 24, .inl sg))]) [2, 3, 4, 5, 6] [0, 1] hP hD hS hA (pn_rV [.int (nI 1), .int (nI a)] [] Fx hK hN hP hD [2, 3, 4, 5, 6] rfl rfl (c_M_load l D cI cZ cB cJ _ oM qW qM qK qJ qG qH qP 0 pl u_26 (pn_up mn 0 (km k)) kp km 1 a ((ρ a).natAbs) (by omega) ha (hρ a ha).1) kw_703 cal_M_load inst_M_load sel_M_load ⟨by decide, by decide⟩ ⟨rfl, rfl⟩ 0 rfl rfl rfl rfl hl.1 (Nat.le_of_ble_eq_true rfl) d_M_swap_32 ⟨Nat.zero_le _, Nat.zero_le _⟩) rfl rfl rfl (by decide) (fun u_32 H locs hw hP hD hS => ?_)
      obtain ⟨hn32, hK32⟩ := hw
      have hP : va_P D pn_cl [(qH, .inl (cI, 2700, .inl (fun z9 => nI (hv z9)))), (qG, .inl (cI, 24, .inl sg)), (oM, .inr (5, [.int (nI 0), .ref qW, .ref qM, .ref qK, .ref qJ, .ref qG, .ref qH, .ref qP, .int (nI pl)])), (qW, .inl (cI, 22400, .inl (fun z9 => nI (u_32 z9)))), (qM, .inl (cI, 7, .inl (fun z9 => nI ((pn_up (pn_up mn 0 (km k)) 1 (km a)) z9)))), (qK, .inl (cI, 36480, .inl (fun z9 => nI (kp z9)))), (qJ, .inl (cI, 24, .inl (fun z9 => nI (km z9))))] H := hP
      have hD : va_D A [(qH, .inl (cI, 2700, .inl (fun z9 => nI (hv z9)))), (qG, .inl (cI, 24, .inl sg)), (oM, .inr (5, [.int (nI 0), .ref qW, .ref qM, .ref qK, .ref qJ, .ref qG, .ref qH, .ref qP, .int (nI pl)])), (qW, .inl (cI, 22400, .inl (fun z9 => nI (u_32 z9)))), (qM, .inl (cI, 7, .inl (fun z9 => nI ((pn_up (pn_up mn 0 (km k)) 1 (km a)) z9)))), (qK, .inl (cI, 36480, .inl (fun z9 => nI (kp z9)))), (qJ, .inl (cI, 24, .inl (fun z9 => nI (km z9))))] := hD
      refine lv_aload_n hx hb d_M_swap_35 rfl (lv_at hl 0 rfl) ?_
      refine pw_get Fx hK hP fld_M 2 rfl 5 (by decide) kw_635 (v := .ref qG) rfl d_M_swap_36 ?_
      refine lv_iload_n hx hb d_M_swap_39 rfl (lv_at hl 1 rfl) ?_
      refine pw_iald Fx hK hP 1 0 (f := sg) rfl rfl (k := k) (by omega) (by decide) d_M_swap_40 ?_
      refine lv_istore_n (lv' := [(3, .int (sg k)), (0, .ref oM), (1, .int (nI k)), (2, .int (nI a))]) hx hb d_M_swap_41 rfl hl (by decide) rfl (fun ls hl => ?_)
      refine lv_aload_n hx hb d_M_swap_42 rfl (lv_at hl 1 rfl) ?_
      refine lv_iload_n hx hb d_M_swap_43 rfl (lv_at hl 2 rfl) ?_
      refine lv_iconst (v := nI 1) hx hb d_M_swap_44 (by decide) ?_
      refine lv_aload_n hx hb d_M_swap_45 rfl (lv_at hl 1 rfl) ?_
      refine pw_get Fx hK hP fld_M 2 rfl 5 (by decide) kw_635 (v := .ref qG) rfl d_M_swap_46 ?_
      refine lv_iload_n hx hb d_M_swap_49 rfl (lv_at hl 3 rfl) ?_
      refine pw_iald Fx hK hP 1 0 (f := sg) rfl rfl (k := a) (by omega) (by decide) d_M_swap_50 ?_
      refine lv_iconst (v := nI 2) hx hb d_M_swap_51 (by decide) ?_
      refine pn_bi (wr := []) [2, 3, 4, 0, 5, 6, 1] [] hP hD hS hA (pn_rV [.int (nI k), .int (nI 1), .int (sg a), .int (nI 2)] [] Fx hK hN hP hD [2, 3, 4, 0, 5, 6, 1] rfl rfl (c_M_put l D cI cZ cB cJ _ oM qW qM qK qJ qG qH qP 0 pl u_32 (pn_up (pn_up mn 0 (km k)) 1 (km a)) hv kp km sg (ρ) k 1 2 (sg a) (ρ a) (by omega) (by omega) hk (by omega) (by omega) hn32 (pm_up43 (pm_rb2 hρ ha).1 (by decide)) (Or.inr (hρ a ha).2.1) hρ) kw_678 cal_M_put inst_M_put sel_M_put ⟨by decide, by decide⟩ ⟨rfl, rfl⟩ 0 rfl rfl rfl rfl hl.1 (Nat.le_of_ble_eq_true rfl) d_M_swap_52 ⟨Nat.zero_le _, Nat.zero_le _⟩) rfl rfl rfl (by decide) (fun r_52 u_52 H locs hw hP hD hS => ?_)
      obtain ⟨c8, w8, m8, h8, kp8, km8, sg8⟩ := u_52
      obtain ⟨hK52, hp52⟩ := hw
      have hP : va_P D pn_cl [(oM, .inr (5, [.int (nI c8), .ref qW, .ref qM, .ref qK, .ref qJ, .ref qG, .ref qH, .ref qP, .int (nI pl)])), (qW, .inl (cI, 22400, .inl (fun z9 => nI (w8 z9)))), (qM, .inl (cI, 7, .inl (fun z9 => nI (m8 z9)))), (qH, .inl (cI, 2700, .inl (fun z9 => nI (h8 z9)))), (qK, .inl (cI, 36480, .inl (fun z9 => nI (kp8 z9)))), (qJ, .inl (cI, 24, .inl (fun z9 => nI (km8 z9)))), (qG, .inl (cI, 24, .inl sg8))] H := hP
      have hD : va_D A [(oM, .inr (5, [.int (nI c8), .ref qW, .ref qM, .ref qK, .ref qJ, .ref qG, .ref qH, .ref qP, .int (nI pl)])), (qW, .inl (cI, 22400, .inl (fun z9 => nI (w8 z9)))), (qM, .inl (cI, 7, .inl (fun z9 => nI (m8 z9)))), (qH, .inl (cI, 2700, .inl (fun z9 => nI (h8 z9)))), (qK, .inl (cI, 36480, .inl (fun z9 => nI (kp8 z9)))), (qJ, .inl (cI, 24, .inl (fun z9 => nI (km8 z9)))), (qG, .inl (cI, 24, .inl sg8))] := hD
      dsimp only at hK52 hp52
      replace hp52 := hp52.resolve_right (fun q => absurd q.1 (Nat.not_lt.mpr (hρ a ha).2.2))
      refine lv_pop hx hb d_M_swap_55 rfl ?_
      refine lv_aload_n hx hb d_M_swap_56 rfl (lv_at hl 1 rfl) ?_
      refine lv_iload_n hx hb d_M_swap_57 rfl (lv_at hl 3 rfl) ?_
      refine lv_iconst (v := nI 0) hx hb d_M_swap_58 (by decide) ?_
      refine lv_iload_n hx hb d_M_swap_59 rfl (lv_at hl 0 rfl) ?_
      refine lv_iconst (v := nI 2) hx hb d_M_swap_60 (by decide) ?_
      refine pn_bi (wr := []) [0, 1, 2, 3, 4, 5, 6] [] hP hD hS hA (pn_rV [.int (nI a), .int (nI 0), .int (sg k), .int (nI 2)] [] Fx hK hN hP hD [0, 1, 2, 3, 4, 5, 6] rfl rfl (c_M_put l D cI cZ cB cJ _ oM qW qM qK qJ qG qH qP c8 pl w8 m8 h8 kp8 km8 sg8 (pn_up ρ k (ρ a)) a 0 2 (sg k) (ρ k) (by omega) (by omega) ha (by omega) (by omega) (hK52 0 _ (by omega) (hK32 0 _ (by omega) hn26)) (pm_up43 (pm_rb2 hρ hk).1 (by decide)) (Or.inr (hρ k hk).2.1) hp52.2.2.2) kw_678 cal_M_put inst_M_put sel_M_put ⟨by decide, by decide⟩ ⟨rfl, rfl⟩ 0 rfl rfl rfl rfl hl.1 (Nat.le_of_ble_eq_true rfl) d_M_swap_61 ⟨Nat.zero_le _, Nat.zero_le _⟩) rfl rfl rfl (by decide) (fun r_61 u_61 H locs hw hP hD hS => ?_)
      obtain ⟨c7, w7, m7, h7, kp7, km7, sg7⟩ := u_61
      obtain ⟨hK61, hp61⟩ := hw
      have hP : va_P D pn_cl [(oM, .inr (5, [.int (nI c7), .ref qW, .ref qM, .ref qK, .ref qJ, .ref qG, .ref qH, .ref qP, .int (nI pl)])), (qW, .inl (cI, 22400, .inl (fun z9 => nI (w7 z9)))), (qM, .inl (cI, 7, .inl (fun z9 => nI (m7 z9)))), (qH, .inl (cI, 2700, .inl (fun z9 => nI (h7 z9)))), (qK, .inl (cI, 36480, .inl (fun z9 => nI (kp7 z9)))), (qJ, .inl (cI, 24, .inl (fun z9 => nI (km7 z9)))), (qG, .inl (cI, 24, .inl sg7))] H := hP
      have hD : va_D A [(oM, .inr (5, [.int (nI c7), .ref qW, .ref qM, .ref qK, .ref qJ, .ref qG, .ref qH, .ref qP, .int (nI pl)])), (qW, .inl (cI, 22400, .inl (fun z9 => nI (w7 z9)))), (qM, .inl (cI, 7, .inl (fun z9 => nI (m7 z9)))), (qH, .inl (cI, 2700, .inl (fun z9 => nI (h7 z9)))), (qK, .inl (cI, 36480, .inl (fun z9 => nI (kp7 z9)))), (qJ, .inl (cI, 24, .inl (fun z9 => nI (km7 z9)))), (qG, .inl (cI, 24, .inl sg7))] := hD
      dsimp only at hK61 hp61
      replace hp61 := hp61.resolve_right (fun q => absurd q.1 (Nat.not_lt.mpr (hρ k hk).2.2))
      refine lv_pop hx hb d_M_swap_64 rfl ?_
      refine lv_aload_n hx hb d_M_swap_65 rfl (lv_at hl 1 rfl) ?_
      refine lv_iconst (v := nI 1) hx hb d_M_swap_66 (by decide) ?_
      refine pn_bi (wr := [(qK, .inl (cI, 36480, .inl (fun z9 => nI (kp7 z9)))), (qJ, .inl (cI, 24, .inl (fun z9 => nI (km7 z9)))), (qG, .inl (cI, 24, .inl sg7))]) [0, 1, 2, 3] [4, 5, 6] hP hD hS hA (pn_rV [.int (nI 1)] [] Fx hK hN hP hD [0, 1, 2, 3] rfl rfl (c_M_bits l D cI cZ cB cJ _ oM qW qM qK qJ qG qH qP c7 pl w7 m7 h7 1 (ρ a).natAbs (by omega) (by omega) (hK61 1 _ (by omega) (hK52 1 _ (by omega) hn32)) (pm_up43 (pm_rb2 hρ ha).1 (by decide))) kw_682 cal_M_bits inst_M_bits sel_M_bits ⟨by decide, by decide⟩ ⟨rfl, rfl⟩ 0 rfl rfl rfl rfl hl.1 (Nat.le_of_ble_eq_true rfl) d_M_swap_67 ⟨Nat.zero_le _, Nat.zero_le _⟩) rfl rfl rfl (by decide) (fun r_67 u_67 H locs hw hP hD hS => ?_)
      obtain ⟨w6, m6, h6⟩ := u_67
      obtain ⟨rfl, hK67⟩ := hw
      have hP : va_P D pn_cl [(qK, .inl (cI, 36480, .inl (fun z9 => nI (kp7 z9)))), (qJ, .inl (cI, 24, .inl (fun z9 => nI (km7 z9)))), (qG, .inl (cI, 24, .inl sg7)), (oM, .inr (5, [.int (nI c7), .ref qW, .ref qM, .ref qK, .ref qJ, .ref qG, .ref qH, .ref qP, .int (nI pl)])), (qW, .inl (cI, 22400, .inl (fun z9 => nI (w6 z9)))), (qM, .inl (cI, 7, .inl (fun z9 => nI (m6 z9)))), (qH, .inl (cI, 2700, .inl (fun z9 => nI (h6 z9))))] H := hP
      have hD : va_D A [(qK, .inl (cI, 36480, .inl (fun z9 => nI (kp7 z9)))), (qJ, .inl (cI, 24, .inl (fun z9 => nI (km7 z9)))), (qG, .inl (cI, 24, .inl sg7)), (oM, .inr (5, [.int (nI c7), .ref qW, .ref qM, .ref qK, .ref qJ, .ref qG, .ref qH, .ref qP, .int (nI pl)])), (qW, .inl (cI, 22400, .inl (fun z9 => nI (w6 z9)))), (qM, .inl (cI, 7, .inl (fun z9 => nI (m6 z9)))), (qH, .inl (cI, 2700, .inl (fun z9 => nI (h6 z9))))] := hD
      exact pn_reti ((c7, w6, m6, h6, kp7, km7, sg7)) Fx hr hlocks hQ hAe (hP.sub [3, 4, 5, 6, 0, 1, 2] rfl) (hD.sub [3, 4, 5, 6, 0, 1, 2] (by decide) rfl) hS (by (try dsimp only); first | done | exact (Or.inr ⟨k, a, hk, ha, rfl, rfl, rfl, hp61.2.2.1, hp61.2.2.2⟩)) d_M_swap_70
    · skip
      rw [hrf15] at h_18
      exact absurd h_18 (by decide)
