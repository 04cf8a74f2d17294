theorem pm_neg_cmp {A : Int} : -pn_cmp A 0 = pn_cmp (-A) 0 := by
  rcases Int.lt_trichotomy A 0 with h | h | h
  · rw [pn_cmp_lt h, pn_cmp_gt (by omega)]; rfl
  · rw [pn_cmp_eq h, pn_cmp_eq (by omega)]; rfl
  · rw [pn_cmp_gt h, pn_cmp_lt (by omega)]
theorem pm_mul_cmp {A B : Int} : pn_cmp A 0 * pn_cmp B 0 = pn_cmp (A * B) 0 := by
  rcases Int.lt_trichotomy A 0 with h | h | h <;> rcases Int.lt_trichotomy B 0 with g | g | g
  · rw [pn_cmp_lt h, pn_cmp_lt g, pn_cmp_gt (Int.mul_pos_of_neg_of_neg h g)]; rfl
  · rw [pn_cmp_lt h, pn_cmp_eq g, pn_cmp_eq (by rw [g, Int.mul_zero])]; rfl
  · rw [pn_cmp_lt h, pn_cmp_gt g, pn_cmp_lt (Int.mul_neg_of_neg_of_pos h g)]; rfl
  · rw [pn_cmp_eq h, pn_cmp_lt g, pn_cmp_eq (by rw [h, Int.zero_mul])]; rfl
  · rw [pn_cmp_eq h, pn_cmp_eq g, pn_cmp_eq (by rw [h, Int.zero_mul])]; rfl
  · rw [pn_cmp_eq h, pn_cmp_gt g, pn_cmp_eq (by rw [h, Int.zero_mul])]; rfl
  · rw [pn_cmp_gt h, pn_cmp_lt g, pn_cmp_lt (Int.mul_neg_of_pos_of_neg h g)]; rfl
  · rw [pn_cmp_gt h, pn_cmp_eq g, pn_cmp_eq (by rw [g, Int.mul_zero])]; rfl
  · rw [pn_cmp_gt h, pn_cmp_gt g, pn_cmp_gt (Int.mul_pos h g)]; rfl
theorem pm_lim_sumI {A B : Int} {n : Nat} (hA : A.natAbs < 2 ^ n) (hB : B.natAbs < 2 ^ n) (hn : n + 1 ≤ 43200) : (A + B).natAbs < 65536 ^ 2700 :=
  pm_up43 (Nat.lt_of_le_of_lt (show (A + B).natAbs ≤ A.natAbs + B.natAbs by omega) (pm_lim_sum hA hB)) hn
theorem pm_le99 {wk mn : Nat → Nat} {b v : Nat} (h : pm_N wk mn b v) (hv : v < 10000 ^ 3012) : mn b ≤ 3199 := Nat.le_trans (pm_N_cnt h hv) (by decide)
theorem pm_lt3012 {v : Nat} (h : v < 10000 ^ 1506) : v < 10000 ^ 3012 := Nat.lt_of_lt_of_le h (pm_mono (by decide))
theorem pm_mul3012 {x y : Nat} (hx : x < 10000 ^ 1506) (hy : y < 10000 ^ 1506) : x * y < 10000 ^ 3012 := by
  rw [show 3012 = 1506 + 1506 from rfl, Nat.pow_add]
  exact Nat.mul_lt_mul_of_lt_of_le hx (Nat.le_of_lt hy) (Nat.pow_pos (by decide))

set_option maxHeartbeats 4000000 in
set_option maxRecDepth 100000 in
theorem c_M_add (l : Launch) (D : va_G) (cI cZ cB cJ : ClassId) (sz : Nat) (oM qW qM qK qJ qG qH qP cd pl : Nat) (wk mn : Nat → Nat) (hv kp km : Nat → Nat) (sg : Nat → Int32) (ρ : Nat → Int) (x y z : Int32) (hρ : pm_regs kp km sg ρ) : pn_Ci l D (pn_ty cI cZ cB cJ) y_M_add w_M_add ({ frames := 4, cells := 0, slots := 0, locals := 150 } : Room) [.ref oM, .int x, .int y, .int z] [(oM, .inr (5, [.int (nI cd), .ref qW, .ref qM, .ref qK, .ref qJ, .ref qG, .ref qH, .ref qP, .int (nI pl)])), (qW, .inl (cI, 22400, .inl (fun z9 => nI (wk z9)))), (qM, .inl (cI, 7, .inl (fun z9 => nI (mn z9)))), (qH, .inl (cI, 2700, .inl (fun z9 => nI (hv z9)))), (qK, .inl (cI, 36480, .inl (fun z9 => nI (kp z9)))), (qJ, .inl (cI, 24, .inl (fun z9 => nI (km z9)))), (qG, .inl (cI, 24, .inl sg))] sz (S := Nat × (Nat → Nat) × (Nat → Nat) × (Nat → Nat) × (Nat → Nat) × (Nat → Nat) × (Nat → Int32)) (fun r u => (u.1 = 1 ∧ ¬ (pn_isR x ∧ pn_isR y ∧ pn_isR z) ∧ pm_regs u.2.2.2.2.1 u.2.2.2.2.2.1 u.2.2.2.2.2.2 ρ) ∨ (∃ k a b, k < 24 ∧ a < 24 ∧ b < 24 ∧ x = nI k ∧ y = nI a ∧ z = nI b ∧ ((pn_lenI (pn_sum false (ρ a) (ρ b)) ≤ 20000 ∧ r = nI (pn_lenI (pn_sum false (ρ a) (ρ b))) ∧ u.1 = 0 ∧ pm_regs u.2.2.2.2.1 u.2.2.2.2.2.1 u.2.2.2.2.2.2 (pn_up ρ k (pn_sum false (ρ a) (ρ b)))) ∨ (20000 < pn_lenI (pn_sum false (ρ a) (ρ b)) ∧ u.1 = 2 ∧ pm_regs u.2.2.2.2.1 u.2.2.2.2.2.1 u.2.2.2.2.2.2 ρ)))) (fun u => [(oM, .inr (5, [.int (nI u.1), .ref qW, .ref qM, .ref qK, .ref qJ, .ref qG, .ref qH, .ref qP, .int (nI pl)])), (qW, .inl (cI, 22400, .inl (fun z9 => nI (u.2.1 z9)))), (qM, .inl (cI, 7, .inl (fun z9 => nI (u.2.2.1 z9)))), (qH, .inl (cI, 2700, .inl (fun z9 => nI (u.2.2.2.1 z9)))), (qK, .inl (cI, 36480, .inl (fun z9 => nI (u.2.2.2.2.1 z9)))), (qJ, .inl (cI, 24, .inl (fun z9 => nI (u.2.2.2.2.2.1 z9)))), (qG, .inl (cI, 24, .inl u.2.2.2.2.2.2))]) := by
  refine pn_start (by decide) (Nat.le_of_ble_eq_true rfl) ?_
  intro p e s m below meth c A Q ls hQ hAe Fx hr hlocks hN hK hP hD hS hA hl
  have hx := Fx.1
  have hb := Fx.2.1
  have hl : lv_has ls 5 [(0, .ref oM), (1, .int x), (2, .int y), (3, .int z)] := hl
  refine lv_aload_n hx hb d_M_add_0 rfl (lv_at hl 0 rfl) ?_
  refine lv_iload_n hx hb d_M_add_1 rfl (lv_at hl 1 rfl) ?_
  refine lv_iload_n hx hb d_M_add_2 rfl (lv_at hl 2 rfl) ?_
  refine lv_iload_n hx hb d_M_add_3 rfl (lv_at hl 3 rfl) ?_
  refine pn_bi (wr := [(oM, .inr (5, [.int (nI cd), .ref qW, .ref qM, .ref qK, .ref qJ, .ref qG, .ref qH, .ref qP, .int (nI pl)])), (qW, .inl (cI, 22400, .inl (fun z9 => nI (wk z9)))), (qM, .inl (cI, 7, .inl (fun z9 => nI (mn z9)))), (qH, .inl (cI, 2700, .inl (fun z9 => nI (hv z9)))), (qK, .inl (cI, 36480, .inl (fun z9 => nI (kp z9)))), (qJ, .inl (cI, 24, .inl (fun z9 => nI (km z9)))), (qG, .inl (cI, 24, .inl sg))]) [] [0, 1, 2, 3, 4, 5, 6] hP hD hS hA (pn_rS [.int x, .int y, .int z] [.ref oM] Fx hK hN hP hD [] rfl rfl (c_M_are l D cI cZ cB cJ _ x y z) kw_724 cal_M_are stat_M_are ⟨by decide, by decide⟩ ⟨rfl, rfl⟩ rfl hl.1 (Nat.le_of_ble_eq_true rfl) d_M_add_4 ⟨Nat.zero_le _, Nat.zero_le _⟩) rfl rfl rfl (by decide) (fun r_4 u_4 H locs hw hP hD hS => ?_)
  obtain ⟨rfl, h4⟩ := hw
  have hP : va_P D pn_cl [(oM, .inr (5, [.int (nI cd), .ref qW, .ref qM, .ref qK, .ref qJ, .ref qG, .ref qH, .ref qP, .int (nI pl)])), (qW, .inl (cI, 22400, .inl (fun z9 => nI (wk z9)))), (qM, .inl (cI, 7, .inl (fun z9 => nI (mn z9)))), (qH, .inl (cI, 2700, .inl (fun z9 => nI (hv z9)))), (qK, .inl (cI, 36480, .inl (fun z9 => nI (kp z9)))), (qJ, .inl (cI, 24, .inl (fun z9 => nI (km z9)))), (qG, .inl (cI, 24, .inl sg))] H := hP
  have hD : va_D A [(oM, .inr (5, [.int (nI cd), .ref qW, .ref qM, .ref qK, .ref qJ, .ref qG, .ref qH, .ref qP, .int (nI pl)])), (qW, .inl (cI, 22400, .inl (fun z9 => nI (wk z9)))), (qM, .inl (cI, 7, .inl (fun z9 => nI (mn z9)))), (qH, .inl (cI, 2700, .inl (fun z9 => nI (hv z9)))), (qK, .inl (cI, 36480, .inl (fun z9 => nI (kp z9)))), (qJ, .inl (cI, 24, .inl (fun z9 => nI (km z9)))), (qG, .inl (cI, 24, .inl sg))] := hD
  refine pw_ifb_eq (tgt := 14) hx hb d_M_add_7 (by decide) (fun h_7 => ?_) (fun h_7 => ?_)
  · skip
    have hno : ¬ (pn_isR x ∧ pn_isR y ∧ pn_isR z) := fun q => absurd (h4.mpr q) (by rw [h_7]; decide)
    refine lv_iconst (v := nI 1) hx hb d_M_add_14 (by decide) ?_
    refine pn_bi (wr := [(qW, .inl (cI, 22400, .inl (fun z9 => nI (wk z9)))), (qM, .inl (cI, 7, .inl (fun z9 => nI (mn z9)))), (qH, .inl (cI, 2700, .inl (fun z9 => nI (hv z9)))), (qK, .inl (cI, 36480, .inl (fun z9 => nI (kp z9)))), (qJ, .inl (cI, 24, .inl (fun z9 => nI (km z9)))), (qG, .inl (cI, 24, .inl sg))]) [0] [1, 2, 3, 4, 5, 6] hP hD hS hA (pn_rV [.int (nI 1)] [] Fx hK hN hP hD [0] rfl rfl (c_M_refuses l D cI cZ cB cJ _ oM qW qM qK qJ qG qH qP cd pl 1 (by omega)) kw_669 cal_M_refuses inst_M_refuses sel_M_refuses ⟨by decide, by decide⟩ ⟨rfl, rfl⟩ 0 rfl rfl rfl rfl hl.1 (Nat.le_of_ble_eq_true rfl) d_M_add_15 ⟨Nat.zero_le _, Nat.zero_le _⟩) rfl rfl rfl (by decide) (fun r_15 u_15 H locs hw hP hD hS => ?_)
    obtain ⟨rfl, hrf15⟩ := hw
    have hP : va_P D pn_cl [(qW, .inl (cI, 22400, .inl (fun z9 => nI (wk z9)))), (qM, .inl (cI, 7, .inl (fun z9 => nI (mn z9)))), (qH, .inl (cI, 2700, .inl (fun z9 => nI (hv z9)))), (qK, .inl (cI, 36480, .inl (fun z9 => nI (kp z9)))), (qJ, .inl (cI, 24, .inl (fun z9 => nI (km z9)))), (qG, .inl (cI, 24, .inl sg)), (oM, .inr (5, [.int (nI 1), .ref qW, .ref qM, .ref qK, .ref qJ, .ref qG, .ref qH, .ref qP, .int (nI pl)]))] H := hP
    have hD : va_D A [(qW, .inl (cI, 22400, .inl (fun z9 => nI (wk z9)))), (qM, .inl (cI, 7, .inl (fun z9 => nI (mn z9)))), (qH, .inl (cI, 2700, .inl (fun z9 => nI (hv z9)))), (qK, .inl (cI, 36480, .inl (fun z9 => nI (kp z9)))), (qJ, .inl (cI, 24, .inl (fun z9 => nI (km z9)))), (qG, .inl (cI, 24, .inl sg)), (oM, .inr (5, [.int (nI 1), .ref qW, .ref qM, .ref qK, .ref qJ, .ref qG, .ref qH, .ref qP, .int (nI pl)]))] := hD
    refine pw_ifb_eq (tgt := 23) hx hb d_M_add_18 (by decide) (fun h_18 => ?_) (fun h_18 => ?_)
    · skip
      rw [hrf15] at h_18
      exact absurd h_18 (by decide)
    · skip
      refine lv_iconst (v := nI 0) hx hb d_M_add_21 (by decide) ?_
      exact pn_reti ((1, wk, mn, hv, kp, km, sg)) Fx hr hlocks hQ hAe (hP.sub [6, 0, 1, 2, 3, 4, 5] rfl) (hD.sub [6, 0, 1, 2, 3, 4, 5] (by decide) rfl) hS (by (try dsimp only); first | done | exact (Or.inl ⟨rfl, hno, hρ⟩)) d_M_add_22
  · skip
    obtain ⟨⟨k, hk, rfl⟩, ⟨a, ha, rfl⟩, ⟨b, hb9, rfl⟩⟩ := h4.mp h_7
    refine lv_iconst (v := nI 0) hx hb d_M_add_10 (by decide) ?_
    refine lv_goto (tgt := 15) hx hb d_M_add_11 (by decide) ?_
    refine pn_bi (wr := [(qW, .inl (cI, 22400, .inl (fun z9 => nI (wk z9)))), (qM, .inl (cI, 7, .inl (fun z9 => nI (mn z9)))), (qH, .inl (cI, 2700, .inl (fun z9 => nI (hv z9)))), (qK, .inl (cI, 36480, .inl (fun z9 => nI (kp z9)))), (qJ, .inl (cI, 24, .inl (fun z9 => nI (km z9)))), (qG, .inl (cI, 24, .inl sg))]) [0] [1, 2, 3, 4, 5, 6] hP hD hS hA (pn_rV [.int (nI 0)] [] Fx hK hN hP hD [0] rfl rfl (c_M_refuses l D cI cZ cB cJ _ oM qW qM qK qJ qG qH qP cd pl 0 (by omega)) kw_669 cal_M_refuses inst_M_refuses sel_M_refuses ⟨by decide, by decide⟩ ⟨rfl, rfl⟩ 0 rfl rfl rfl rfl hl.1 (Nat.le_of_ble_eq_true rfl) d_M_add_15 ⟨Nat.zero_le _, Nat.zero_le _⟩) rfl rfl rfl (by decide) (fun r_15 u_15 H locs hw hP hD hS => ?_)
    obtain ⟨rfl, hrf15⟩ := hw
    have hP : va_P D pn_cl [(qW, .inl (cI, 22400, .inl (fun z9 => nI (wk z9)))), (qM, .inl (cI, 7, .inl (fun z9 => nI (mn z9)))), (qH, .inl (cI, 2700, .inl (fun z9 => nI (hv z9)))), (qK, .inl (cI, 36480, .inl (fun z9 => nI (kp z9)))), (qJ, .inl (cI, 24, .inl (fun z9 => nI (km z9)))), (qG, .inl (cI, 24, .inl sg)), (oM, .inr (5, [.int (nI 0), .ref qW, .ref qM, .ref qK, .ref qJ, .ref qG, .ref qH, .ref qP, .int (nI pl)]))] H := hP
    have hD : va_D A [(qW, .inl (cI, 22400, .inl (fun z9 => nI (wk z9)))), (qM, .inl (cI, 7, .inl (fun z9 => nI (mn z9)))), (qH, .inl (cI, 2700, .inl (fun z9 => nI (hv z9)))), (qK, .inl (cI, 36480, .inl (fun z9 => nI (kp z9)))), (qJ, .inl (cI, 24, .inl (fun z9 => nI (km z9)))), (qG, .inl (cI, 24, .inl sg)), (oM, .inr (5, [.int (nI 0), .ref qW, .ref qM, .ref qK, .ref qJ, .ref qG, .ref qH, .ref qP, .int (nI pl)]))] := hD
    refine pw_ifb_eq (tgt := 23) hx hb d_M_add_18 (by decide) (fun h_18 => ?_) (fun h_18 => ?_)
    · skip
      refine lv_aload_n hx hb d_M_add_23 rfl (lv_at hl 0 rfl) ?_
      refine lv_iconst (v := nI 0) hx hb d_M_add_24 (by decide) ?_
      refine lv_iload_n hx hb d_M_add_25 rfl (lv_at hl 2 rfl) ?_
      refine pn_bv (wr := [(qH, .inl (cI, 2700, .inl (fun z9 => nI (hv z9)))), (qG, .inl (cI, 24, .inl sg))]) [6, 0, 1, 3, 4] [2, 5] hP hD hS hA (pn_rV [.int (nI 0), .int (nI a)] [] Fx hK hN hP hD [6, 0, 1, 3, 4] rfl rfl (c_M_load l D cI cZ cB cJ _ oM qW qM qK qJ qG qH qP 0 pl wk mn kp km 0 a ((ρ a).natAbs) (by omega) ha (hρ a ha).1) kw_703 cal_M_load inst_M_load sel_M_load ⟨by decide, by decide⟩ ⟨rfl, rfl⟩ 0 rfl rfl rfl rfl hl.1 (Nat.le_of_ble_eq_true rfl) d_M_add_26 ⟨Nat.zero_le _, Nat.zero_le _⟩) rfl rfl rfl (by decide) (fun u_26 H locs hw hP hD hS => ?_)
      obtain ⟨hn26, hK26⟩ := hw
      have hP : va_P D pn_cl [(qH, .inl (cI, 2700, .inl (fun z9 => nI (hv z9)))), (qG, .inl (cI, 24, .inl sg)), (oM, .inr (5, [.int (nI 0), .ref qW, .ref qM, .ref qK, .ref qJ, .ref qG, .ref qH, .ref qP, .int (nI pl)])), (qW, .inl (cI, 22400, .inl (fun z9 => nI (u_26 z9)))), (qM, .inl (cI, 7, .inl (fun z9 => nI ((pn_up mn 0 (km a)) z9)))), (qK, .inl (cI, 36480, .inl (fun z9 => nI (kp z9)))), (qJ, .inl (cI, 24, .inl (fun z9 => nI (km z9))))] H := hP
      have hD : va_D A [(qH, .inl (cI, 2700, .inl (fun z9 => nI (hv z9)))), (qG, .inl (cI, 24, .inl sg)), (oM, .inr (5, [.int (nI 0), .ref qW, .ref qM, .ref qK, .ref qJ, .ref qG, .ref qH, .ref qP, .int (nI pl)])), (qW, .inl (cI, 22400, .inl (fun z9 => nI (u_26 z9)))), (qM, .inl (cI, 7, .inl (fun z9 => nI ((pn_up mn 0 (km a)) z9)))), (qK, .inl (cI, 36480, .inl (fun z9 => nI (kp z9)))), (qJ, .inl (cI, 24, .inl (fun z9 => nI (km z9))))] := hD
      refine lv_aload_n hx hb d_M_add_29 rfl (lv_at hl 0 rfl) ?_
      refine lv_iconst (v := nI 1) hx hb d_M_add_30 (by decide) ?_
      refine lv_iload_n hx hb d_M_add_31 rfl (lv_at hl 3 rfl) ?_
      refine pn_bv (wr := [(qH, .inl (cI, 2700, .inl (fun z9 => nI (hv z9)))), (qG, .inl (cI, 24, .inl sg))]) [2, 3, 4, 5, 6] [0, 1] hP hD hS hA (pn_rV [.int (nI 1), .int (nI b)] [] Fx hK hN hP hD [2, 3, 4, 5, 6] rfl rfl (c_M_load l D cI cZ cB cJ _ oM qW qM qK qJ qG qH qP 0 pl u_26 (pn_up mn 0 (km a)) kp km 1 b ((ρ b).natAbs) (by omega) hb9 (hρ b hb9).1) kw_703 cal_M_load inst_M_load sel_M_load ⟨by decide, by decide⟩ ⟨rfl, rfl⟩ 0 rfl rfl rfl rfl hl.1 (Nat.le_of_ble_eq_true rfl) d_M_add_32 ⟨Nat.zero_le _, Nat.zero_le _⟩) rfl rfl rfl (by decide) (fun u_32 H locs hw hP hD hS => ?_)
      obtain ⟨hn32, hK32⟩ := hw
      have hP : va_P D pn_cl [(qH, .inl (cI, 2700, .inl (fun z9 => nI (hv z9)))), (qG, .inl (cI, 24, .inl sg)), (oM, .inr (5, [.int (nI 0), .ref qW, .ref qM, .ref qK, .ref qJ, .ref qG, .ref qH, .ref qP, .int (nI pl)])), (qW, .inl (cI, 22400, .inl (fun z9 => nI (u_32 z9)))), (qM, .inl (cI, 7, .inl (fun z9 => nI ((pn_up (pn_up mn 0 (km a)) 1 (km b)) z9)))), (qK, .inl (cI, 36480, .inl (fun z9 => nI (kp z9)))), (qJ, .inl (cI, 24, .inl (fun z9 => nI (km z9))))] H := hP
      have hD : va_D A [(qH, .inl (cI, 2700, .inl (fun z9 => nI (hv z9)))), (qG, .inl (cI, 24, .inl sg)), (oM, .inr (5, [.int (nI 0), .ref qW, .ref qM, .ref qK, .ref qJ, .ref qG, .ref qH, .ref qP, .int (nI pl)])), (qW, .inl (cI, 22400, .inl (fun z9 => nI (u_32 z9)))), (qM, .inl (cI, 7, .inl (fun z9 => nI ((pn_up (pn_up mn 0 (km a)) 1 (km b)) z9)))), (qK, .inl (cI, 36480, .inl (fun z9 => nI (kp z9)))), (qJ, .inl (cI, 24, .inl (fun z9 => nI (km z9))))] := hD
      have hn0 := hK32 0 _ (by omega) hn26
      have hn1 := hn32
      refine lv_aload_n hx hb d_M_add_35 rfl (lv_at hl 0 rfl) ?_
      refine lv_aload_n hx hb d_M_add_36 rfl (lv_at hl 0 rfl) ?_
      refine pw_get Fx hK hP fld_M 2 rfl 5 (by decide) kw_635 (v := .ref qG) rfl d_M_add_37 ?_
      refine lv_iload_n hx hb d_M_add_40 rfl (lv_at hl 2 rfl) ?_
      refine pw_iald Fx hK hP 1 0 (f := sg) rfl rfl (k := a) (by omega) (by decide) d_M_add_41 ?_
      refine lv_aload_n hx hb d_M_add_42 rfl (lv_at hl 0 rfl) ?_
      refine pw_get Fx hK hP fld_M 2 rfl 5 (by decide) kw_635 (v := .ref qG) rfl d_M_add_43 ?_
      refine lv_iload_n hx hb d_M_add_46 rfl (lv_at hl 3 rfl) ?_
      refine pw_iald Fx hK hP 1 0 (f := sg) rfl rfl (k := b) (by omega) (by decide) d_M_add_47 ?_
      refine pn_bi (wr := [(qH, .inl (cI, 2700, .inl (fun z9 => nI (hv z9)))), (qG, .inl (cI, 24, .inl sg)), (qK, .inl (cI, 36480, .inl (fun z9 => nI (kp z9)))), (qJ, .inl (cI, 24, .inl (fun z9 => nI (km z9))))]) [2, 3, 4] [0, 1, 5, 6] hP hD hS hA (pn_rV [.int (sg a), .int (sg b)] [] Fx hK hN hP hD [2, 3, 4] rfl rfl (c_M_sum l D cI cZ cB cJ _ oM qW qM qK qJ qG qH qP 0 pl u_32 (pn_up (pn_up mn 0 (km a)) 1 (km b)) (sg a) (sg b) (ρ a) (ρ b) (hρ a ha).2.1 (hρ b hb9).2.1 hn0 hn1 (pm_le99 hn0 (pm_lt3012 (pm_rb2 hρ ha).2)) (pm_le99 hn1 (pm_lt3012 (pm_rb2 hρ hb9).2))) kw_739 cal_M_sum inst_M_sum sel_M_sum ⟨by decide, by decide⟩ ⟨rfl, rfl⟩ 0 rfl rfl rfl rfl hl.1 (Nat.le_of_ble_eq_true rfl) d_M_add_48 ⟨Nat.zero_le _, Nat.zero_le _⟩) rfl rfl rfl (by decide) (fun r_48 u_48 H locs hw hP hD hS => ?_)
      obtain ⟨w48, m48⟩ := u_48
      obtain ⟨hr48, hs48⟩ := hw
      have hP : va_P D pn_cl [(qH, .inl (cI, 2700, .inl (fun z9 => nI (hv z9)))), (qG, .inl (cI, 24, .inl sg)), (qK, .inl (cI, 36480, .inl (fun z9 => nI (kp z9)))), (qJ, .inl (cI, 24, .inl (fun z9 => nI (km z9)))), (oM, .inr (5, [.int (nI 0), .ref qW, .ref qM, .ref qK, .ref qJ, .ref qG, .ref qH, .ref qP, .int (nI pl)])), (qW, .inl (cI, 22400, .inl (fun z9 => nI (w48 z9)))), (qM, .inl (cI, 7, .inl (fun z9 => nI (m48 z9))))] H := hP
      have hD : va_D A [(qH, .inl (cI, 2700, .inl (fun z9 => nI (hv z9)))), (qG, .inl (cI, 24, .inl sg)), (qK, .inl (cI, 36480, .inl (fun z9 => nI (kp z9)))), (qJ, .inl (cI, 24, .inl (fun z9 => nI (km z9)))), (oM, .inr (5, [.int (nI 0), .ref qW, .ref qM, .ref qK, .ref qJ, .ref qG, .ref qH, .ref qP, .int (nI pl)])), (qW, .inl (cI, 22400, .inl (fun z9 => nI (w48 z9)))), (qM, .inl (cI, 7, .inl (fun z9 => nI (m48 z9))))] := hD
      dsimp only at hr48 hs48
      refine lv_istore (lv' := [(4, .int r_48), (0, .ref oM), (1, .int (nI k)), (2, .int (nI a)), (3, .int (nI b))]) hx hb d_M_add_51 hl (by decide) rfl (fun ls hl => ?_)
      refine lv_aload_n hx hb d_M_add_53 rfl (lv_at hl 1 rfl) ?_
      refine lv_iload_n hx hb d_M_add_54 rfl (lv_at hl 2 rfl) ?_
      refine lv_iconst (v := nI 0) hx hb d_M_add_55 (by decide) ?_
      refine lv_iload hx hb d_M_add_56 (lv_at hl 0 rfl) ?_
      refine lv_iconst (v := nI 2) hx hb d_M_add_58 (by decide) ?_
      refine pn_bi (wr := []) [4, 5, 6, 0, 2, 3, 1] [] hP hD hS hA (pn_rV [.int (nI k), .int (nI 0), .int r_48, .int (nI 2)] [] Fx hK hN hP hD [4, 5, 6, 0, 2, 3, 1] rfl rfl (c_M_put l D cI cZ cB cJ _ oM qW qM qK qJ qG qH qP 0 pl w48 m48 hv kp km sg (ρ) k 0 2 r_48 (ρ a + ρ b) (by omega) (by omega) hk (by omega) (by omega) hs48 (pm_lim_sumI (pm_rb2 hρ ha).1 (pm_rb2 hρ hb9).1 (by decide)) (Or.inr hr48) hρ) kw_678 cal_M_put inst_M_put sel_M_put ⟨by decide, by decide⟩ ⟨rfl, rfl⟩ 0 rfl rfl rfl rfl hl.1 (Nat.le_of_ble_eq_true rfl) d_M_add_59 ⟨Nat.zero_le _, Nat.zero_le _⟩) rfl rfl rfl (by decide) (fun r_59 u_59 H locs hw hP hD hS => ?_)
      obtain ⟨c8, w8, m8, h8, kp8, km8, sg8⟩ := u_59
      obtain ⟨hK59, hp59⟩ := hw
      have hP : va_P D pn_cl [(oM, .inr (5, [.int (nI c8), .ref qW, .ref qM, .ref qK, .ref qJ, .ref qG, .ref qH, .ref qP, .int (nI pl)])), (qW, .inl (cI, 22400, .inl (fun z9 => nI (w8 z9)))), (qM, .inl (cI, 7, .inl (fun z9 => nI (m8 z9)))), (qH, .inl (cI, 2700, .inl (fun z9 => nI (h8 z9)))), (qK, .inl (cI, 36480, .inl (fun z9 => nI (kp8 z9)))), (qJ, .inl (cI, 24, .inl (fun z9 => nI (km8 z9)))), (qG, .inl (cI, 24, .inl sg8))] H := hP
      have hD : va_D A [(oM, .inr (5, [.int (nI c8), .ref qW, .ref qM, .ref qK, .ref qJ, .ref qG, .ref qH, .ref qP, .int (nI pl)])), (qW, .inl (cI, 22400, .inl (fun z9 => nI (w8 z9)))), (qM, .inl (cI, 7, .inl (fun z9 => nI (m8 z9)))), (qH, .inl (cI, 2700, .inl (fun z9 => nI (h8 z9)))), (qK, .inl (cI, 36480, .inl (fun z9 => nI (kp8 z9)))), (qJ, .inl (cI, 24, .inl (fun z9 => nI (km8 z9)))), (qG, .inl (cI, 24, .inl sg8))] := hD
      dsimp only at hK59 hp59
      exact pn_reti ((c8, w8, m8, h8, kp8, km8, sg8)) Fx hr hlocks hQ hAe hP hD hS (by (try dsimp only); first | done | exact (Or.inr ⟨k, a, b, hk, ha, hb9, rfl, rfl, rfl, hp59.imp id (fun q => ⟨q.1, q.2.2⟩)⟩)) d_M_add_62
    · skip
      rw [hrf15] at h_18
      exact absurd h_18 (by decide)

set_option maxHeartbeats 4000000 in
set_option maxRecDepth 100000 in
theorem c_M_subtract (l : Launch) (D : va_G) (cI cZ cB cJ : ClassId) (sz : Nat) (oM qW qM qK qJ qG qH qP cd pl : Nat) (wk mn : Nat → Nat) (hv kp km : Nat → Nat) (sg : Nat → Int32) (ρ : Nat → Int) (x y z : Int32) (hρ : pm_regs kp km sg ρ) : pn_Ci l D (pn_ty cI cZ cB cJ) y_M_subtract w_M_subtract ({ frames := 4, cells := 0, slots := 0, locals := 150 } : Room) [.ref oM, .int x, .int y, .int z] [(oM, .inr (5, [.int (nI cd), .ref qW, .ref qM, .ref qK, .ref qJ, .ref qG, .ref qH, .ref qP, .int (nI pl)])), (qW, .inl (cI, 22400, .inl (fun z9 => nI (wk z9)))), (qM, .inl (cI, 7, .inl (fun z9 => nI (mn z9)))), (qH, .inl (cI, 2700, .inl (fun z9 => nI (hv z9)))), (qK, .inl (cI, 36480, .inl (fun z9 => nI (kp z9)))), (qJ, .inl (cI, 24, .inl (fun z9 => nI (km z9)))), (qG, .inl (cI, 24, .inl sg))] sz (S := Nat × (Nat → Nat) × (Nat → Nat) × (Nat → Nat) × (Nat → Nat) × (Nat → Nat) × (Nat → Int32)) (fun r u => (u.1 = 1 ∧ ¬ (pn_isR x ∧ pn_isR y ∧ pn_isR z) ∧ pm_regs u.2.2.2.2.1 u.2.2.2.2.2.1 u.2.2.2.2.2.2 ρ) ∨ (∃ k a b, k < 24 ∧ a < 24 ∧ b < 24 ∧ x = nI k ∧ y = nI a ∧ z = nI b ∧ ((pn_lenI (pn_sum true (ρ a) (ρ b)) ≤ 20000 ∧ r = nI (pn_lenI (pn_sum true (ρ a) (ρ b))) ∧ u.1 = 0 ∧ pm_regs u.2.2.2.2.1 u.2.2.2.2.2.1 u.2.2.2.2.2.2 (pn_up ρ k (pn_sum true (ρ a) (ρ b)))) ∨ (20000 < pn_lenI (pn_sum true (ρ a) (ρ b)) ∧ u.1 = 2 ∧ pm_regs u.2.2.2.2.1 u.2.2.2.2.2.1 u.2.2.2.2.2.2 ρ)))) (fun u => [(oM, .inr (5, [.int (nI u.1), .ref qW, .ref qM, .ref qK, .ref qJ, .ref qG, .ref qH, .ref qP, .int (nI pl)])), (qW, .inl (cI, 22400, .inl (fun z9 => nI (u.2.1 z9)))), (qM, .inl (cI, 7, .inl (fun z9 => nI (u.2.2.1 z9)))), (qH, .inl (cI, 2700, .inl (fun z9 => nI (u.2.2.2.1 z9)))), (qK, .inl (cI, 36480, .inl (fun z9 => nI (u.2.2.2.2.1 z9)))), (qJ, .inl (cI, 24, .inl (fun z9 => nI (u.2.2.2.2.2.1 z9)))), (qG, .inl (cI, 24, .inl u.2.2.2.2.2.2))]) := by
  refine pn_start (by decide) (Nat.le_of_ble_eq_true rfl) ?_
  intro p e s m below meth c A Q ls hQ hAe Fx hr hlocks hN hK hP hD hS hA hl
  have hx := Fx.1
  have hb := Fx.2.1
  have hl : lv_has ls 5 [(0, .ref oM), (1, .int x), (2, .int y), (3, .int z)] := hl
  refine lv_aload_n hx hb d_M_subtract_0 rfl (lv_at hl 0 rfl) ?_
  refine lv_iload_n hx hb d_M_subtract_1 rfl (lv_at hl 1 rfl) ?_
  refine lv_iload_n hx hb d_M_subtract_2 rfl (lv_at hl 2 rfl) ?_
  refine lv_iload_n hx hb d_M_subtract_3 rfl (lv_at hl 3 rfl) ?_
  refine pn_bi (wr := [(oM, .inr (5, [.int (nI cd), .ref qW, .ref qM, .ref qK, .ref qJ, .ref qG, .ref qH, .ref qP, .int (nI pl)])), (qW, .inl (cI, 22400, .inl (fun z9 => nI (wk z9)))), (qM, .inl (cI, 7, .inl (fun z9 => nI (mn z9)))), (qH, .inl (cI, 2700, .inl (fun z9 => nI (hv z9)))), (qK, .inl (cI, 36480, .inl (fun z9 => nI (kp z9)))), (qJ, .inl (cI, 24, .inl (fun z9 => nI (km z9)))), (qG, .inl (cI, 24, .inl sg))]) [] [0, 1, 2, 3, 4, 5, 6] hP hD hS hA (pn_rS [.int x, .int y, .int z] [.ref oM] Fx hK hN hP hD [] rfl rfl (c_M_are l D cI cZ cB cJ _ x y z) kw_724 cal_M_are stat_M_are ⟨by decide, by decide⟩ ⟨rfl, rfl⟩ rfl hl.1 (Nat.le_of_ble_eq_true rfl) d_M_subtract_4 ⟨Nat.zero_le _, Nat.zero_le _⟩) rfl rfl rfl (by decide) (fun r_4 u_4 H locs hw hP hD hS => ?_)
  obtain ⟨rfl, h4⟩ := hw
  have hP : va_P D pn_cl [(oM, .inr (5, [.int (nI cd), .ref qW, .ref qM, .ref qK, .ref qJ, .ref qG, .ref qH, .ref qP, .int (nI pl)])), (qW, .inl (cI, 22400, .inl (fun z9 => nI (wk z9)))), (qM, .inl (cI, 7, .inl (fun z9 => nI (mn z9)))), (qH, .inl (cI, 2700, .inl (fun z9 => nI (hv z9)))), (qK, .inl (cI, 36480, .inl (fun z9 => nI (kp z9)))), (qJ, .inl (cI, 24, .inl (fun z9 => nI (km z9)))), (qG, .inl (cI, 24, .inl sg))] H := hP
  have hD : va_D A [(oM, .inr (5, [.int (nI cd), .ref qW, .ref qM, .ref qK, .ref qJ, .ref qG, .ref qH, .ref qP, .int (nI pl)])), (qW, .inl (cI, 22400, .inl (fun z9 => nI (wk z9)))), (qM, .inl (cI, 7, .inl (fun z9 => nI (mn z9)))), (qH, .inl (cI, 2700, .inl (fun z9 => nI (hv z9)))), (qK, .inl (cI, 36480, .inl (fun z9 => nI (kp z9)))), (qJ, .inl (cI, 24, .inl (fun z9 => nI (km z9)))), (qG, .inl (cI, 24, .inl sg))] := hD
  refine pw_ifb_eq (tgt := 14) hx hb d_M_subtract_7 (by decide) (fun h_7 => ?_) (fun h_7 => ?_)
  · skip
    have hno : ¬ (pn_isR x ∧ pn_isR y ∧ pn_isR z) := fun q => absurd (h4.mpr q) (by rw [h_7]; decide)
    refine lv_iconst (v := nI 1) hx hb d_M_subtract_14 (by decide) ?_
    refine pn_bi (wr := [(qW, .inl (cI, 22400, .inl (fun z9 => nI (wk z9)))), (qM, .inl (cI, 7, .inl (fun z9 => nI (mn z9)))), (qH, .inl (cI, 2700, .inl (fun z9 => nI (hv z9)))), (qK, .inl (cI, 36480, .inl (fun z9 => nI (kp z9)))), (qJ, .inl (cI, 24, .inl (fun z9 => nI (km z9)))), (qG, .inl (cI, 24, .inl sg))]) [0] [1, 2, 3, 4, 5, 6] hP hD hS hA (pn_rV [.int (nI 1)] [] Fx hK hN hP hD [0] rfl rfl (c_M_refuses l D cI cZ cB cJ _ oM qW qM qK qJ qG qH qP cd pl 1 (by omega)) kw_669 cal_M_refuses inst_M_refuses sel_M_refuses ⟨by decide, by decide⟩ ⟨rfl, rfl⟩ 0 rfl rfl rfl rfl hl.1 (Nat.le_of_ble_eq_true rfl) d_M_subtract_15 ⟨Nat.zero_le _, Nat.zero_le _⟩) rfl rfl rfl (by decide) (fun r_15 u_15 H locs hw hP hD hS => ?_)
    obtain ⟨rfl, hrf15⟩ := hw
    have hP : va_P D pn_cl [(qW, .inl (cI, 22400, .inl (fun z9 => nI (wk z9)))), (qM, .inl (cI, 7, .inl (fun z9 => nI (mn z9)))), (qH, .inl (cI, 2700, .inl (fun z9 => nI (hv z9)))), (qK, .inl (cI, 36480, .inl (fun z9 => nI (kp z9)))), (qJ, .inl (cI, 24, .inl (fun z9 => nI (km z9)))), (qG, .inl (cI, 24, .inl sg)), (oM, .inr (5, [.int (nI 1), .ref qW, .ref qM, .ref qK, .ref qJ, .ref qG, .ref qH, .ref qP, .int (nI pl)]))] H := hP
    have hD : va_D A [(qW, .inl (cI, 22400, .inl (fun z9 => nI (wk z9)))), (qM, .inl (cI, 7, .inl (fun z9 => nI (mn z9)))), (qH, .inl (cI, 2700, .inl (fun z9 => nI (hv z9)))), (qK, .inl (cI, 36480, .inl (fun z9 => nI (kp z9)))), (qJ, .inl (cI, 24, .inl (fun z9 => nI (km z9)))), (qG, .inl (cI, 24, .inl sg)), (oM, .inr (5, [.int (nI 1), .ref qW, .ref qM, .ref qK, .ref qJ, .ref qG, .ref qH, .ref qP, .int (nI pl)]))] := hD
    refine pw_ifb_eq (tgt := 23) hx hb d_M_subtract_18 (by decide) (fun h_18 => ?_) (fun h_18 => ?_)
    · skip
      rw [hrf15] at h_18
      exact absurd h_18 (by decide)
    · skip
      refine lv_iconst (v := nI 0) hx hb d_M_subtract_21 (by decide) ?_
      exact pn_reti ((1, wk, mn, hv, kp, km, sg)) Fx hr hlocks hQ hAe (hP.sub [6, 0, 1, 2, 3, 4, 5] rfl) (hD.sub [6, 0, 1, 2, 3, 4, 5] (by decide) rfl) hS (by (try dsimp only); first | done | exact (Or.inl ⟨rfl, hno, hρ⟩)) d_M_subtract_22
  · skip
    obtain ⟨⟨k, hk, rfl⟩, ⟨a, ha, rfl⟩, ⟨b, hb9, rfl⟩⟩ := h4.mp h_7
    refine lv_iconst (v := nI 0) hx hb d_M_subtract_10 (by decide) ?_
    refine lv_goto (tgt := 15) hx hb d_M_subtract_11 (by decide) ?_
    refine pn_bi (wr := [(qW, .inl (cI, 22400, .inl (fun z9 => nI (wk z9)))), (qM, .inl (cI, 7, .inl (fun z9 => nI (mn z9)))), (qH, .inl (cI, 2700, .inl (fun z9 => nI (hv z9)))), (qK, .inl (cI, 36480, .inl (fun z9 => nI (kp z9)))), (qJ, .inl (cI, 24, .inl (fun z9 => nI (km z9)))), (qG, .inl (cI, 24, .inl sg))]) [0] [1, 2, 3, 4, 5, 6] hP hD hS hA (pn_rV [.int (nI 0)] [] Fx hK hN hP hD [0] rfl rfl (c_M_refuses l D cI cZ cB cJ _ oM qW qM qK qJ qG qH qP cd pl 0 (by omega)) kw_669 cal_M_refuses inst_M_refuses sel_M_refuses ⟨by decide, by decide⟩ ⟨rfl, rfl⟩ 0 rfl rfl rfl rfl hl.1 (Nat.le_of_ble_eq_true rfl) d_M_subtract_15 ⟨Nat.zero_le _, Nat.zero_le _⟩) rfl rfl rfl (by decide) (fun r_15 u_15 H locs hw hP hD hS => ?_)
    obtain ⟨rfl, hrf15⟩ := hw
    have hP : va_P D pn_cl [(qW, .inl (cI, 22400, .inl (fun z9 => nI (wk z9)))), (qM, .inl (cI, 7, .inl (fun z9 => nI (mn z9)))), (qH, .inl (cI, 2700, .inl (fun z9 => nI (hv z9)))), (qK, .inl (cI, 36480, .inl (fun z9 => nI (kp z9)))), (qJ, .inl (cI, 24, .inl (fun z9 => nI (km z9)))), (qG, .inl (cI, 24, .inl sg)), (oM, .inr (5, [.int (nI 0), .ref qW, .ref qM, .ref qK, .ref qJ, .ref qG, .ref qH, .ref qP, .int (nI pl)]))] H := hP
    have hD : va_D A [(qW, .inl (cI, 22400, .inl (fun z9 => nI (wk z9)))), (qM, .inl (cI, 7, .inl (fun z9 => nI (mn z9)))), (qH, .inl (cI, 2700, .inl (fun z9 => nI (hv z9)))), (qK, .inl (cI, 36480, .inl (fun z9 => nI (kp z9)))), (qJ, .inl (cI, 24, .inl (fun z9 => nI (km z9)))), (qG, .inl (cI, 24, .inl sg)), (oM, .inr (5, [.int (nI 0), .ref qW, .ref qM, .ref qK, .ref qJ, .ref qG, .ref qH, .ref qP, .int (nI pl)]))] := hD
    refine pw_ifb_eq (tgt := 23) hx hb d_M_subtract_18 (by decide) (fun h_18 => ?_) (fun h_18 => ?_)
    · skip
      refine lv_aload_n hx hb d_M_subtract_23 rfl (lv_at hl 0 rfl) ?_
      refine lv_iconst (v := nI 0) hx hb d_M_subtract_24 (by decide) ?_
      refine lv_iload_n hx hb d_M_subtract_25 rfl (lv_at hl 2 rfl) ?_
      refine pn_bv (wr := [(qH, .inl (cI, 2700, .inl (fun z9 => nI (hv z9)))), (qG, .inl (cI, 24, .inl sg))]) [6, 0, 1, 3, 4] [2, 5] hP hD hS hA (pn_rV [.int (nI 0), .int (nI a)] [] Fx hK hN hP hD [6, 0, 1, 3, 4] rfl rfl (c_M_load l D cI cZ cB cJ _ oM qW qM qK qJ qG qH qP 0 pl wk mn kp km 0 a ((ρ a).natAbs) (by omega) ha (hρ a ha).1) kw_703 cal_M_load inst_M_load sel_M_load ⟨by decide, by decide⟩ ⟨rfl, rfl⟩ 0 rfl rfl rfl rfl hl.1 (Nat.le_of_ble_eq_true rfl) d_M_subtract_26 ⟨Nat.zero_le _, Nat.zero_le _⟩) rfl rfl rfl (by decide) (fun u_26 H locs hw hP hD hS => ?_)
      obtain ⟨hn26, hK26⟩ := hw
      have hP : va_P D pn_cl [(qH, .inl (cI, 2700, .inl (fun z9 => nI (hv z9)))), (qG, .inl (cI, 24, .inl sg)), (oM, .inr (5, [.int (nI 0), .ref qW, .ref qM, .ref qK, .ref qJ, .ref qG, .ref qH, .ref qP, .int (nI pl)])), (qW, .inl (cI, 22400, .inl (fun z9 => nI (u_26 z9)))), (qM, .inl (cI, 7, .inl (fun z9 => nI ((pn_up mn 0 (km a)) z9)))), (qK, .inl (cI, 36480, .inl (fun z9 => nI (kp z9)))), (qJ, .inl (cI, 24, .inl (fun z9 => nI (km z9))))] H := hP
      have hD : va_D A [(qH, .inl (cI, 2700, .inl (fun z9 => nI (hv z9)))), (qG, .inl (cI, 24, .inl sg)), (oM, .inr (5, [.int (nI 0), .ref qW, .ref qM, .ref qK, .ref qJ, .ref qG, .ref qH, .ref qP, .int (nI pl)])), (qW, .inl (cI, 22400, .inl (fun z9 => nI (u_26 z9)))), (qM, .inl (cI, 7, .inl (fun z9 => nI ((pn_up mn 0 (km a)) z9)))), (qK, .inl (cI, 36480, .inl (fun z9 => nI (kp z9)))), (qJ, .inl (cI, 24, .inl (fun z9 => nI (km z9))))] := hD
      refine lv_aload_n hx hb d_M_subtract_29 rfl (lv_at hl 0 rfl) ?_
      refine lv_iconst (v := nI 1) hx hb d_M_subtract_30 (by decide) ?_
      refine lv_iload_n hx hb d_M_subtract_31 rfl (lv_at hl 3 rfl) ?_
      refine pn_bv (wr := [(qH, .inl (cI, 2700, .inl (fun z9 => nI (hv z9)))), (qG, .inl (cI, 24, .inl sg))]) [2, 3, 4, 5, 6] [0, 1] hP hD hS hA (pn_rV [.int (nI 1), .int (nI b)] [] Fx hK hN hP hD [2, 3, 4, 5, 6] rfl rfl (c_M_load l D cI cZ cB cJ _ oM qW qM qK qJ qG qH qP 0 pl u_26 (pn_up mn 0 (km a)) kp km 1 b ((ρ b).natAbs) (by omega) hb9 (hρ b hb9).1) kw_703 cal_M_load inst_M_load sel_M_load ⟨by decide, by decide⟩ ⟨rfl, rfl⟩ 0 rfl rfl rfl rfl hl.1 (Nat.le_of_ble_eq_true rfl) d_M_subtract_32 ⟨Nat.zero_le _, Nat.zero_le _⟩) rfl rfl rfl (by decide) (fun u_32 H locs hw hP hD hS => ?_)
      obtain ⟨hn32, hK32⟩ := hw
      have hP : va_P D pn_cl [(qH, .inl (cI, 2700, .inl (fun z9 => nI (hv z9)))), (qG, .inl (cI, 24, .inl sg)), (oM, .inr (5, [.int (nI 0), .ref qW, .ref qM, .ref qK, .ref qJ, .ref qG, .ref qH, .ref qP, .int (nI pl)])), (qW, .inl (cI, 22400, .inl (fun z9 => nI (u_32 z9)))), (qM, .inl (cI, 7, .inl (fun z9 => nI ((pn_up (pn_up mn 0 (km a)) 1 (km b)) z9)))), (qK, .inl (cI, 36480, .inl (fun z9 => nI (kp z9)))), (qJ, .inl (cI, 24, .inl (fun z9 => nI (km z9))))] H := hP
      have hD : va_D A [(qH, .inl (cI, 2700, .inl (fun z9 => nI (hv z9)))), (qG, .inl (cI, 24, .inl sg)), (oM, .inr (5, [.int (nI 0), .ref qW, .ref qM, .ref qK, .ref qJ, .ref qG, .ref qH, .ref qP, .int (nI pl)])), (qW, .inl (cI, 22400, .inl (fun z9 => nI (u_32 z9)))), (qM, .inl (cI, 7, .inl (fun z9 => nI ((pn_up (pn_up mn 0 (km a)) 1 (km b)) z9)))), (qK, .inl (cI, 36480, .inl (fun z9 => nI (kp z9)))), (qJ, .inl (cI, 24, .inl (fun z9 => nI (km z9))))] := hD
      have hn0 := hK32 0 _ (by omega) hn26
      have hn1 := hn32
      rw [← Int.natAbs_neg] at hn1
      refine lv_aload_n hx hb d_M_subtract_35 rfl (lv_at hl 0 rfl) ?_
      refine lv_aload_n hx hb d_M_subtract_36 rfl (lv_at hl 0 rfl) ?_
      refine pw_get Fx hK hP fld_M 2 rfl 5 (by decide) kw_635 (v := .ref qG) rfl d_M_subtract_37 ?_
      refine lv_iload_n hx hb d_M_subtract_40 rfl (lv_at hl 2 rfl) ?_
      refine pw_iald Fx hK hP 1 0 (f := sg) rfl rfl (k := a) (by omega) (by decide) d_M_subtract_41 ?_
      refine lv_aload_n hx hb d_M_subtract_42 rfl (lv_at hl 0 rfl) ?_
      refine pw_get Fx hK hP fld_M 2 rfl 5 (by decide) kw_635 (v := .ref qG) rfl d_M_subtract_43 ?_
      refine lv_iload_n hx hb d_M_subtract_46 rfl (lv_at hl 3 rfl) ?_
      refine pw_iald Fx hK hP 1 0 (f := sg) rfl rfl (k := b) (by omega) (by decide) d_M_subtract_47 ?_
      refine lv_ineg hx hb d_M_subtract_48 ?_
      refine pn_bi (wr := [(qH, .inl (cI, 2700, .inl (fun z9 => nI (hv z9)))), (qG, .inl (cI, 24, .inl sg)), (qK, .inl (cI, 36480, .inl (fun z9 => nI (kp z9)))), (qJ, .inl (cI, 24, .inl (fun z9 => nI (km z9))))]) [2, 3, 4] [0, 1, 5, 6] hP hD hS hA (pn_rV [.int (sg a), .int (-(sg b))] [] Fx hK hN hP hD [2, 3, 4] rfl rfl (c_M_sum l D cI cZ cB cJ _ oM qW qM qK qJ qG qH qP 0 pl u_32 (pn_up (pn_up mn 0 (km a)) 1 (km b)) (sg a) (-sg b) (ρ a) (-ρ b) (hρ a ha).2.1 (by rw [(hρ b hb9).2.1]; exact pm_neg_cmp) hn0 hn1 (pm_le99 hn0 (pm_lt3012 (pm_rb2 hρ ha).2)) (pm_le99 hn1 (show (-ρ b).natAbs < 10000 ^ 3012 by rw [Int.natAbs_neg]; exact (pm_lt3012 (pm_rb2 hρ hb9).2)))) kw_739 cal_M_sum inst_M_sum sel_M_sum ⟨by decide, by decide⟩ ⟨rfl, rfl⟩ 0 rfl rfl rfl rfl hl.1 (Nat.le_of_ble_eq_true rfl) d_M_subtract_49 ⟨Nat.zero_le _, Nat.zero_le _⟩) rfl rfl rfl (by decide) (fun r_49 u_49 H locs hw hP hD hS => ?_)
      obtain ⟨w49, m49⟩ := u_49
      obtain ⟨hr49, hs49⟩ := hw
      have hP : va_P D pn_cl [(qH, .inl (cI, 2700, .inl (fun z9 => nI (hv z9)))), (qG, .inl (cI, 24, .inl sg)), (qK, .inl (cI, 36480, .inl (fun z9 => nI (kp z9)))), (qJ, .inl (cI, 24, .inl (fun z9 => nI (km z9)))), (oM, .inr (5, [.int (nI 0), .ref qW, .ref qM, .ref qK, .ref qJ, .ref qG, .ref qH, .ref qP, .int (nI pl)])), (qW, .inl (cI, 22400, .inl (fun z9 => nI (w49 z9)))), (qM, .inl (cI, 7, .inl (fun z9 => nI (m49 z9))))] H := hP
      have hD : va_D A [(qH, .inl (cI, 2700, .inl (fun z9 => nI (hv z9)))), (qG, .inl (cI, 24, .inl sg)), (qK, .inl (cI, 36480, .inl (fun z9 => nI (kp z9)))), (qJ, .inl (cI, 24, .inl (fun z9 => nI (km z9)))), (oM, .inr (5, [.int (nI 0), .ref qW, .ref qM, .ref qK, .ref qJ, .ref qG, .ref qH, .ref qP, .int (nI pl)])), (qW, .inl (cI, 22400, .inl (fun z9 => nI (w49 z9)))), (qM, .inl (cI, 7, .inl (fun z9 => nI (m49 z9))))] := hD
      dsimp only at hr49 hs49
      refine lv_istore (lv' := [(4, .int r_49), (0, .ref oM), (1, .int (nI k)), (2, .int (nI a)), (3, .int (nI b))]) hx hb d_M_subtract_52 hl (by decide) rfl (fun ls hl => ?_)
      refine lv_aload_n hx hb d_M_subtract_54 rfl (lv_at hl 1 rfl) ?_
      refine lv_iload_n hx hb d_M_subtract_55 rfl (lv_at hl 2 rfl) ?_
      refine lv_iconst (v := nI 0) hx hb d_M_subtract_56 (by decide) ?_
      refine lv_iload hx hb d_M_subtract_57 (lv_at hl 0 rfl) ?_
      refine lv_iconst (v := nI 2) hx hb d_M_subtract_59 (by decide) ?_
      refine pn_bi (wr := []) [4, 5, 6, 0, 2, 3, 1] [] hP hD hS hA (pn_rV [.int (nI k), .int (nI 0), .int r_49, .int (nI 2)] [] Fx hK hN hP hD [4, 5, 6, 0, 2, 3, 1] rfl rfl (c_M_put l D cI cZ cB cJ _ oM qW qM qK qJ qG qH qP 0 pl w49 m49 hv kp km sg (ρ) k 0 2 r_49 (ρ a + -ρ b) (by omega) (by omega) hk (by omega) (by omega) hs49 (pm_lim_sumI (pm_rb2 hρ ha).1 (by rw [Int.natAbs_neg]; exact (pm_rb2 hρ hb9).1) (by decide)) (Or.inr hr49) hρ) kw_678 cal_M_put inst_M_put sel_M_put ⟨by decide, by decide⟩ ⟨rfl, rfl⟩ 0 rfl rfl rfl rfl hl.1 (Nat.le_of_ble_eq_true rfl) d_M_subtract_60 ⟨Nat.zero_le _, Nat.zero_le _⟩) rfl rfl rfl (by decide) (fun r_60 u_60 H locs hw hP hD hS => ?_)
      obtain ⟨c8, w8, m8, h8, kp8, km8, sg8⟩ := u_60
      obtain ⟨hK60, hp60⟩ := hw
      have hP : va_P D pn_cl [(oM, .inr (5, [.int (nI c8), .ref qW, .ref qM, .ref qK, .ref qJ, .ref qG, .ref qH, .ref qP, .int (nI pl)])), (qW, .inl (cI, 22400, .inl (fun z9 => nI (w8 z9)))), (qM, .inl (cI, 7, .inl (fun z9 => nI (m8 z9)))), (qH, .inl (cI, 2700, .inl (fun z9 => nI (h8 z9)))), (qK, .inl (cI, 36480, .inl (fun z9 => nI (kp8 z9)))), (qJ, .inl (cI, 24, .inl (fun z9 => nI (km8 z9)))), (qG, .inl (cI, 24, .inl sg8))] H := hP
      have hD : va_D A [(oM, .inr (5, [.int (nI c8), .ref qW, .ref qM, .ref qK, .ref qJ, .ref qG, .ref qH, .ref qP, .int (nI pl)])), (qW, .inl (cI, 22400, .inl (fun z9 => nI (w8 z9)))), (qM, .inl (cI, 7, .inl (fun z9 => nI (m8 z9)))), (qH, .inl (cI, 2700, .inl (fun z9 => nI (h8 z9)))), (qK, .inl (cI, 36480, .inl (fun z9 => nI (kp8 z9)))), (qJ, .inl (cI, 24, .inl (fun z9 => nI (km8 z9)))), (qG, .inl (cI, 24, .inl sg8))] := hD
      dsimp only at hK60 hp60
      exact pn_reti ((c8, w8, m8, h8, kp8, km8, sg8)) Fx hr hlocks hQ hAe hP hD hS (by (try dsimp only); first | done | exact (Or.inr ⟨k, a, b, hk, ha, hb9, rfl, rfl, rfl, hp60.imp id (fun q => ⟨q.1, q.2.2⟩)⟩)) d_M_subtract_63
    · skip
      rw [hrf15] at h_18
      exact absurd h_18 (by decide)

set_option maxHeartbeats 4000000 in
set_option maxRecDepth 100000 in
theorem c_M_multiply (l : Launch) (D : va_G) (cI cZ cB cJ : ClassId) (sz : Nat) (oM qW qM qK qJ qG qH qP cd pl : Nat) (wk mn : Nat → Nat) (hv kp km : Nat → Nat) (sg : Nat → Int32) (ρ : Nat → Int) (x y z : Int32) (hρ : pm_regs kp km sg ρ) : pn_Ci l D (pn_ty cI cZ cB cJ) y_M_multiply w_M_multiply ({ frames := 4, cells := 0, slots := 0, locals := 150 } : Room) [.ref oM, .int x, .int y, .int z] [(oM, .inr (5, [.int (nI cd), .ref qW, .ref qM, .ref qK, .ref qJ, .ref qG, .ref qH, .ref qP, .int (nI pl)])), (qW, .inl (cI, 22400, .inl (fun z9 => nI (wk z9)))), (qM, .inl (cI, 7, .inl (fun z9 => nI (mn z9)))), (qH, .inl (cI, 2700, .inl (fun z9 => nI (hv z9)))), (qK, .inl (cI, 36480, .inl (fun z9 => nI (kp z9)))), (qJ, .inl (cI, 24, .inl (fun z9 => nI (km z9)))), (qG, .inl (cI, 24, .inl sg))] sz (S := Nat × (Nat → Nat) × (Nat → Nat) × (Nat → Nat) × (Nat → Nat) × (Nat → Nat) × (Nat → Int32)) (fun r u => (u.1 = 1 ∧ ¬ (pn_isR x ∧ pn_isR y ∧ pn_isR z) ∧ pm_regs u.2.2.2.2.1 u.2.2.2.2.2.1 u.2.2.2.2.2.2 ρ) ∨ (∃ k a b, k < 24 ∧ a < 24 ∧ b < 24 ∧ x = nI k ∧ y = nI a ∧ z = nI b ∧ ((pn_lenI (ρ a * ρ b) ≤ 20000 ∧ r = nI (pn_lenI (ρ a * ρ b)) ∧ u.1 = 0 ∧ pm_regs u.2.2.2.2.1 u.2.2.2.2.2.1 u.2.2.2.2.2.2 (pn_up ρ k (ρ a * ρ b))) ∨ (20000 < pn_lenI (ρ a * ρ b) ∧ u.1 = 2 ∧ pm_regs u.2.2.2.2.1 u.2.2.2.2.2.1 u.2.2.2.2.2.2 ρ)))) (fun u => [(oM, .inr (5, [.int (nI u.1), .ref qW, .ref qM, .ref qK, .ref qJ, .ref qG, .ref qH, .ref qP, .int (nI pl)])), (qW, .inl (cI, 22400, .inl (fun z9 => nI (u.2.1 z9)))), (qM, .inl (cI, 7, .inl (fun z9 => nI (u.2.2.1 z9)))), (qH, .inl (cI, 2700, .inl (fun z9 => nI (u.2.2.2.1 z9)))), (qK, .inl (cI, 36480, .inl (fun z9 => nI (u.2.2.2.2.1 z9)))), (qJ, .inl (cI, 24, .inl (fun z9 => nI (u.2.2.2.2.2.1 z9)))), (qG, .inl (cI, 24, .inl u.2.2.2.2.2.2))]) := by
  refine pn_start (by decide) (Nat.le_of_ble_eq_true rfl) ?_
  intro p e s m below meth c A Q ls hQ hAe Fx hr hlocks hN hK hP hD hS hA hl
  have hx := Fx.1
  have hb := Fx.2.1
  have hl : lv_has ls 4 [(0, .ref oM), (1, .int x), (2, .int y), (3, .int z)] := hl
  refine lv_aload_n hx hb d_M_multiply_0 rfl (lv_at hl 0 rfl) ?_
  refine lv_iload_n hx hb d_M_multiply_1 rfl (lv_at hl 1 rfl) ?_
  refine lv_iload_n hx hb d_M_multiply_2 rfl (lv_at hl 2 rfl) ?_
  refine lv_iload_n hx hb d_M_multiply_3 rfl (lv_at hl 3 rfl) ?_
  refine pn_bi (wr := [(oM, .inr (5, [.int (nI cd), .ref qW, .ref qM, .ref qK, .ref qJ, .ref qG, .ref qH, .ref qP, .int (nI pl)])), (qW, .inl (cI, 22400, .inl (fun z9 => nI (wk z9)))), (qM, .inl (cI, 7, .inl (fun z9 => nI (mn z9)))), (qH, .inl (cI, 2700, .inl (fun z9 => nI (hv z9)))), (qK, .inl (cI, 36480, .inl (fun z9 => nI (kp z9)))), (qJ, .inl (cI, 24, .inl (fun z9 => nI (km z9)))), (qG, .inl (cI, 24, .inl sg))]) [] [0, 1, 2, 3, 4, 5, 6] hP hD hS hA (pn_rS [.int x, .int y, .int z] [.ref oM] Fx hK hN hP hD [] rfl rfl (c_M_are l D cI cZ cB cJ _ x y z) kw_724 cal_M_are stat_M_are ⟨by decide, by decide⟩ ⟨rfl, rfl⟩ rfl hl.1 (Nat.le_of_ble_eq_true rfl) d_M_multiply_4 ⟨Nat.zero_le _, Nat.zero_le _⟩) rfl rfl rfl (by decide) (fun r_4 u_4 H locs hw hP hD hS => ?_)
  obtain ⟨rfl, h4⟩ := hw
  have hP : va_P D pn_cl [(oM, .inr (5, [.int (nI cd), .ref qW, .ref qM, .ref qK, .ref qJ, .ref qG, .ref qH, .ref qP, .int (nI pl)])), (qW, .inl (cI, 22400, .inl (fun z9 => nI (wk z9)))), (qM, .inl (cI, 7, .inl (fun z9 => nI (mn z9)))), (qH, .inl (cI, 2700, .inl (fun z9 => nI (hv z9)))), (qK, .inl (cI, 36480, .inl (fun z9 => nI (kp z9)))), (qJ, .inl (cI, 24, .inl (fun z9 => nI (km z9)))), (qG, .inl (cI, 24, .inl sg))] H := hP
  have hD : va_D A [(oM, .inr (5, [.int (nI cd), .ref qW, .ref qM, .ref qK, .ref qJ, .ref qG, .ref qH, .ref qP, .int (nI pl)])), (qW, .inl (cI, 22400, .inl (fun z9 => nI (wk z9)))), (qM, .inl (cI, 7, .inl (fun z9 => nI (mn z9)))), (qH, .inl (cI, 2700, .inl (fun z9 => nI (hv z9)))), (qK, .inl (cI, 36480, .inl (fun z9 => nI (kp z9)))), (qJ, .inl (cI, 24, .inl (fun z9 => nI (km z9)))), (qG, .inl (cI, 24, .inl sg))] := hD
  refine pw_ifb_eq (tgt := 14) hx hb d_M_multiply_7 (by decide) (fun h_7 => ?_) (fun h_7 => ?_)
  · skip
    have hno : ¬ (pn_isR x ∧ pn_isR y ∧ pn_isR z) := fun q => absurd (h4.mpr q) (by rw [h_7]; decide)
    refine lv_iconst (v := nI 1) hx hb d_M_multiply_14 (by decide) ?_
    refine pn_bi (wr := [(qW, .inl (cI, 22400, .inl (fun z9 => nI (wk z9)))), (qM, .inl (cI, 7, .inl (fun z9 => nI (mn z9)))), (qH, .inl (cI, 2700, .inl (fun z9 => nI (hv z9)))), (qK, .inl (cI, 36480, .inl (fun z9 => nI (kp z9)))), (qJ, .inl (cI, 24, .inl (fun z9 => nI (km z9)))), (qG, .inl (cI, 24, .inl sg))]) [0] [1, 2, 3, 4, 5, 6] hP hD hS hA (pn_rV [.int (nI 1)] [] Fx hK hN hP hD [0] rfl rfl (c_M_refuses l D cI cZ cB cJ _ oM qW qM qK qJ qG qH qP cd pl 1 (by omega)) kw_669 cal_M_refuses inst_M_refuses sel_M_refuses ⟨by decide, by decide⟩ ⟨rfl, rfl⟩ 0 rfl rfl rfl rfl hl.1 (Nat.le_of_ble_eq_true rfl) d_M_multiply_15 ⟨Nat.zero_le _, Nat.zero_le _⟩) rfl rfl rfl (by decide) (fun r_15 u_15 H locs hw hP hD hS => ?_)
    obtain ⟨rfl, hrf15⟩ := hw
    have hP : va_P D pn_cl [(qW, .inl (cI, 22400, .inl (fun z9 => nI (wk z9)))), (qM, .inl (cI, 7, .inl (fun z9 => nI (mn z9)))), (qH, .inl (cI, 2700, .inl (fun z9 => nI (hv z9)))), (qK, .inl (cI, 36480, .inl (fun z9 => nI (kp z9)))), (qJ, .inl (cI, 24, .inl (fun z9 => nI (km z9)))), (qG, .inl (cI, 24, .inl sg)), (oM, .inr (5, [.int (nI 1), .ref qW, .ref qM, .ref qK, .ref qJ, .ref qG, .ref qH, .ref qP, .int (nI pl)]))] H := hP
    have hD : va_D A [(qW, .inl (cI, 22400, .inl (fun z9 => nI (wk z9)))), (qM, .inl (cI, 7, .inl (fun z9 => nI (mn z9)))), (qH, .inl (cI, 2700, .inl (fun z9 => nI (hv z9)))), (qK, .inl (cI, 36480, .inl (fun z9 => nI (kp z9)))), (qJ, .inl (cI, 24, .inl (fun z9 => nI (km z9)))), (qG, .inl (cI, 24, .inl sg)), (oM, .inr (5, [.int (nI 1), .ref qW, .ref qM, .ref qK, .ref qJ, .ref qG, .ref qH, .ref qP, .int (nI pl)]))] := hD
    refine pw_ifb_eq (tgt := 23) hx hb d_M_multiply_18 (by decide) (fun h_18 => ?_) (fun h_18 => ?_)
    · skip
      rw [hrf15] at h_18
      exact absurd h_18 (by decide)
    · skip
      refine lv_iconst (v := nI 0) hx hb d_M_multiply_21 (by decide) ?_
      exact pn_reti ((1, wk, mn, hv, kp, km, sg)) Fx hr hlocks hQ hAe (hP.sub [6, 0, 1, 2, 3, 4, 5] rfl) (hD.sub [6, 0, 1, 2, 3, 4, 5] (by decide) rfl) hS (by (try dsimp only); first | done | exact (Or.inl ⟨rfl, hno, hρ⟩)) d_M_multiply_22
  · skip
    obtain ⟨⟨k, hk, rfl⟩, ⟨a, ha, rfl⟩, ⟨b, hb9, rfl⟩⟩ := h4.mp h_7
    refine lv_iconst (v := nI 0) hx hb d_M_multiply_10 (by decide) ?_
    refine lv_goto (tgt := 15) hx hb d_M_multiply_11 (by decide) ?_
    refine pn_bi (wr := [(qW, .inl (cI, 22400, .inl (fun z9 => nI (wk z9)))), (qM, .inl (cI, 7, .inl (fun z9 => nI (mn z9)))), (qH, .inl (cI, 2700, .inl (fun z9 => nI (hv z9)))), (qK, .inl (cI, 36480, .inl (fun z9 => nI (kp z9)))), (qJ, .inl (cI, 24, .inl (fun z9 => nI (km z9)))), (qG, .inl (cI, 24, .inl sg))]) [0] [1, 2, 3, 4, 5, 6] hP hD hS hA (pn_rV [.int (nI 0)] [] Fx hK hN hP hD [0] rfl rfl (c_M_refuses l D cI cZ cB cJ _ oM qW qM qK qJ qG qH qP cd pl 0 (by omega)) kw_669 cal_M_refuses inst_M_refuses sel_M_refuses ⟨by decide, by decide⟩ ⟨rfl, rfl⟩ 0 rfl rfl rfl rfl hl.1 (Nat.le_of_ble_eq_true rfl) d_M_multiply_15 ⟨Nat.zero_le _, Nat.zero_le _⟩) rfl rfl rfl (by decide) (fun r_15 u_15 H locs hw hP hD hS => ?_)
    obtain ⟨rfl, hrf15⟩ := hw
    have hP : va_P D pn_cl [(qW, .inl (cI, 22400, .inl (fun z9 => nI (wk z9)))), (qM, .inl (cI, 7, .inl (fun z9 => nI (mn z9)))), (qH, .inl (cI, 2700, .inl (fun z9 => nI (hv z9)))), (qK, .inl (cI, 36480, .inl (fun z9 => nI (kp z9)))), (qJ, .inl (cI, 24, .inl (fun z9 => nI (km z9)))), (qG, .inl (cI, 24, .inl sg)), (oM, .inr (5, [.int (nI 0), .ref qW, .ref qM, .ref qK, .ref qJ, .ref qG, .ref qH, .ref qP, .int (nI pl)]))] H := hP
    have hD : va_D A [(qW, .inl (cI, 22400, .inl (fun z9 => nI (wk z9)))), (qM, .inl (cI, 7, .inl (fun z9 => nI (mn z9)))), (qH, .inl (cI, 2700, .inl (fun z9 => nI (hv z9)))), (qK, .inl (cI, 36480, .inl (fun z9 => nI (kp z9)))), (qJ, .inl (cI, 24, .inl (fun z9 => nI (km z9)))), (qG, .inl (cI, 24, .inl sg)), (oM, .inr (5, [.int (nI 0), .ref qW, .ref qM, .ref qK, .ref qJ, .ref qG, .ref qH, .ref qP, .int (nI pl)]))] := hD
    refine pw_ifb_eq (tgt := 23) hx hb d_M_multiply_18 (by decide) (fun h_18 => ?_) (fun h_18 => ?_)
    · skip
      refine lv_aload_n hx hb d_M_multiply_23 rfl (lv_at hl 0 rfl) ?_
      refine lv_iconst (v := nI 3) hx hb d_M_multiply_24 (by decide) ?_
      refine lv_iload_n hx hb d_M_multiply_25 rfl (lv_at hl 2 rfl) ?_
      refine pn_bv (wr := [(qH, .inl (cI, 2700, .inl (fun z9 => nI (hv z9)))), (qG, .inl (cI, 24, .inl sg))]) [6, 0, 1, 3, 4] [2, 5] hP hD hS hA (pn_rV [.int (nI 3), .int (nI a)] [] Fx hK hN hP hD [6, 0, 1, 3, 4] rfl rfl (c_M_load l D cI cZ cB cJ _ oM qW qM qK qJ qG qH qP 0 pl wk mn kp km 3 a ((ρ a).natAbs) (by omega) ha (hρ a ha).1) kw_703 cal_M_load inst_M_load sel_M_load ⟨by decide, by decide⟩ ⟨rfl, rfl⟩ 0 rfl rfl rfl rfl hl.1 (Nat.le_of_ble_eq_true rfl) d_M_multiply_26 ⟨Nat.zero_le _, Nat.zero_le _⟩) rfl rfl rfl (by decide) (fun u_26 H locs hw hP hD hS => ?_)
      obtain ⟨hn26, hK26⟩ := hw
      have hP : va_P D pn_cl [(qH, .inl (cI, 2700, .inl (fun z9 => nI (hv z9)))), (qG, .inl (cI, 24, .inl sg)), (oM, .inr (5, [.int (nI 0), .ref qW, .ref qM, .ref qK, .ref qJ, .ref qG, .ref qH, .ref qP, .int (nI pl)])), (qW, .inl (cI, 22400, .inl (fun z9 => nI (u_26 z9)))), (qM, .inl (cI, 7, .inl (fun z9 => nI ((pn_up mn 3 (km a)) z9)))), (qK, .inl (cI, 36480, .inl (fun z9 => nI (kp z9)))), (qJ, .inl (cI, 24, .inl (fun z9 => nI (km z9))))] H := hP
      have hD : va_D A [(qH, .inl (cI, 2700, .inl (fun z9 => nI (hv z9)))), (qG, .inl (cI, 24, .inl sg)), (oM, .inr (5, [.int (nI 0), .ref qW, .ref qM, .ref qK, .ref qJ, .ref qG, .ref qH, .ref qP, .int (nI pl)])), (qW, .inl (cI, 22400, .inl (fun z9 => nI (u_26 z9)))), (qM, .inl (cI, 7, .inl (fun z9 => nI ((pn_up mn 3 (km a)) z9)))), (qK, .inl (cI, 36480, .inl (fun z9 => nI (kp z9)))), (qJ, .inl (cI, 24, .inl (fun z9 => nI (km z9))))] := hD
      refine lv_aload_n hx hb d_M_multiply_29 rfl (lv_at hl 0 rfl) ?_
      refine lv_iconst (v := nI 4) hx hb d_M_multiply_30 (by decide) ?_
      refine lv_iload_n hx hb d_M_multiply_31 rfl (lv_at hl 3 rfl) ?_
      refine pn_bv (wr := [(qH, .inl (cI, 2700, .inl (fun z9 => nI (hv z9)))), (qG, .inl (cI, 24, .inl sg))]) [2, 3, 4, 5, 6] [0, 1] hP hD hS hA (pn_rV [.int (nI 4), .int (nI b)] [] Fx hK hN hP hD [2, 3, 4, 5, 6] rfl rfl (c_M_load l D cI cZ cB cJ _ oM qW qM qK qJ qG qH qP 0 pl u_26 (pn_up mn 3 (km a)) kp km 4 b ((ρ b).natAbs) (by omega) hb9 (hρ b hb9).1) kw_703 cal_M_load inst_M_load sel_M_load ⟨by decide, by decide⟩ ⟨rfl, rfl⟩ 0 rfl rfl rfl rfl hl.1 (Nat.le_of_ble_eq_true rfl) d_M_multiply_32 ⟨Nat.zero_le _, Nat.zero_le _⟩) rfl rfl rfl (by decide) (fun u_32 H locs hw hP hD hS => ?_)
      obtain ⟨hn32, hK32⟩ := hw
      have hP : va_P D pn_cl [(qH, .inl (cI, 2700, .inl (fun z9 => nI (hv z9)))), (qG, .inl (cI, 24, .inl sg)), (oM, .inr (5, [.int (nI 0), .ref qW, .ref qM, .ref qK, .ref qJ, .ref qG, .ref qH, .ref qP, .int (nI pl)])), (qW, .inl (cI, 22400, .inl (fun z9 => nI (u_32 z9)))), (qM, .inl (cI, 7, .inl (fun z9 => nI ((pn_up (pn_up mn 3 (km a)) 4 (km b)) z9)))), (qK, .inl (cI, 36480, .inl (fun z9 => nI (kp z9)))), (qJ, .inl (cI, 24, .inl (fun z9 => nI (km z9))))] H := hP
      have hD : va_D A [(qH, .inl (cI, 2700, .inl (fun z9 => nI (hv z9)))), (qG, .inl (cI, 24, .inl sg)), (oM, .inr (5, [.int (nI 0), .ref qW, .ref qM, .ref qK, .ref qJ, .ref qG, .ref qH, .ref qP, .int (nI pl)])), (qW, .inl (cI, 22400, .inl (fun z9 => nI (u_32 z9)))), (qM, .inl (cI, 7, .inl (fun z9 => nI ((pn_up (pn_up mn 3 (km a)) 4 (km b)) z9)))), (qK, .inl (cI, 36480, .inl (fun z9 => nI (kp z9)))), (qJ, .inl (cI, 24, .inl (fun z9 => nI (km z9))))] := hD
      have hn3 := hK32 3 _ (by omega) hn26
      have hn4 := hn32
      refine lv_aload_n hx hb d_M_multiply_35 rfl (lv_at hl 0 rfl) ?_
      refine lv_iconst (v := nI 2) hx hb d_M_multiply_36 (by decide) ?_
      refine lv_iconst (v := nI 3) hx hb d_M_multiply_37 (by decide) ?_
      refine lv_iconst (v := nI 4) hx hb d_M_multiply_38 (by decide) ?_
      refine pn_bv (wr := [(qH, .inl (cI, 2700, .inl (fun z9 => nI (hv z9)))), (qG, .inl (cI, 24, .inl sg)), (qK, .inl (cI, 36480, .inl (fun z9 => nI (kp z9)))), (qJ, .inl (cI, 24, .inl (fun z9 => nI (km z9))))]) [2, 3, 4] [0, 1, 5, 6] hP hD hS hA (pn_rV [.int (nI 2), .int (nI 3), .int (nI 4)] [] Fx hK hN hP hD [2, 3, 4] rfl rfl (c_M_product l D cI cZ cB cJ _ oM qW qM qK qJ qG qH qP 0 pl u_32 (pn_up (pn_up mn 3 (km a)) 4 (km b)) 2 3 4 (ρ a).natAbs (ρ b).natAbs (by omega) (by omega) (by omega) (by omega) (by omega) hn3 hn4 (by have q1 := pm_N_cnt hn3 (pm_rb2 hρ ha).2; have q2 := pm_N_cnt hn4 (pm_rb2 hρ hb9).2; omega)) kw_759 cal_M_product inst_M_product sel_M_product ⟨by decide, by decide⟩ ⟨rfl, rfl⟩ 0 rfl rfl rfl rfl hl.1 (Nat.le_of_ble_eq_true rfl) d_M_multiply_39 ⟨Nat.zero_le _, Nat.zero_le _⟩) rfl rfl rfl (by decide) (fun u_39 H locs hw hP hD hS => ?_)
      obtain ⟨w39, j39⟩ := u_39
      obtain ⟨hs39, hS39⟩ := hw
      have hP : va_P D pn_cl [(qH, .inl (cI, 2700, .inl (fun z9 => nI (hv z9)))), (qG, .inl (cI, 24, .inl sg)), (qK, .inl (cI, 36480, .inl (fun z9 => nI (kp z9)))), (qJ, .inl (cI, 24, .inl (fun z9 => nI (km z9)))), (oM, .inr (5, [.int (nI 0), .ref qW, .ref qM, .ref qK, .ref qJ, .ref qG, .ref qH, .ref qP, .int (nI pl)])), (qW, .inl (cI, 22400, .inl (fun z9 => nI (w39 z9)))), (qM, .inl (cI, 7, .inl (fun z9 => nI ((pn_up (pn_up (pn_up mn 3 (km a)) 4 (km b)) 2 j39) z9))))] H := hP
      have hD : va_D A [(qH, .inl (cI, 2700, .inl (fun z9 => nI (hv z9)))), (qG, .inl (cI, 24, .inl sg)), (qK, .inl (cI, 36480, .inl (fun z9 => nI (kp z9)))), (qJ, .inl (cI, 24, .inl (fun z9 => nI (km z9)))), (oM, .inr (5, [.int (nI 0), .ref qW, .ref qM, .ref qK, .ref qJ, .ref qG, .ref qH, .ref qP, .int (nI pl)])), (qW, .inl (cI, 22400, .inl (fun z9 => nI (w39 z9)))), (qM, .inl (cI, 7, .inl (fun z9 => nI ((pn_up (pn_up (pn_up mn 3 (km a)) 4 (km b)) 2 j39) z9))))] := hD
      dsimp only at hs39 hS39
      rw [← Int.natAbs_mul] at hs39
      refine lv_aload_n hx hb d_M_multiply_42 rfl (lv_at hl 0 rfl) ?_
      refine lv_iload_n hx hb d_M_multiply_43 rfl (lv_at hl 1 rfl) ?_
      refine lv_iconst (v := nI 2) hx hb d_M_multiply_44 (by decide) ?_
      refine lv_aload_n hx hb d_M_multiply_45 rfl (lv_at hl 0 rfl) ?_
      refine pw_get Fx hK hP fld_M 4 rfl 5 (by decide) kw_635 (v := .ref qG) rfl d_M_multiply_46 ?_
      refine lv_iload_n hx hb d_M_multiply_49 rfl (lv_at hl 2 rfl) ?_
      refine pw_iald Fx hK hP 1 0 (f := sg) rfl rfl (k := a) (by omega) (by decide) d_M_multiply_50 ?_
      refine lv_aload_n hx hb d_M_multiply_51 rfl (lv_at hl 0 rfl) ?_
      refine pw_get Fx hK hP fld_M 4 rfl 5 (by decide) kw_635 (v := .ref qG) rfl d_M_multiply_52 ?_
      refine lv_iload_n hx hb d_M_multiply_55 rfl (lv_at hl 3 rfl) ?_
      refine pw_iald Fx hK hP 1 0 (f := sg) rfl rfl (k := b) (by omega) (by decide) d_M_multiply_56 ?_
      refine lv_imul hx hb d_M_multiply_57 ?_
      refine lv_iconst (v := nI 2) hx hb d_M_multiply_58 (by decide) ?_
      refine pn_bi (wr := []) [4, 5, 6, 0, 2, 3, 1] [] hP hD hS hA (pn_rV [.int (nI k), .int (nI 2), .int ((sg a) * (sg b)), .int (nI 2)] [] Fx hK hN hP hD [4, 5, 6, 0, 2, 3, 1] rfl rfl (c_M_put l D cI cZ cB cJ _ oM qW qM qK qJ qG qH qP 0 pl w39 (pn_up (pn_up (pn_up mn 3 (km a)) 4 (km b)) 2 j39) hv kp km sg (ρ) k 2 2 (sg a * sg b) (ρ a * ρ b) (by omega) (by omega) hk (by omega) (by omega) hs39 (pm_up43 (by rw [Int.natAbs_mul]; exact pm_lim_mul (pm_rb2 hρ ha).1 (pm_rb2 hρ hb9).1) (by decide)) (Or.inr (by rw [(hρ a ha).2.1, (hρ b hb9).2.1]; exact pm_mul_cmp)) hρ) kw_678 cal_M_put inst_M_put sel_M_put ⟨by decide, by decide⟩ ⟨rfl, rfl⟩ 0 rfl rfl rfl rfl hl.1 (Nat.le_of_ble_eq_true rfl) d_M_multiply_59 ⟨Nat.zero_le _, Nat.zero_le _⟩) rfl rfl rfl (by decide) (fun r_59 u_59 H locs hw hP hD hS => ?_)
      obtain ⟨c8, w8, m8, h8, kp8, km8, sg8⟩ := u_59
      obtain ⟨hK59, hp59⟩ := hw
      have hP : va_P D pn_cl [(oM, .inr (5, [.int (nI c8), .ref qW, .ref qM, .ref qK, .ref qJ, .ref qG, .ref qH, .ref qP, .int (nI pl)])), (qW, .inl (cI, 22400, .inl (fun z9 => nI (w8 z9)))), (qM, .inl (cI, 7, .inl (fun z9 => nI (m8 z9)))), (qH, .inl (cI, 2700, .inl (fun z9 => nI (h8 z9)))), (qK, .inl (cI, 36480, .inl (fun z9 => nI (kp8 z9)))), (qJ, .inl (cI, 24, .inl (fun z9 => nI (km8 z9)))), (qG, .inl (cI, 24, .inl sg8))] H := hP
      have hD : va_D A [(oM, .inr (5, [.int (nI c8), .ref qW, .ref qM, .ref qK, .ref qJ, .ref qG, .ref qH, .ref qP, .int (nI pl)])), (qW, .inl (cI, 22400, .inl (fun z9 => nI (w8 z9)))), (qM, .inl (cI, 7, .inl (fun z9 => nI (m8 z9)))), (qH, .inl (cI, 2700, .inl (fun z9 => nI (h8 z9)))), (qK, .inl (cI, 36480, .inl (fun z9 => nI (kp8 z9)))), (qJ, .inl (cI, 24, .inl (fun z9 => nI (km8 z9)))), (qG, .inl (cI, 24, .inl sg8))] := hD
      dsimp only at hK59 hp59
      exact pn_reti ((c8, w8, m8, h8, kp8, km8, sg8)) Fx hr hlocks hQ hAe hP hD hS (by (try dsimp only); first | done | exact (Or.inr ⟨k, a, b, hk, ha, hb9, rfl, rfl, rfl, hp59.imp id (fun q => ⟨q.1, q.2.2⟩)⟩)) d_M_multiply_62
    · skip
      rw [hrf15] at h_18
      exact absurd h_18 (by decide)

set_option maxHeartbeats 4000000 in
set_option maxRecDepth 100000 in
theorem c_M_addProduct (l : Launch) (D : va_G) (cI cZ cB cJ : ClassId) (sz : Nat) (oM qW qM qK qJ qG qH qP cd pl : Nat) (wk mn : Nat → Nat) (hv kp km : Nat → Nat) (sg : Nat → Int32) (ρ : Nat → Int) (x y z : Int32) (v : Bool) (hρ : pm_regs kp km sg ρ) : pn_Ci l D (pn_ty cI cZ cB cJ) y_M_addProduct w_M_addProduct ({ frames := 4, cells := 0, slots := 0, locals := 160 } : Room) [.ref oM, .int x, .int y, .int z, .int (pn_b v)] [(oM, .inr (5, [.int (nI cd), .ref qW, .ref qM, .ref qK, .ref qJ, .ref qG, .ref qH, .ref qP, .int (nI pl)])), (qW, .inl (cI, 22400, .inl (fun z9 => nI (wk z9)))), (qM, .inl (cI, 7, .inl (fun z9 => nI (mn z9)))), (qH, .inl (cI, 2700, .inl (fun z9 => nI (hv z9)))), (qK, .inl (cI, 36480, .inl (fun z9 => nI (kp z9)))), (qJ, .inl (cI, 24, .inl (fun z9 => nI (km z9)))), (qG, .inl (cI, 24, .inl sg))] sz (S := Nat × (Nat → Nat) × (Nat → Nat) × (Nat → Nat) × (Nat → Nat) × (Nat → Nat) × (Nat → Int32)) (fun r u => (u.1 = 1 ∧ ¬ (pn_isR x ∧ pn_isR y ∧ pn_isR z) ∧ pm_regs u.2.2.2.2.1 u.2.2.2.2.2.1 u.2.2.2.2.2.2 ρ) ∨ (∃ k a b, k < 24 ∧ a < 24 ∧ b < 24 ∧ x = nI k ∧ y = nI a ∧ z = nI b ∧ ((pn_lenI (pn_sum v (ρ k) (ρ a * ρ b)) ≤ 20000 ∧ r = nI (pn_lenI (pn_sum v (ρ k) (ρ a * ρ b))) ∧ u.1 = 0 ∧ pm_regs u.2.2.2.2.1 u.2.2.2.2.2.1 u.2.2.2.2.2.2 (pn_up ρ k (pn_sum v (ρ k) (ρ a * ρ b)))) ∨ (20000 < pn_lenI (pn_sum v (ρ k) (ρ a * ρ b)) ∧ u.1 = 2 ∧ pm_regs u.2.2.2.2.1 u.2.2.2.2.2.1 u.2.2.2.2.2.2 ρ)))) (fun u => [(oM, .inr (5, [.int (nI u.1), .ref qW, .ref qM, .ref qK, .ref qJ, .ref qG, .ref qH, .ref qP, .int (nI pl)])), (qW, .inl (cI, 22400, .inl (fun z9 => nI (u.2.1 z9)))), (qM, .inl (cI, 7, .inl (fun z9 => nI (u.2.2.1 z9)))), (qH, .inl (cI, 2700, .inl (fun z9 => nI (u.2.2.2.1 z9)))), (qK, .inl (cI, 36480, .inl (fun z9 => nI (u.2.2.2.2.1 z9)))), (qJ, .inl (cI, 24, .inl (fun z9 => nI (u.2.2.2.2.2.1 z9)))), (qG, .inl (cI, 24, .inl u.2.2.2.2.2.2))]) := by
  refine pn_start (by decide) (Nat.le_of_ble_eq_true rfl) ?_
  intro p e s m below meth c A Q ls hQ hAe Fx hr hlocks hN hK hP hD hS hA hl
  have hx := Fx.1
  have hb := Fx.2.1
  have hl : lv_has ls 7 [(0, .ref oM), (1, .int x), (2, .int y), (3, .int z), (4, .int (pn_b v))] := hl
  refine lv_aload_n hx hb d_M_addProduct_0 rfl (lv_at hl 0 rfl) ?_
  refine lv_iload_n hx hb d_M_addProduct_1 rfl (lv_at hl 1 rfl) ?_
  refine lv_iload_n hx hb d_M_addProduct_2 rfl (lv_at hl 2 rfl) ?_
  refine lv_iload_n hx hb d_M_addProduct_3 rfl (lv_at hl 3 rfl) ?_
  refine pn_bi (wr := [(oM, .inr (5, [.int (nI cd), .ref qW, .ref qM, .ref qK, .ref qJ, .ref qG, .ref qH, .ref qP, .int (nI pl)])), (qW, .inl (cI, 22400, .inl (fun z9 => nI (wk z9)))), (qM, .inl (cI, 7, .inl (fun z9 => nI (mn z9)))), (qH, .inl (cI, 2700, .inl (fun z9 => nI (hv z9)))), (qK, .inl (cI, 36480, .inl (fun z9 => nI (kp z9)))), (qJ, .inl (cI, 24, .inl (fun z9 => nI (km z9)))), (qG, .inl (cI, 24, .inl sg))]) [] [0, 1, 2, 3, 4, 5, 6] hP hD hS hA (pn_rS [.int x, .int y, .int z] [.ref oM] Fx hK hN hP hD [] rfl rfl (c_M_are l D cI cZ cB cJ _ x y z) kw_724 cal_M_are stat_M_are ⟨by decide, by decide⟩ ⟨rfl, rfl⟩ rfl hl.1 (Nat.le_of_ble_eq_true rfl) d_M_addProduct_4 ⟨Nat.zero_le _, Nat.zero_le _⟩) rfl rfl rfl (by decide) (fun r_4 u_4 H locs hw hP hD hS => ?_)
  obtain ⟨rfl, h4⟩ := hw
  have hP : va_P D pn_cl [(oM, .inr (5, [.int (nI cd), .ref qW, .ref qM, .ref qK, .ref qJ, .ref qG, .ref qH, .ref qP, .int (nI pl)])), (qW, .inl (cI, 22400, .inl (fun z9 => nI (wk z9)))), (qM, .inl (cI, 7, .inl (fun z9 => nI (mn z9)))), (qH, .inl (cI, 2700, .inl (fun z9 => nI (hv z9)))), (qK, .inl (cI, 36480, .inl (fun z9 => nI (kp z9)))), (qJ, .inl (cI, 24, .inl (fun z9 => nI (km z9)))), (qG, .inl (cI, 24, .inl sg))] H := hP
  have hD : va_D A [(oM, .inr (5, [.int (nI cd), .ref qW, .ref qM, .ref qK, .ref qJ, .ref qG, .ref qH, .ref qP, .int (nI pl)])), (qW, .inl (cI, 22400, .inl (fun z9 => nI (wk z9)))), (qM, .inl (cI, 7, .inl (fun z9 => nI (mn z9)))), (qH, .inl (cI, 2700, .inl (fun z9 => nI (hv z9)))), (qK, .inl (cI, 36480, .inl (fun z9 => nI (kp z9)))), (qJ, .inl (cI, 24, .inl (fun z9 => nI (km z9)))), (qG, .inl (cI, 24, .inl sg))] := hD
  refine pw_ifb_eq (tgt := 14) hx hb d_M_addProduct_7 (by decide) (fun h_7 => ?_) (fun h_7 => ?_)
  · skip
    have hno : ¬ (pn_isR x ∧ pn_isR y ∧ pn_isR z) := fun q => absurd (h4.mpr q) (by rw [h_7]; decide)
    refine lv_iconst (v := nI 1) hx hb d_M_addProduct_14 (by decide) ?_
    refine pn_bi (wr := [(qW, .inl (cI, 22400, .inl (fun z9 => nI (wk z9)))), (qM, .inl (cI, 7, .inl (fun z9 => nI (mn z9)))), (qH, .inl (cI, 2700, .inl (fun z9 => nI (hv z9)))), (qK, .inl (cI, 36480, .inl (fun z9 => nI (kp z9)))), (qJ, .inl (cI, 24, .inl (fun z9 => nI (km z9)))), (qG, .inl (cI, 24, .inl sg))]) [0] [1, 2, 3, 4, 5, 6] hP hD hS hA (pn_rV [.int (nI 1)] [] Fx hK hN hP hD [0] rfl rfl (c_M_refuses l D cI cZ cB cJ _ oM qW qM qK qJ qG qH qP cd pl 1 (by omega)) kw_669 cal_M_refuses inst_M_refuses sel_M_refuses ⟨by decide, by decide⟩ ⟨rfl, rfl⟩ 0 rfl rfl rfl rfl hl.1 (Nat.le_of_ble_eq_true rfl) d_M_addProduct_15 ⟨Nat.zero_le _, Nat.zero_le _⟩) rfl rfl rfl (by decide) (fun r_15 u_15 H locs hw hP hD hS => ?_)
    obtain ⟨rfl, hrf15⟩ := hw
    have hP : va_P D pn_cl [(qW, .inl (cI, 22400, .inl (fun z9 => nI (wk z9)))), (qM, .inl (cI, 7, .inl (fun z9 => nI (mn z9)))), (qH, .inl (cI, 2700, .inl (fun z9 => nI (hv z9)))), (qK, .inl (cI, 36480, .inl (fun z9 => nI (kp z9)))), (qJ, .inl (cI, 24, .inl (fun z9 => nI (km z9)))), (qG, .inl (cI, 24, .inl sg)), (oM, .inr (5, [.int (nI 1), .ref qW, .ref qM, .ref qK, .ref qJ, .ref qG, .ref qH, .ref qP, .int (nI pl)]))] H := hP
    have hD : va_D A [(qW, .inl (cI, 22400, .inl (fun z9 => nI (wk z9)))), (qM, .inl (cI, 7, .inl (fun z9 => nI (mn z9)))), (qH, .inl (cI, 2700, .inl (fun z9 => nI (hv z9)))), (qK, .inl (cI, 36480, .inl (fun z9 => nI (kp z9)))), (qJ, .inl (cI, 24, .inl (fun z9 => nI (km z9)))), (qG, .inl (cI, 24, .inl sg)), (oM, .inr (5, [.int (nI 1), .ref qW, .ref qM, .ref qK, .ref qJ, .ref qG, .ref qH, .ref qP, .int (nI pl)]))] := hD
    refine pw_ifb_eq (tgt := 23) hx hb d_M_addProduct_18 (by decide) (fun h_18 => ?_) (fun h_18 => ?_)
    · skip
      rw [hrf15] at h_18
      exact absurd h_18 (by decide)
    · skip
      refine lv_iconst (v := nI 0) hx hb d_M_addProduct_21 (by decide) ?_
      exact pn_reti ((1, wk, mn, hv, kp, km, sg)) Fx hr hlocks hQ hAe (hP.sub [6, 0, 1, 2, 3, 4, 5] rfl) (hD.sub [6, 0, 1, 2, 3, 4, 5] (by decide) rfl) hS (by (try dsimp only); first | done | exact (Or.inl ⟨rfl, hno, hρ⟩)) d_M_addProduct_22
  · skip
    obtain ⟨⟨k, hk, rfl⟩, ⟨a, ha, rfl⟩, ⟨b, hb9, rfl⟩⟩ := h4.mp h_7
    refine lv_iconst (v := nI 0) hx hb d_M_addProduct_10 (by decide) ?_
    refine lv_goto (tgt := 15) hx hb d_M_addProduct_11 (by decide) ?_
    refine pn_bi (wr := [(qW, .inl (cI, 22400, .inl (fun z9 => nI (wk z9)))), (qM, .inl (cI, 7, .inl (fun z9 => nI (mn z9)))), (qH, .inl (cI, 2700, .inl (fun z9 => nI (hv z9)))), (qK, .inl (cI, 36480, .inl (fun z9 => nI (kp z9)))), (qJ, .inl (cI, 24, .inl (fun z9 => nI (km z9)))), (qG, .inl (cI, 24, .inl sg))]) [0] [1, 2, 3, 4, 5, 6] hP hD hS hA (pn_rV [.int (nI 0)] [] Fx hK hN hP hD [0] rfl rfl (c_M_refuses l D cI cZ cB cJ _ oM qW qM qK qJ qG qH qP cd pl 0 (by omega)) kw_669 cal_M_refuses inst_M_refuses sel_M_refuses ⟨by decide, by decide⟩ ⟨rfl, rfl⟩ 0 rfl rfl rfl rfl hl.1 (Nat.le_of_ble_eq_true rfl) d_M_addProduct_15 ⟨Nat.zero_le _, Nat.zero_le _⟩) rfl rfl rfl (by decide) (fun r_15 u_15 H locs hw hP hD hS => ?_)
    obtain ⟨rfl, hrf15⟩ := hw
    have hP : va_P D pn_cl [(qW, .inl (cI, 22400, .inl (fun z9 => nI (wk z9)))), (qM, .inl (cI, 7, .inl (fun z9 => nI (mn z9)))), (qH, .inl (cI, 2700, .inl (fun z9 => nI (hv z9)))), (qK, .inl (cI, 36480, .inl (fun z9 => nI (kp z9)))), (qJ, .inl (cI, 24, .inl (fun z9 => nI (km z9)))), (qG, .inl (cI, 24, .inl sg)), (oM, .inr (5, [.int (nI 0), .ref qW, .ref qM, .ref qK, .ref qJ, .ref qG, .ref qH, .ref qP, .int (nI pl)]))] H := hP
    have hD : va_D A [(qW, .inl (cI, 22400, .inl (fun z9 => nI (wk z9)))), (qM, .inl (cI, 7, .inl (fun z9 => nI (mn z9)))), (qH, .inl (cI, 2700, .inl (fun z9 => nI (hv z9)))), (qK, .inl (cI, 36480, .inl (fun z9 => nI (kp z9)))), (qJ, .inl (cI, 24, .inl (fun z9 => nI (km z9)))), (qG, .inl (cI, 24, .inl sg)), (oM, .inr (5, [.int (nI 0), .ref qW, .ref qM, .ref qK, .ref qJ, .ref qG, .ref qH, .ref qP, .int (nI pl)]))] := hD
    refine pw_ifb_eq (tgt := 23) hx hb d_M_addProduct_18 (by decide) (fun h_18 => ?_) (fun h_18 => ?_)
    · skip
      refine lv_aload_n hx hb d_M_addProduct_23 rfl (lv_at hl 0 rfl) ?_
      refine lv_iconst (v := nI 3) hx hb d_M_addProduct_24 (by decide) ?_
      refine lv_iload_n hx hb d_M_addProduct_25 rfl (lv_at hl 2 rfl) ?_
      refine pn_bv (wr := [(qH, .inl (cI, 2700, .inl (fun z9 => nI (hv z9)))), (qG, .inl (cI, 24, .inl sg))]) [6, 0, 1, 3, 4] [2, 5] hP hD hS hA (pn_rV [.int (nI 3), .int (nI a)] [] Fx hK hN hP hD [6, 0, 1, 3, 4] rfl rfl (c_M_load l D cI cZ cB cJ _ oM qW qM qK qJ qG qH qP 0 pl wk mn kp km 3 a ((ρ a).natAbs) (by omega) ha (hρ a ha).1) kw_703 cal_M_load inst_M_load sel_M_load ⟨by decide, by decide⟩ ⟨rfl, rfl⟩ 0 rfl rfl rfl rfl hl.1 (Nat.le_of_ble_eq_true rfl) d_M_addProduct_26 ⟨Nat.zero_le _, Nat.zero_le _⟩) rfl rfl rfl (by decide) (fun u_26 H locs hw hP hD hS => ?_)
      obtain ⟨hn26, hK26⟩ := hw
      have hP : va_P D pn_cl [(qH, .inl (cI, 2700, .inl (fun z9 => nI (hv z9)))), (qG, .inl (cI, 24, .inl sg)), (oM, .inr (5, [.int (nI 0), .ref qW, .ref qM, .ref qK, .ref qJ, .ref qG, .ref qH, .ref qP, .int (nI pl)])), (qW, .inl (cI, 22400, .inl (fun z9 => nI (u_26 z9)))), (qM, .inl (cI, 7, .inl (fun z9 => nI ((pn_up mn 3 (km a)) z9)))), (qK, .inl (cI, 36480, .inl (fun z9 => nI (kp z9)))), (qJ, .inl (cI, 24, .inl (fun z9 => nI (km z9))))] H := hP
      have hD : va_D A [(qH, .inl (cI, 2700, .inl (fun z9 => nI (hv z9)))), (qG, .inl (cI, 24, .inl sg)), (oM, .inr (5, [.int (nI 0), .ref qW, .ref qM, .ref qK, .ref qJ, .ref qG, .ref qH, .ref qP, .int (nI pl)])), (qW, .inl (cI, 22400, .inl (fun z9 => nI (u_26 z9)))), (qM, .inl (cI, 7, .inl (fun z9 => nI ((pn_up mn 3 (km a)) z9)))), (qK, .inl (cI, 36480, .inl (fun z9 => nI (kp z9)))), (qJ, .inl (cI, 24, .inl (fun z9 => nI (km z9))))] := hD
      refine lv_aload_n hx hb d_M_addProduct_29 rfl (lv_at hl 0 rfl) ?_
      refine lv_iconst (v := nI 4) hx hb d_M_addProduct_30 (by decide) ?_
      refine lv_iload_n hx hb d_M_addProduct_31 rfl (lv_at hl 3 rfl) ?_
      refine pn_bv (wr := [(qH, .inl (cI, 2700, .inl (fun z9 => nI (hv z9)))), (qG, .inl (cI, 24, .inl sg))]) [2, 3, 4, 5, 6] [0, 1] hP hD hS hA (pn_rV [.int (nI 4), .int (nI b)] [] Fx hK hN hP hD [2, 3, 4, 5, 6] rfl rfl (c_M_load l D cI cZ cB cJ _ oM qW qM qK qJ qG qH qP 0 pl u_26 (pn_up mn 3 (km a)) kp km 4 b ((ρ b).natAbs) (by omega) hb9 (hρ b hb9).1) kw_703 cal_M_load inst_M_load sel_M_load ⟨by decide, by decide⟩ ⟨rfl, rfl⟩ 0 rfl rfl rfl rfl hl.1 (Nat.le_of_ble_eq_true rfl) d_M_addProduct_32 ⟨Nat.zero_le _, Nat.zero_le _⟩) rfl rfl rfl (by decide) (fun u_32 H locs hw hP hD hS => ?_)
      obtain ⟨hn32, hK32⟩ := hw
      have hP : va_P D pn_cl [(qH, .inl (cI, 2700, .inl (fun z9 => nI (hv z9)))), (qG, .inl (cI, 24, .inl sg)), (oM, .inr (5, [.int (nI 0), .ref qW, .ref qM, .ref qK, .ref qJ, .ref qG, .ref qH, .ref qP, .int (nI pl)])), (qW, .inl (cI, 22400, .inl (fun z9 => nI (u_32 z9)))), (qM, .inl (cI, 7, .inl (fun z9 => nI ((pn_up (pn_up mn 3 (km a)) 4 (km b)) z9)))), (qK, .inl (cI, 36480, .inl (fun z9 => nI (kp z9)))), (qJ, .inl (cI, 24, .inl (fun z9 => nI (km z9))))] H := hP
      have hD : va_D A [(qH, .inl (cI, 2700, .inl (fun z9 => nI (hv z9)))), (qG, .inl (cI, 24, .inl sg)), (oM, .inr (5, [.int (nI 0), .ref qW, .ref qM, .ref qK, .ref qJ, .ref qG, .ref qH, .ref qP, .int (nI pl)])), (qW, .inl (cI, 22400, .inl (fun z9 => nI (u_32 z9)))), (qM, .inl (cI, 7, .inl (fun z9 => nI ((pn_up (pn_up mn 3 (km a)) 4 (km b)) z9)))), (qK, .inl (cI, 36480, .inl (fun z9 => nI (kp z9)))), (qJ, .inl (cI, 24, .inl (fun z9 => nI (km z9))))] := hD
      have hn3 := hK32 3 _ (by omega) hn26
      have hn4 := hn32
      refine lv_aload_n hx hb d_M_addProduct_35 rfl (lv_at hl 0 rfl) ?_
      refine lv_iconst (v := nI 1) hx hb d_M_addProduct_36 (by decide) ?_
      refine lv_iconst (v := nI 3) hx hb d_M_addProduct_37 (by decide) ?_
      refine lv_iconst (v := nI 4) hx hb d_M_addProduct_38 (by decide) ?_
      refine pn_bv (wr := [(qH, .inl (cI, 2700, .inl (fun z9 => nI (hv z9)))), (qG, .inl (cI, 24, .inl sg)), (qK, .inl (cI, 36480, .inl (fun z9 => nI (kp z9)))), (qJ, .inl (cI, 24, .inl (fun z9 => nI (km z9))))]) [2, 3, 4] [0, 1, 5, 6] hP hD hS hA (pn_rV [.int (nI 1), .int (nI 3), .int (nI 4)] [] Fx hK hN hP hD [2, 3, 4] rfl rfl (c_M_product l D cI cZ cB cJ _ oM qW qM qK qJ qG qH qP 0 pl u_32 (pn_up (pn_up mn 3 (km a)) 4 (km b)) 1 3 4 (ρ a).natAbs (ρ b).natAbs (by omega) (by omega) (by omega) (by omega) (by omega) hn3 hn4 (by have q1 := pm_N_cnt hn3 (pm_rb2 hρ ha).2; have q2 := pm_N_cnt hn4 (pm_rb2 hρ hb9).2; omega)) kw_759 cal_M_product inst_M_product sel_M_product ⟨by decide, by decide⟩ ⟨rfl, rfl⟩ 0 rfl rfl rfl rfl hl.1 (Nat.le_of_ble_eq_true rfl) d_M_addProduct_39 ⟨Nat.zero_le _, Nat.zero_le _⟩) rfl rfl rfl (by decide) (fun u_39 H locs hw hP hD hS => ?_)
      obtain ⟨w39, j39⟩ := u_39
      obtain ⟨hs39, hS39⟩ := hw
      have hP : va_P D pn_cl [(qH, .inl (cI, 2700, .inl (fun z9 => nI (hv z9)))), (qG, .inl (cI, 24, .inl sg)), (qK, .inl (cI, 36480, .inl (fun z9 => nI (kp z9)))), (qJ, .inl (cI, 24, .inl (fun z9 => nI (km z9)))), (oM, .inr (5, [.int (nI 0), .ref qW, .ref qM, .ref qK, .ref qJ, .ref qG, .ref qH, .ref qP, .int (nI pl)])), (qW, .inl (cI, 22400, .inl (fun z9 => nI (w39 z9)))), (qM, .inl (cI, 7, .inl (fun z9 => nI ((pn_up (pn_up (pn_up mn 3 (km a)) 4 (km b)) 1 j39) z9))))] H := hP
      have hD : va_D A [(qH, .inl (cI, 2700, .inl (fun z9 => nI (hv z9)))), (qG, .inl (cI, 24, .inl sg)), (qK, .inl (cI, 36480, .inl (fun z9 => nI (kp z9)))), (qJ, .inl (cI, 24, .inl (fun z9 => nI (km z9)))), (oM, .inr (5, [.int (nI 0), .ref qW, .ref qM, .ref qK, .ref qJ, .ref qG, .ref qH, .ref qP, .int (nI pl)])), (qW, .inl (cI, 22400, .inl (fun z9 => nI (w39 z9)))), (qM, .inl (cI, 7, .inl (fun z9 => nI ((pn_up (pn_up (pn_up mn 3 (km a)) 4 (km b)) 1 j39) z9))))] := hD
      dsimp only at hs39 hS39
      rw [← Int.natAbs_mul] at hs39
      refine lv_aload_n hx hb d_M_addProduct_42 rfl (lv_at hl 0 rfl) ?_
      refine lv_iconst (v := nI 0) hx hb d_M_addProduct_43 (by decide) ?_
      refine lv_iload_n hx hb d_M_addProduct_44 rfl (lv_at hl 1 rfl) ?_
      refine pn_bv (wr := [(qH, .inl (cI, 2700, .inl (fun z9 => nI (hv z9)))), (qG, .inl (cI, 24, .inl sg))]) [4, 5, 6, 2, 3] [0, 1] hP hD hS hA (pn_rV [.int (nI 0), .int (nI k)] [] Fx hK hN hP hD [4, 5, 6, 2, 3] rfl rfl (c_M_load l D cI cZ cB cJ _ oM qW qM qK qJ qG qH qP 0 pl w39 (pn_up (pn_up (pn_up mn 3 (km a)) 4 (km b)) 1 j39) kp km 0 k ((ρ k).natAbs) (by omega) hk (hρ k hk).1) kw_703 cal_M_load inst_M_load sel_M_load ⟨by decide, by decide⟩ ⟨rfl, rfl⟩ 0 rfl rfl rfl rfl hl.1 (Nat.le_of_ble_eq_true rfl) d_M_addProduct_45 ⟨Nat.zero_le _, Nat.zero_le _⟩) rfl rfl rfl (by decide) (fun u_45 H locs hw hP hD hS => ?_)
      obtain ⟨hn45, hK45⟩ := hw
      have hP : va_P D pn_cl [(qH, .inl (cI, 2700, .inl (fun z9 => nI (hv z9)))), (qG, .inl (cI, 24, .inl sg)), (oM, .inr (5, [.int (nI 0), .ref qW, .ref qM, .ref qK, .ref qJ, .ref qG, .ref qH, .ref qP, .int (nI pl)])), (qW, .inl (cI, 22400, .inl (fun z9 => nI (u_45 z9)))), (qM, .inl (cI, 7, .inl (fun z9 => nI ((pn_up (pn_up (pn_up (pn_up mn 3 (km a)) 4 (km b)) 1 j39) 0 (km k)) z9)))), (qK, .inl (cI, 36480, .inl (fun z9 => nI (kp z9)))), (qJ, .inl (cI, 24, .inl (fun z9 => nI (km z9))))] H := hP
      have hD : va_D A [(qH, .inl (cI, 2700, .inl (fun z9 => nI (hv z9)))), (qG, .inl (cI, 24, .inl sg)), (oM, .inr (5, [.int (nI 0), .ref qW, .ref qM, .ref qK, .ref qJ, .ref qG, .ref qH, .ref qP, .int (nI pl)])), (qW, .inl (cI, 22400, .inl (fun z9 => nI (u_45 z9)))), (qM, .inl (cI, 7, .inl (fun z9 => nI ((pn_up (pn_up (pn_up (pn_up mn 3 (km a)) 4 (km b)) 1 j39) 0 (km k)) z9)))), (qK, .inl (cI, 36480, .inl (fun z9 => nI (kp z9)))), (qJ, .inl (cI, 24, .inl (fun z9 => nI (km z9))))] := hD
      have hn0 := hn45
      have hn1 := hK45 1 _ (by omega) hs39
      refine lv_aload_n hx hb d_M_addProduct_48 rfl (lv_at hl 0 rfl) ?_
      refine pw_get Fx hK hP fld_M 2 rfl 5 (by decide) kw_635 (v := .ref qG) rfl d_M_addProduct_49 ?_
      refine lv_iload_n hx hb d_M_addProduct_52 rfl (lv_at hl 2 rfl) ?_
      refine pw_iald Fx hK hP 1 0 (f := sg) rfl rfl (k := a) (by omega) (by decide) d_M_addProduct_53 ?_
      refine lv_aload_n hx hb d_M_addProduct_54 rfl (lv_at hl 0 rfl) ?_
      refine pw_get Fx hK hP fld_M 2 rfl 5 (by decide) kw_635 (v := .ref qG) rfl d_M_addProduct_55 ?_
      refine lv_iload_n hx hb d_M_addProduct_58 rfl (lv_at hl 3 rfl) ?_
      refine pw_iald Fx hK hP 1 0 (f := sg) rfl rfl (k := b) (by omega) (by decide) d_M_addProduct_59 ?_
      refine lv_imul hx hb d_M_addProduct_60 ?_
      refine lv_istore (lv' := [(5, .int ((sg a) * (sg b))), (0, .ref oM), (1, .int (nI k)), (2, .int (nI a)), (3, .int (nI b)), (4, .int (pn_b v))]) hx hb d_M_addProduct_61 hl (by decide) rfl (fun ls hl => ?_)
      refine lv_aload_n hx hb d_M_addProduct_63 rfl (lv_at hl 1 rfl) ?_
      refine lv_aload_n hx hb d_M_addProduct_64 rfl (lv_at hl 1 rfl) ?_
      refine pw_get Fx hK hP fld_M 2 rfl 5 (by decide) kw_635 (v := .ref qG) rfl d_M_addProduct_65 ?_
      refine lv_iload_n hx hb d_M_addProduct_68 rfl (lv_at hl 2 rfl) ?_
      refine pw_iald Fx hK hP 1 0 (f := sg) rfl rfl (k := k) (by omega) (by decide) d_M_addProduct_69 ?_
      refine lv_iload hx hb d_M_addProduct_70 (lv_at hl 5 rfl) ?_
      refine pw_ifb_eq (tgt := 81) hx hb d_M_addProduct_72 (by decide) (fun h_72 => ?_) (fun h_72 => ?_)
      · skip
        have hso : sg a * sg b = pn_cmp (ρ a * ρ b) 0 := by rw [(hρ a ha).2.1, (hρ b hb9).2.1, pm_mul_cmp]
        have hnB : pm_N u_45 (pn_up (pn_up (pn_up (pn_up mn 3 (km a)) 4 (km b)) 1 j39) 0 (km k)) 1 (ρ a * ρ b).natAbs := hn1
        have hlB : (ρ a * ρ b).natAbs < 10000 ^ 3012 := by rw [Int.natAbs_mul]; exact pm_mul3012 (pm_rb2 hρ ha).2 (pm_rb2 hρ hb9).2
        have hVe : pn_sum v (ρ k) (ρ a * ρ b) = ρ k + (ρ a * ρ b) := by rw [h_72]; rfl
        have hVl : (ρ k + (ρ a * ρ b)).natAbs < 65536 ^ 2700 := pm_lim_sumI (n := 40000) (Nat.lt_of_lt_of_le (pm_rb2 hρ hk).1 (Nat.pow_le_pow_right (by decide) (by decide))) (by rw [Int.natAbs_mul]; exact pm_lim_mul (pm_rb2 hρ ha).1 (pm_rb2 hρ hb9).1) (by decide)
        refine lv_iload hx hb d_M_addProduct_81 (lv_at hl 0 rfl) ?_
        refine pn_bi (wr := [(qH, .inl (cI, 2700, .inl (fun z9 => nI (hv z9)))), (qG, .inl (cI, 24, .inl sg)), (qK, .inl (cI, 36480, .inl (fun z9 => nI (kp z9)))), (qJ, .inl (cI, 24, .inl (fun z9 => nI (km z9))))]) [2, 3, 4] [0, 1, 5, 6] hP hD hS hA (pn_rV [.int (sg k), .int ((sg a) * (sg b))] [] Fx hK hN hP hD [2, 3, 4] rfl rfl (c_M_sum l D cI cZ cB cJ _ oM qW qM qK qJ qG qH qP 0 pl u_45 (pn_up (pn_up (pn_up (pn_up mn 3 (km a)) 4 (km b)) 1 j39) 0 (km k)) (sg k) ((sg a) * (sg b)) (ρ k) (ρ a * ρ b) (hρ k hk).2.1 hso hn0 hnB (pm_le99 hn0 (pm_lt3012 (pm_rb2 hρ hk).2)) (pm_le99 hnB hlB)) kw_739 cal_M_sum inst_M_sum sel_M_sum ⟨by decide, by decide⟩ ⟨rfl, rfl⟩ 0 rfl rfl rfl rfl hl.1 (Nat.le_of_ble_eq_true rfl) d_M_addProduct_83 ⟨Nat.zero_le _, Nat.zero_le _⟩) rfl rfl rfl (by decide) (fun r_83 u_83 H locs hw hP hD hS => ?_)
        obtain ⟨w83, m83⟩ := u_83
        obtain ⟨hr83, hs83⟩ := hw
        have hP : va_P D pn_cl [(qH, .inl (cI, 2700, .inl (fun z9 => nI (hv z9)))), (qG, .inl (cI, 24, .inl sg)), (qK, .inl (cI, 36480, .inl (fun z9 => nI (kp z9)))), (qJ, .inl (cI, 24, .inl (fun z9 => nI (km z9)))), (oM, .inr (5, [.int (nI 0), .ref qW, .ref qM, .ref qK, .ref qJ, .ref qG, .ref qH, .ref qP, .int (nI pl)])), (qW, .inl (cI, 22400, .inl (fun z9 => nI (w83 z9)))), (qM, .inl (cI, 7, .inl (fun z9 => nI (m83 z9))))] H := hP
        have hD : va_D A [(qH, .inl (cI, 2700, .inl (fun z9 => nI (hv z9)))), (qG, .inl (cI, 24, .inl sg)), (qK, .inl (cI, 36480, .inl (fun z9 => nI (kp z9)))), (qJ, .inl (cI, 24, .inl (fun z9 => nI (km z9)))), (oM, .inr (5, [.int (nI 0), .ref qW, .ref qM, .ref qK, .ref qJ, .ref qG, .ref qH, .ref qP, .int (nI pl)])), (qW, .inl (cI, 22400, .inl (fun z9 => nI (w83 z9)))), (qM, .inl (cI, 7, .inl (fun z9 => nI (m83 z9))))] := hD
        dsimp only at hr83 hs83
        refine lv_istore (lv' := [(6, .int r_83), (5, .int ((sg a) * (sg b))), (0, .ref oM), (1, .int (nI k)), (2, .int (nI a)), (3, .int (nI b)), (4, .int (pn_b v))]) hx hb d_M_addProduct_86 hl (by decide) rfl (fun ls hl => ?_)
        refine lv_aload_n hx hb d_M_addProduct_88 rfl (lv_at hl 2 rfl) ?_
        refine lv_iload_n hx hb d_M_addProduct_89 rfl (lv_at hl 3 rfl) ?_
        refine lv_iconst (v := nI 0) hx hb d_M_addProduct_90 (by decide) ?_
        refine lv_iload hx hb d_M_addProduct_91 (lv_at hl 0 rfl) ?_
        refine lv_iconst (v := nI 2) hx hb d_M_addProduct_93 (by decide) ?_
        refine pn_bi (wr := []) [4, 5, 6, 0, 2, 3, 1] [] hP hD hS hA (pn_rV [.int (nI k), .int (nI 0), .int r_83, .int (nI 2)] [] Fx hK hN hP hD [4, 5, 6, 0, 2, 3, 1] rfl rfl (c_M_put l D cI cZ cB cJ _ oM qW qM qK qJ qG qH qP 0 pl w83 m83 hv kp km sg (ρ) k 0 2 r_83 (ρ k + ρ a * ρ b) (by omega) (by omega) hk (by omega) (by omega) hs83 hVl (Or.inr hr83) hρ) kw_678 cal_M_put inst_M_put sel_M_put ⟨by decide, by decide⟩ ⟨rfl, rfl⟩ 0 rfl rfl rfl rfl hl.1 (Nat.le_of_ble_eq_true rfl) d_M_addProduct_94 ⟨Nat.zero_le _, Nat.zero_le _⟩) rfl rfl rfl (by decide) (fun r_94 u_94 H locs hw hP hD hS => ?_)
        obtain ⟨c8, w8, m8, h8, kp8, km8, sg8⟩ := u_94
        obtain ⟨hK94, hp94⟩ := hw
        have hP : va_P D pn_cl [(oM, .inr (5, [.int (nI c8), .ref qW, .ref qM, .ref qK, .ref qJ, .ref qG, .ref qH, .ref qP, .int (nI pl)])), (qW, .inl (cI, 22400, .inl (fun z9 => nI (w8 z9)))), (qM, .inl (cI, 7, .inl (fun z9 => nI (m8 z9)))), (qH, .inl (cI, 2700, .inl (fun z9 => nI (h8 z9)))), (qK, .inl (cI, 36480, .inl (fun z9 => nI (kp8 z9)))), (qJ, .inl (cI, 24, .inl (fun z9 => nI (km8 z9)))), (qG, .inl (cI, 24, .inl sg8))] H := hP
        have hD : va_D A [(oM, .inr (5, [.int (nI c8), .ref qW, .ref qM, .ref qK, .ref qJ, .ref qG, .ref qH, .ref qP, .int (nI pl)])), (qW, .inl (cI, 22400, .inl (fun z9 => nI (w8 z9)))), (qM, .inl (cI, 7, .inl (fun z9 => nI (m8 z9)))), (qH, .inl (cI, 2700, .inl (fun z9 => nI (h8 z9)))), (qK, .inl (cI, 36480, .inl (fun z9 => nI (kp8 z9)))), (qJ, .inl (cI, 24, .inl (fun z9 => nI (km8 z9)))), (qG, .inl (cI, 24, .inl sg8))] := hD
        dsimp only at hK94 hp94
        exact pn_reti ((c8, w8, m8, h8, kp8, km8, sg8)) Fx hr hlocks hQ hAe hP hD hS (by (try dsimp only); first | done | exact (Or.inr ⟨k, a, b, hk, ha, hb9, rfl, rfl, rfl, by rw [hVe]; exact hp94.imp id (fun q => ⟨q.1, q.2.2⟩)⟩)) d_M_addProduct_97
      · skip
        have hso : -(sg a * sg b) = pn_cmp (-(ρ a * ρ b)) 0 := by rw [(hρ a ha).2.1, (hρ b hb9).2.1, pm_mul_cmp]; exact pm_neg_cmp
        have hnB : pm_N u_45 (pn_up (pn_up (pn_up (pn_up mn 3 (km a)) 4 (km b)) 1 j39) 0 (km k)) 1 (-(ρ a * ρ b)).natAbs := by rw [Int.natAbs_neg]; exact hn1
        have hlB : (-(ρ a * ρ b)).natAbs < 10000 ^ 3012 := by rw [Int.natAbs_neg, Int.natAbs_mul]; exact pm_mul3012 (pm_rb2 hρ ha).2 (pm_rb2 hρ hb9).2
        have hVe : pn_sum v (ρ k) (ρ a * ρ b) = ρ k + (-(ρ a * ρ b)) := by rw [h_72]; rfl
        have hVl : (ρ k + (-(ρ a * ρ b))).natAbs < 65536 ^ 2700 := pm_lim_sumI (n := 40000) (Nat.lt_of_lt_of_le (pm_rb2 hρ hk).1 (Nat.pow_le_pow_right (by decide) (by decide))) (by rw [Int.natAbs_neg, Int.natAbs_mul]; exact pm_lim_mul (pm_rb2 hρ ha).1 (pm_rb2 hρ hb9).1) (by decide)
        refine lv_iload hx hb d_M_addProduct_75 (lv_at hl 0 rfl) ?_
        refine lv_ineg hx hb d_M_addProduct_77 ?_
        refine lv_goto (tgt := 83) hx hb d_M_addProduct_78 (by decide) ?_
        refine pn_bi (wr := [(qH, .inl (cI, 2700, .inl (fun z9 => nI (hv z9)))), (qG, .inl (cI, 24, .inl sg)), (qK, .inl (cI, 36480, .inl (fun z9 => nI (kp z9)))), (qJ, .inl (cI, 24, .inl (fun z9 => nI (km z9))))]) [2, 3, 4] [0, 1, 5, 6] hP hD hS hA (pn_rV [.int (sg k), .int (-((sg a) * (sg b)))] [] Fx hK hN hP hD [2, 3, 4] rfl rfl (c_M_sum l D cI cZ cB cJ _ oM qW qM qK qJ qG qH qP 0 pl u_45 (pn_up (pn_up (pn_up (pn_up mn 3 (km a)) 4 (km b)) 1 j39) 0 (km k)) (sg k) (-((sg a) * (sg b))) (ρ k) (-(ρ a * ρ b)) (hρ k hk).2.1 hso hn0 hnB (pm_le99 hn0 (pm_lt3012 (pm_rb2 hρ hk).2)) (pm_le99 hnB hlB)) kw_739 cal_M_sum inst_M_sum sel_M_sum ⟨by decide, by decide⟩ ⟨rfl, rfl⟩ 0 rfl rfl rfl rfl hl.1 (Nat.le_of_ble_eq_true rfl) d_M_addProduct_83 ⟨Nat.zero_le _, Nat.zero_le _⟩) rfl rfl rfl (by decide) (fun r_83 u_83 H locs hw hP hD hS => ?_)
        obtain ⟨w83, m83⟩ := u_83
        obtain ⟨hr83, hs83⟩ := hw
        have hP : va_P D pn_cl [(qH, .inl (cI, 2700, .inl (fun z9 => nI (hv z9)))), (qG, .inl (cI, 24, .inl sg)), (qK, .inl (cI, 36480, .inl (fun z9 => nI (kp z9)))), (qJ, .inl (cI, 24, .inl (fun z9 => nI (km z9)))), (oM, .inr (5, [.int (nI 0), .ref qW, .ref qM, .ref qK, .ref qJ, .ref qG, .ref qH, .ref qP, .int (nI pl)])), (qW, .inl (cI, 22400, .inl (fun z9 => nI (w83 z9)))), (qM, .inl (cI, 7, .inl (fun z9 => nI (m83 z9))))] H := hP
        have hD : va_D A [(qH, .inl (cI, 2700, .inl (fun z9 => nI (hv z9)))), (qG, .inl (cI, 24, .inl sg)), (qK, .inl (cI, 36480, .inl (fun z9 => nI (kp z9)))), (qJ, .inl (cI, 24, .inl (fun z9 => nI (km z9)))), (oM, .inr (5, [.int (nI 0), .ref qW, .ref qM, .ref qK, .ref qJ, .ref qG, .ref qH, .ref qP, .int (nI pl)])), (qW, .inl (cI, 22400, .inl (fun z9 => nI (w83 z9)))), (qM, .inl (cI, 7, .inl (fun z9 => nI (m83 z9))))] := hD
        dsimp only at hr83 hs83
        refine lv_istore (lv' := [(6, .int r_83), (5, .int ((sg a) * (sg b))), (0, .ref oM), (1, .int (nI k)), (2, .int (nI a)), (3, .int (nI b)), (4, .int (pn_b v))]) hx hb d_M_addProduct_86 hl (by decide) rfl (fun ls hl => ?_)
        refine lv_aload_n hx hb d_M_addProduct_88 rfl (lv_at hl 2 rfl) ?_
        refine lv_iload_n hx hb d_M_addProduct_89 rfl (lv_at hl 3 rfl) ?_
        refine lv_iconst (v := nI 0) hx hb d_M_addProduct_90 (by decide) ?_
        refine lv_iload hx hb d_M_addProduct_91 (lv_at hl 0 rfl) ?_
        refine lv_iconst (v := nI 2) hx hb d_M_addProduct_93 (by decide) ?_
        refine pn_bi (wr := []) [4, 5, 6, 0, 2, 3, 1] [] hP hD hS hA (pn_rV [.int (nI k), .int (nI 0), .int r_83, .int (nI 2)] [] Fx hK hN hP hD [4, 5, 6, 0, 2, 3, 1] rfl rfl (c_M_put l D cI cZ cB cJ _ oM qW qM qK qJ qG qH qP 0 pl w83 m83 hv kp km sg (ρ) k 0 2 r_83 (ρ k + -(ρ a * ρ b)) (by omega) (by omega) hk (by omega) (by omega) hs83 hVl (Or.inr hr83) hρ) kw_678 cal_M_put inst_M_put sel_M_put ⟨by decide, by decide⟩ ⟨rfl, rfl⟩ 0 rfl rfl rfl rfl hl.1 (Nat.le_of_ble_eq_true rfl) d_M_addProduct_94 ⟨Nat.zero_le _, Nat.zero_le _⟩) rfl rfl rfl (by decide) (fun r_94 u_94 H locs hw hP hD hS => ?_)
        obtain ⟨c8, w8, m8, h8, kp8, km8, sg8⟩ := u_94
        obtain ⟨hK94, hp94⟩ := hw
        have hP : va_P D pn_cl [(oM, .inr (5, [.int (nI c8), .ref qW, .ref qM, .ref qK, .ref qJ, .ref qG, .ref qH, .ref qP, .int (nI pl)])), (qW, .inl (cI, 22400, .inl (fun z9 => nI (w8 z9)))), (qM, .inl (cI, 7, .inl (fun z9 => nI (m8 z9)))), (qH, .inl (cI, 2700, .inl (fun z9 => nI (h8 z9)))), (qK, .inl (cI, 36480, .inl (fun z9 => nI (kp8 z9)))), (qJ, .inl (cI, 24, .inl (fun z9 => nI (km8 z9)))), (qG, .inl (cI, 24, .inl sg8))] H := hP
        have hD : va_D A [(oM, .inr (5, [.int (nI c8), .ref qW, .ref qM, .ref qK, .ref qJ, .ref qG, .ref qH, .ref qP, .int (nI pl)])), (qW, .inl (cI, 22400, .inl (fun z9 => nI (w8 z9)))), (qM, .inl (cI, 7, .inl (fun z9 => nI (m8 z9)))), (qH, .inl (cI, 2700, .inl (fun z9 => nI (h8 z9)))), (qK, .inl (cI, 36480, .inl (fun z9 => nI (kp8 z9)))), (qJ, .inl (cI, 24, .inl (fun z9 => nI (km8 z9)))), (qG, .inl (cI, 24, .inl sg8))] := hD
        dsimp only at hK94 hp94
        exact pn_reti ((c8, w8, m8, h8, kp8, km8, sg8)) Fx hr hlocks hQ hAe hP hD hS (by (try dsimp only); first | done | exact (Or.inr ⟨k, a, b, hk, ha, hb9, rfl, rfl, rfl, by rw [hVe]; exact hp94.imp id (fun q => ⟨q.1, q.2.2⟩)⟩)) d_M_addProduct_97
    · skip
      rw [hrf15] at h_18
      exact absurd h_18 (by decide)
