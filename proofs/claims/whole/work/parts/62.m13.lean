theorem pm_regs_neg {kp km : Nat → Nat} {sg : Nat → Int32} {ρ : Nat → Int} {k : Nat} (h : pm_regs kp km sg ρ) (hk : k < 24) : pm_regs kp km (upd sg k (-sg k)) (pn_up ρ k (-ρ k)) := by
  intro q hq
  by_cases z : q = k
  · subst z
    obtain ⟨a1, a2, a3⟩ := h q hq
    rw [pn_up_s, pk_us, Int.natAbs_neg, a2]
    refine ⟨a1, pm_neg_cmp, ?_⟩
    unfold pn_lenI at a3 ⊢; rw [Int.natAbs_neg]; exact a3
  · rw [pn_up_n z, pk_un z]; exact h q hq
theorem pm_cmp_sub {A B : Int} : pn_cmp (A + -B) 0 = pn_cmp A B := by
  rcases Int.lt_trichotomy A B with h | h | h
  · rw [pn_cmp_lt h, pn_cmp_lt (by omega)]
  · rw [pn_cmp_eq h, pn_cmp_eq (by omega)]
  · rw [pn_cmp_gt h, pn_cmp_gt (by omega)]
theorem pm_pow2 (j : Nat) : 65536 ^ (2 * j) = 4294967296 ^ j := by rw [Nat.pow_mul]
theorem pm_or {h l : Nat} (hh : h < 65536) (hl : l < 65536) : nI h <<< ((16 : Int32) &&& 31) ||| nI l = pn_I ((h * 65536 + l : Nat) : Int) := by
  rw [pn_I_nI]
  refine pn_I_ext ?_
  have e1 : (nI h <<< ((16 : Int32) &&& 31)).toBitVec.toNat = h * 2 ^ 16 := by
    rw [pk_shl _ _ 16 (by decide), pk_tn (by omega)]; omega
  rw [Int32.toBitVec_or, BitVec.toNat_or, e1, pk_tn (by omega), pk_tn (by omega)]
  have := Nat.shiftLeft_add_eq_or_of_lt (show l < 2 ^ 16 by omega) h
  rw [Nat.shiftLeft_eq] at this
  omega
theorem pm_limb {v : Nat} {j : Nat} : (((v / 65536 ^ (2 * j + 1) % 65536) * 65536 + v / 65536 ^ (2 * j) % 65536 : Nat) : Int) = (v : Int) / pn_E j % 4294967296 := by
  have e : (v : Int) / pn_E j % 4294967296 = ((v / 65536 ^ (2 * j) % 4294967296 : Nat) : Int) := by
    unfold pn_E; rw [pm_pow2]; simp
  rw [e, ← pm_div65]
  generalize v / 65536 ^ (2 * j) = w
  omega
theorem pm_limb0 {v n m : Nat} (h : v / 65536 ^ n = 0) (hm : n ≤ m) : v / 65536 ^ m = 0 := by
  have a : v < 65536 ^ n := Nat.lt_of_div_eq_zero (pm_65 n) h
  exact Nat.div_eq_of_lt (Nat.lt_of_lt_of_le a (Nat.pow_le_pow_right (by decide) hm))
theorem pm_rest_step {H p f r : Nat} (h : r = H % p) : (r * 10000 + f) % p = (f + 10000 * H) % p := by
  subst h
  rw [Nat.add_comm f, Nat.add_mod, Nat.mul_mod, Nat.mod_mod, ← Nat.mul_mod, ← Nat.add_mod, Nat.mul_comm]

set_option maxHeartbeats 4000000 in
set_option maxRecDepth 100000 in
theorem c_M_negate (l : Launch) (D : va_G) (cI cZ cB cJ : ClassId) (sz : Nat) (oM qW qM qK qJ qG qH qP cd pl : Nat) (wk mn : Nat → Nat) (hv kp km : Nat → Nat) (sg : Nat → Int32) (ρ : Nat → Int) (x : Int32) (hρ : pm_regs kp km sg ρ) : pn_Ci l D (pn_ty cI cZ cB cJ) y_M_negate w_M_negate ({ frames := 4, cells := 0, slots := 0, locals := 150 } : Room) [.ref oM, .int x] [(oM, .inr (5, [.int (nI cd), .ref qW, .ref qM, .ref qK, .ref qJ, .ref qG, .ref qH, .ref qP, .int (nI pl)])), (qW, .inl (cI, 22400, .inl (fun z9 => nI (wk z9)))), (qM, .inl (cI, 7, .inl (fun z9 => nI (mn z9)))), (qH, .inl (cI, 2700, .inl (fun z9 => nI (hv z9)))), (qK, .inl (cI, 36480, .inl (fun z9 => nI (kp z9)))), (qJ, .inl (cI, 24, .inl (fun z9 => nI (km z9)))), (qG, .inl (cI, 24, .inl sg))] sz (S := Nat × (Nat → Nat) × (Nat → Nat) × (Nat → Nat) × (Nat → Nat) × (Nat → Nat) × (Nat → Int32)) (fun r u => (u.1 = 1 ∧ ¬ (pn_isR x) ∧ pm_regs u.2.2.2.2.1 u.2.2.2.2.2.1 u.2.2.2.2.2.2 ρ) ∨ (∃ k, k < 24 ∧ x = nI k ∧ r = nI (pn_lenI (ρ k)) ∧ u.1 = 0 ∧ pm_regs u.2.2.2.2.1 u.2.2.2.2.2.1 u.2.2.2.2.2.2 (pn_up ρ k (-ρ k)))) (fun u => [(oM, .inr (5, [.int (nI u.1), .ref qW, .ref qM, .ref qK, .ref qJ, .ref qG, .ref qH, .ref qP, .int (nI pl)])), (qW, .inl (cI, 22400, .inl (fun z9 => nI (u.2.1 z9)))), (qM, .inl (cI, 7, .inl (fun z9 => nI (u.2.2.1 z9)))), (qH, .inl (cI, 2700, .inl (fun z9 => nI (u.2.2.2.1 z9)))), (qK, .inl (cI, 36480, .inl (fun z9 => nI (u.2.2.2.2.1 z9)))), (qJ, .inl (cI, 24, .inl (fun z9 => nI (u.2.2.2.2.2.1 z9)))), (qG, .inl (cI, 24, .inl u.2.2.2.2.2.2))]) := by
  refine pn_start (by decide) (Nat.le_of_ble_eq_true rfl) ?_
  intro p e s m below meth c A Q ls hQ hAe Fx hr hlocks hN hK hP hD hS hA hl
  have hx := Fx.1
  have hb := Fx.2.1
  have hl : lv_has ls 2 [(0, .ref oM), (1, .int x)] := hl
  refine lv_aload_n hx hb d_M_negate_0 rfl (lv_at hl 0 rfl) ?_
  refine lv_iload_n hx hb d_M_negate_1 rfl (lv_at hl 1 rfl) ?_
  refine pn_bi (wr := [(oM, .inr (5, [.int (nI cd), .ref qW, .ref qM, .ref qK, .ref qJ, .ref qG, .ref qH, .ref qP, .int (nI pl)])), (qW, .inl (cI, 22400, .inl (fun z9 => nI (wk z9)))), (qM, .inl (cI, 7, .inl (fun z9 => nI (mn z9)))), (qH, .inl (cI, 2700, .inl (fun z9 => nI (hv z9)))), (qK, .inl (cI, 36480, .inl (fun z9 => nI (kp z9)))), (qJ, .inl (cI, 24, .inl (fun z9 => nI (km z9)))), (qG, .inl (cI, 24, .inl sg))]) [] [0, 1, 2, 3, 4, 5, 6] hP hD hS hA (pn_rS [.int x] [.ref oM] Fx hK hN hP hD [] rfl rfl (c_M_isRegister l D cI cZ cB cJ _ x) kw_666 cal_M_isRegister stat_M_isRegister ⟨by decide, by decide⟩ ⟨rfl, rfl⟩ rfl hl.1 (Nat.le_of_ble_eq_true rfl) d_M_negate_2 ⟨Nat.zero_le _, Nat.zero_le _⟩) rfl rfl rfl (by decide) (fun r_2 u_2 H locs hw hP hD hS => ?_)
  obtain ⟨rfl, h2⟩ := hw
  have hP : va_P D pn_cl [(oM, .inr (5, [.int (nI cd), .ref qW, .ref qM, .ref qK, .ref qJ, .ref qG, .ref qH, .ref qP, .int (nI pl)])), (qW, .inl (cI, 22400, .inl (fun z9 => nI (wk z9)))), (qM, .inl (cI, 7, .inl (fun z9 => nI (mn z9)))), (qH, .inl (cI, 2700, .inl (fun z9 => nI (hv z9)))), (qK, .inl (cI, 36480, .inl (fun z9 => nI (kp z9)))), (qJ, .inl (cI, 24, .inl (fun z9 => nI (km z9)))), (qG, .inl (cI, 24, .inl sg))] H := hP
  have hD : va_D A [(oM, .inr (5, [.int (nI cd), .ref qW, .ref qM, .ref qK, .ref qJ, .ref qG, .ref qH, .ref qP, .int (nI pl)])), (qW, .inl (cI, 22400, .inl (fun z9 => nI (wk z9)))), (qM, .inl (cI, 7, .inl (fun z9 => nI (mn z9)))), (qH, .inl (cI, 2700, .inl (fun z9 => nI (hv z9)))), (qK, .inl (cI, 36480, .inl (fun z9 => nI (kp z9)))), (qJ, .inl (cI, 24, .inl (fun z9 => nI (km z9)))), (qG, .inl (cI, 24, .inl sg))] := hD
  refine pw_ifb_eq (tgt := 12) hx hb d_M_negate_5 (by decide) (fun h_5 => ?_) (fun h_5 => ?_)
  · skip
    have hno : ¬ pn_isR x := fun q => absurd (h2.mpr q) (by rw [h_5]; decide)
    refine lv_iconst (v := nI 1) hx hb d_M_negate_12 (by decide) ?_
    refine pn_bi (wr := [(qW, .inl (cI, 22400, .inl (fun z9 => nI (wk z9)))), (qM, .inl (cI, 7, .inl (fun z9 => nI (mn z9)))), (qH, .inl (cI, 2700, .inl (fun z9 => nI (hv z9)))), (qK, .inl (cI, 36480, .inl (fun z9 => nI (kp z9)))), (qJ, .inl (cI, 24, .inl (fun z9 => nI (km z9)))), (qG, .inl (cI, 24, .inl sg))]) [0] [1, 2, 3, 4, 5, 6] hP hD hS hA (pn_rV [.int (nI 1)] [] Fx hK hN hP hD [0] rfl rfl (c_M_refuses l D cI cZ cB cJ _ oM qW qM qK qJ qG qH qP cd pl 1 (by omega)) kw_669 cal_M_refuses inst_M_refuses sel_M_refuses ⟨by decide, by decide⟩ ⟨rfl, rfl⟩ 0 rfl rfl rfl rfl hl.1 (Nat.le_of_ble_eq_true rfl) d_M_negate_13 ⟨Nat.zero_le _, Nat.zero_le _⟩) rfl rfl rfl (by decide) (fun r_13 u_13 H locs hw hP hD hS => ?_)
    obtain ⟨rfl, hrf13⟩ := hw
    have hP : va_P D pn_cl [(qW, .inl (cI, 22400, .inl (fun z9 => nI (wk z9)))), (qM, .inl (cI, 7, .inl (fun z9 => nI (mn z9)))), (qH, .inl (cI, 2700, .inl (fun z9 => nI (hv z9)))), (qK, .inl (cI, 36480, .inl (fun z9 => nI (kp z9)))), (qJ, .inl (cI, 24, .inl (fun z9 => nI (km z9)))), (qG, .inl (cI, 24, .inl sg)), (oM, .inr (5, [.int (nI 1), .ref qW, .ref qM, .ref qK, .ref qJ, .ref qG, .ref qH, .ref qP, .int (nI pl)]))] H := hP
    have hD : va_D A [(qW, .inl (cI, 22400, .inl (fun z9 => nI (wk z9)))), (qM, .inl (cI, 7, .inl (fun z9 => nI (mn z9)))), (qH, .inl (cI, 2700, .inl (fun z9 => nI (hv z9)))), (qK, .inl (cI, 36480, .inl (fun z9 => nI (kp z9)))), (qJ, .inl (cI, 24, .inl (fun z9 => nI (km z9)))), (qG, .inl (cI, 24, .inl sg)), (oM, .inr (5, [.int (nI 1), .ref qW, .ref qM, .ref qK, .ref qJ, .ref qG, .ref qH, .ref qP, .int (nI pl)]))] := hD
    refine pw_ifb_eq (tgt := 21) hx hb d_M_negate_16 (by decide) (fun h_16 => ?_) (fun h_16 => ?_)
    · skip
      rw [hrf13] at h_16
      exact absurd h_16 (by decide)
    · skip
      refine lv_iconst (v := nI 0) hx hb d_M_negate_19 (by decide) ?_
      exact pn_reti ((1, wk, mn, hv, kp, km, sg)) Fx hr hlocks hQ hAe (hP.sub [6, 0, 1, 2, 3, 4, 5] rfl) (hD.sub [6, 0, 1, 2, 3, 4, 5] (by decide) rfl) hS (by (try dsimp only); first | done | exact (Or.inl ⟨rfl, hno, hρ⟩)) d_M_negate_20
  · skip
    obtain ⟨k, hk, rfl⟩ := h2.mp h_5
    refine lv_iconst (v := nI 0) hx hb d_M_negate_8 (by decide) ?_
    refine lv_goto (tgt := 13) hx hb d_M_negate_9 (by decide) ?_
    refine pn_bi (wr := [(qW, .inl (cI, 22400, .inl (fun z9 => nI (wk z9)))), (qM, .inl (cI, 7, .inl (fun z9 => nI (mn z9)))), (qH, .inl (cI, 2700, .inl (fun z9 => nI (hv z9)))), (qK, .inl (cI, 36480, .inl (fun z9 => nI (kp z9)))), (qJ, .inl (cI, 24, .inl (fun z9 => nI (km z9)))), (qG, .inl (cI, 24, .inl sg))]) [0] [1, 2, 3, 4, 5, 6] hP hD hS hA (pn_rV [.int (nI 0)] [] Fx hK hN hP hD [0] rfl rfl (c_M_refuses l D cI cZ cB cJ _ oM qW qM qK qJ qG qH qP cd pl 0 (by omega)) kw_669 cal_M_refuses inst_M_refuses sel_M_refuses ⟨by decide, by decide⟩ ⟨rfl, rfl⟩ 0 rfl rfl rfl rfl hl.1 (Nat.le_of_ble_eq_true rfl) d_M_negate_13 ⟨Nat.zero_le _, Nat.zero_le _⟩) rfl rfl rfl (by decide) (fun r_13 u_13 H locs hw hP hD hS => ?_)
    obtain ⟨rfl, hrf13⟩ := hw
    have hP : va_P D pn_cl [(qW, .inl (cI, 22400, .inl (fun z9 => nI (wk z9)))), (qM, .inl (cI, 7, .inl (fun z9 => nI (mn z9)))), (qH, .inl (cI, 2700, .inl (fun z9 => nI (hv z9)))), (qK, .inl (cI, 36480, .inl (fun z9 => nI (kp z9)))), (qJ, .inl (cI, 24, .inl (fun z9 => nI (km z9)))), (qG, .inl (cI, 24, .inl sg)), (oM, .inr (5, [.int (nI 0), .ref qW, .ref qM, .ref qK, .ref qJ, .ref qG, .ref qH, .ref qP, .int (nI pl)]))] H := hP
    have hD : va_D A [(qW, .inl (cI, 22400, .inl (fun z9 => nI (wk z9)))), (qM, .inl (cI, 7, .inl (fun z9 => nI (mn z9)))), (qH, .inl (cI, 2700, .inl (fun z9 => nI (hv z9)))), (qK, .inl (cI, 36480, .inl (fun z9 => nI (kp z9)))), (qJ, .inl (cI, 24, .inl (fun z9 => nI (km z9)))), (qG, .inl (cI, 24, .inl sg)), (oM, .inr (5, [.int (nI 0), .ref qW, .ref qM, .ref qK, .ref qJ, .ref qG, .ref qH, .ref qP, .int (nI pl)]))] := hD
    refine pw_ifb_eq (tgt := 21) hx hb d_M_negate_16 (by decide) (fun h_16 => ?_) (fun h_16 => ?_)
    · skip
      refine lv_aload_n hx hb d_M_negate_21 rfl (lv_at hl 0 rfl) ?_
      refine pw_get Fx hK hP fld_M 6 rfl 5 (by decide) kw_635 (v := .ref qG) rfl d_M_negate_22 ?_
      refine lv_iload_n hx hb d_M_negate_25 rfl (lv_at hl 1 rfl) ?_
      refine lv_aload_n hx hb d_M_negate_26 rfl (lv_at hl 0 rfl) ?_
      refine pw_get Fx hK hP fld_M 6 rfl 5 (by decide) kw_635 (v := .ref qG) rfl d_M_negate_27 ?_
      refine lv_iload_n hx hb d_M_negate_30 rfl (lv_at hl 1 rfl) ?_
      refine pw_iald Fx hK hP 5 0 (f := sg) rfl rfl (k := k) (by omega) (by decide) d_M_negate_31 ?_
      refine lv_ineg hx hb d_M_negate_32 ?_
      refine pw_iast Fx hK hP hD hS 5 0 (f := sg) rfl rfl (k := k) (by omega) (by decide) (w' := [(qW, .inl (cI, 22400, .inl (fun z9 => nI (wk z9)))), (qM, .inl (cI, 7, .inl (fun z9 => nI (mn z9)))), (qH, .inl (cI, 2700, .inl (fun z9 => nI (hv z9)))), (qK, .inl (cI, 36480, .inl (fun z9 => nI (kp z9)))), (qJ, .inl (cI, 24, .inl (fun z9 => nI (km z9)))), (qG, .inl (cI, 24, .inl (upd sg k (-(sg k))))), (oM, .inr (5, [.int (nI 0), .ref qW, .ref qM, .ref qK, .ref qJ, .ref qG, .ref qH, .ref qP, .int (nI pl)]))]) rfl d_M_negate_33 (fun H locs hP hD hS => ?_)
      refine lv_aload_n hx hb d_M_negate_34 rfl (lv_at hl 0 rfl) ?_
      refine lv_iconst (v := nI 0) hx hb d_M_negate_35 (by decide) ?_
      refine lv_iload_n hx hb d_M_negate_36 rfl (lv_at hl 1 rfl) ?_
      refine pn_bv (wr := [(qH, .inl (cI, 2700, .inl (fun z9 => nI (hv z9)))), (qG, .inl (cI, 24, .inl (upd sg k (-(sg k)))))]) [6, 0, 1, 3, 4] [2, 5] hP hD hS hA (pn_rV [.int (nI 0), .int (nI k)] [] Fx hK hN hP hD [6, 0, 1, 3, 4] rfl rfl (c_M_load l D cI cZ cB cJ _ oM qW qM qK qJ qG qH qP 0 pl wk mn kp km 0 k ((ρ k).natAbs) (by omega) hk (hρ k hk).1) kw_703 cal_M_load inst_M_load sel_M_load ⟨by decide, by decide⟩ ⟨rfl, rfl⟩ 0 rfl rfl rfl rfl hl.1 (Nat.le_of_ble_eq_true rfl) d_M_negate_37 ⟨Nat.zero_le _, Nat.zero_le _⟩) rfl rfl rfl (by decide) (fun u_37 H locs hw hP hD hS => ?_)
      obtain ⟨hn37, hK37⟩ := hw
      have hP : va_P D pn_cl [(qH, .inl (cI, 2700, .inl (fun z9 => nI (hv z9)))), (qG, .inl (cI, 24, .inl (upd sg k (-(sg k))))), (oM, .inr (5, [.int (nI 0), .ref qW, .ref qM, .ref qK, .ref qJ, .ref qG, .ref qH, .ref qP, .int (nI pl)])), (qW, .inl (cI, 22400, .inl (fun z9 => nI (u_37 z9)))), (qM, .inl (cI, 7, .inl (fun z9 => nI ((pn_up mn 0 (km k)) z9)))), (qK, .inl (cI, 36480, .inl (fun z9 => nI (kp z9)))), (qJ, .inl (cI, 24, .inl (fun z9 => nI (km z9))))] H := hP
      have hD : va_D A [(qH, .inl (cI, 2700, .inl (fun z9 => nI (hv z9)))), (qG, .inl (cI, 24, .inl (upd sg k (-(sg k))))), (oM, .inr (5, [.int (nI 0), .ref qW, .ref qM, .ref qK, .ref qJ, .ref qG, .ref qH, .ref qP, .int (nI pl)])), (qW, .inl (cI, 22400, .inl (fun z9 => nI (u_37 z9)))), (qM, .inl (cI, 7, .inl (fun z9 => nI ((pn_up mn 0 (km k)) z9)))), (qK, .inl (cI, 36480, .inl (fun z9 => nI (kp z9)))), (qJ, .inl (cI, 24, .inl (fun z9 => nI (km z9))))] := hD
      refine lv_aload_n hx hb d_M_negate_40 rfl (lv_at hl 0 rfl) ?_
      refine lv_iconst (v := nI 0) hx hb d_M_negate_41 (by decide) ?_
      refine pn_bi (wr := [(qG, .inl (cI, 24, .inl (upd sg k (-(sg k))))), (qK, .inl (cI, 36480, .inl (fun z9 => nI (kp z9)))), (qJ, .inl (cI, 24, .inl (fun z9 => nI (km z9))))]) [2, 3, 4, 0] [1, 5, 6] hP hD hS hA (pn_rV [.int (nI 0)] [] Fx hK hN hP hD [2, 3, 4, 0] rfl rfl (c_M_bits l D cI cZ cB cJ _ oM qW qM qK qJ qG qH qP 0 pl u_37 (pn_up mn 0 (km k)) hv 0 (ρ k).natAbs (by omega) (by omega) hn37 (pm_up43 (pm_rb2 hρ hk).1 (by decide))) kw_682 cal_M_bits inst_M_bits sel_M_bits ⟨by decide, by decide⟩ ⟨rfl, rfl⟩ 0 rfl rfl rfl rfl hl.1 (Nat.le_of_ble_eq_true rfl) d_M_negate_42 ⟨Nat.zero_le _, Nat.zero_le _⟩) rfl rfl rfl (by decide) (fun r_42 u_42 H locs hw hP hD hS => ?_)
      obtain ⟨w6, m6, h6⟩ := u_42
      obtain ⟨rfl, hK67⟩ := hw
      have hP : va_P D pn_cl [(qG, .inl (cI, 24, .inl (upd sg k (-(sg k))))), (qK, .inl (cI, 36480, .inl (fun z9 => nI (kp z9)))), (qJ, .inl (cI, 24, .inl (fun z9 => nI (km z9)))), (oM, .inr (5, [.int (nI 0), .ref qW, .ref qM, .ref qK, .ref qJ, .ref qG, .ref qH, .ref qP, .int (nI pl)])), (qW, .inl (cI, 22400, .inl (fun z9 => nI (w6 z9)))), (qM, .inl (cI, 7, .inl (fun z9 => nI (m6 z9)))), (qH, .inl (cI, 2700, .inl (fun z9 => nI (h6 z9))))] H := hP
      have hD : va_D A [(qG, .inl (cI, 24, .inl (upd sg k (-(sg k))))), (qK, .inl (cI, 36480, .inl (fun z9 => nI (kp z9)))), (qJ, .inl (cI, 24, .inl (fun z9 => nI (km z9)))), (oM, .inr (5, [.int (nI 0), .ref qW, .ref qM, .ref qK, .ref qJ, .ref qG, .ref qH, .ref qP, .int (nI pl)])), (qW, .inl (cI, 22400, .inl (fun z9 => nI (w6 z9)))), (qM, .inl (cI, 7, .inl (fun z9 => nI (m6 z9)))), (qH, .inl (cI, 2700, .inl (fun z9 => nI (h6 z9))))] := hD
      exact pn_reti ((0, w6, m6, h6, kp, km, upd sg k (-(sg k)))) Fx hr hlocks hQ hAe (hP.sub [3, 4, 5, 6, 1, 2, 0] rfl) (hD.sub [3, 4, 5, 6, 1, 2, 0] (by decide) rfl) hS (by (try dsimp only); first | done | exact (Or.inr ⟨k, hk, rfl, rfl, rfl, pm_regs_neg hρ hk⟩)) d_M_negate_45
    · skip
      rw [hrf13] at h_16
      exact absurd h_16 (by decide)

set_option maxHeartbeats 4000000 in
set_option maxRecDepth 100000 in
theorem c_M_compare (l : Launch) (D : va_G) (cI cZ cB cJ : ClassId) (sz : Nat) (oM qW qM qK qJ qG qH qP cd pl : Nat) (wk mn : Nat → Nat) (hv kp km : Nat → Nat) (sg : Nat → Int32) (ρ : Nat → Int) (x y : Int32) (hρ : pm_regs kp km sg ρ) : pn_Ci l D (pn_ty cI cZ cB cJ) y_M_compare w_M_compare ({ frames := 4, cells := 0, slots := 0, locals := 150 } : Room) [.ref oM, .int x, .int y] [(oM, .inr (5, [.int (nI cd), .ref qW, .ref qM, .ref qK, .ref qJ, .ref qG, .ref qH, .ref qP, .int (nI pl)])), (qW, .inl (cI, 22400, .inl (fun z9 => nI (wk z9)))), (qM, .inl (cI, 7, .inl (fun z9 => nI (mn z9)))), (qH, .inl (cI, 2700, .inl (fun z9 => nI (hv z9)))), (qK, .inl (cI, 36480, .inl (fun z9 => nI (kp z9)))), (qJ, .inl (cI, 24, .inl (fun z9 => nI (km z9)))), (qG, .inl (cI, 24, .inl sg))] sz (S := Nat × (Nat → Nat) × (Nat → Nat) × (Nat → Nat) × (Nat → Nat) × (Nat → Nat) × (Nat → Int32)) (fun r u => (u.1 = 1 ∧ ¬ (pn_isR x ∧ pn_isR y) ∧ pm_regs u.2.2.2.2.1 u.2.2.2.2.2.1 u.2.2.2.2.2.2 ρ) ∨ (∃ k a, k < 24 ∧ a < 24 ∧ x = nI k ∧ y = nI a ∧ r = pn_cmp (ρ k) (ρ a) ∧ u.1 = 0 ∧ pm_regs u.2.2.2.2.1 u.2.2.2.2.2.1 u.2.2.2.2.2.2 ρ)) (fun u => [(oM, .inr (5, [.int (nI u.1), .ref qW, .ref qM, .ref qK, .ref qJ, .ref qG, .ref qH, .ref qP, .int (nI pl)])), (qW, .inl (cI, 22400, .inl (fun z9 => nI (u.2.1 z9)))), (qM, .inl (cI, 7, .inl (fun z9 => nI (u.2.2.1 z9)))), (qH, .inl (cI, 2700, .inl (fun z9 => nI (u.2.2.2.1 z9)))), (qK, .inl (cI, 36480, .inl (fun z9 => nI (u.2.2.2.2.1 z9)))), (qJ, .inl (cI, 24, .inl (fun z9 => nI (u.2.2.2.2.2.1 z9)))), (qG, .inl (cI, 24, .inl u.2.2.2.2.2.2))]) := by
  refine pn_start (by decide) (Nat.le_of_ble_eq_true rfl) ?_
  intro p e s m below meth c A Q ls hQ hAe Fx hr hlocks hN hK hP hD hS hA hl
  have hx := Fx.1
  have hb := Fx.2.1
  have hl : lv_has ls 3 [(0, .ref oM), (1, .int x), (2, .int y)] := hl
  refine lv_aload_n hx hb d_M_compare_0 rfl (lv_at hl 0 rfl) ?_
  refine lv_iload_n hx hb d_M_compare_1 rfl (lv_at hl 1 rfl) ?_
  refine lv_iload_n hx hb d_M_compare_2 rfl (lv_at hl 2 rfl) ?_
  refine lv_iload_n hx hb d_M_compare_3 rfl (lv_at hl 2 rfl) ?_
  refine pn_bi (wr := [(oM, .inr (5, [.int (nI cd), .ref qW, .ref qM, .ref qK, .ref qJ, .ref qG, .ref qH, .ref qP, .int (nI pl)])), (qW, .inl (cI, 22400, .inl (fun z9 => nI (wk z9)))), (qM, .inl (cI, 7, .inl (fun z9 => nI (mn z9)))), (qH, .inl (cI, 2700, .inl (fun z9 => nI (hv z9)))), (qK, .inl (cI, 36480, .inl (fun z9 => nI (kp z9)))), (qJ, .inl (cI, 24, .inl (fun z9 => nI (km z9)))), (qG, .inl (cI, 24, .inl sg))]) [] [0, 1, 2, 3, 4, 5, 6] hP hD hS hA (pn_rS [.int x, .int y, .int y] [.ref oM] Fx hK hN hP hD [] rfl rfl (c_M_are l D cI cZ cB cJ _ x y y) kw_724 cal_M_are stat_M_are ⟨by decide, by decide⟩ ⟨rfl, rfl⟩ rfl hl.1 (Nat.le_of_ble_eq_true rfl) d_M_compare_4 ⟨Nat.zero_le _, Nat.zero_le _⟩) rfl rfl rfl (by decide) (fun r_4 u_4 H locs hw hP hD hS => ?_)
  obtain ⟨rfl, h4⟩ := hw
  have hP : va_P D pn_cl [(oM, .inr (5, [.int (nI cd), .ref qW, .ref qM, .ref qK, .ref qJ, .ref qG, .ref qH, .ref qP, .int (nI pl)])), (qW, .inl (cI, 22400, .inl (fun z9 => nI (wk z9)))), (qM, .inl (cI, 7, .inl (fun z9 => nI (mn z9)))), (qH, .inl (cI, 2700, .inl (fun z9 => nI (hv z9)))), (qK, .inl (cI, 36480, .inl (fun z9 => nI (kp z9)))), (qJ, .inl (cI, 24, .inl (fun z9 => nI (km z9)))), (qG, .inl (cI, 24, .inl sg))] H := hP
  have hD : va_D A [(oM, .inr (5, [.int (nI cd), .ref qW, .ref qM, .ref qK, .ref qJ, .ref qG, .ref qH, .ref qP, .int (nI pl)])), (qW, .inl (cI, 22400, .inl (fun z9 => nI (wk z9)))), (qM, .inl (cI, 7, .inl (fun z9 => nI (mn z9)))), (qH, .inl (cI, 2700, .inl (fun z9 => nI (hv z9)))), (qK, .inl (cI, 36480, .inl (fun z9 => nI (kp z9)))), (qJ, .inl (cI, 24, .inl (fun z9 => nI (km z9)))), (qG, .inl (cI, 24, .inl sg))] := hD
  refine pw_ifb_eq (tgt := 14) hx hb d_M_compare_7 (by decide) (fun h_7 => ?_) (fun h_7 => ?_)
  · skip
    have hno : ¬ (pn_isR x ∧ pn_isR y) := fun q => absurd (h4.mpr ⟨q.1, q.2, q.2⟩) (by rw [h_7]; decide)
    refine lv_iconst (v := nI 1) hx hb d_M_compare_14 (by decide) ?_
    refine pn_bi (wr := [(qW, .inl (cI, 22400, .inl (fun z9 => nI (wk z9)))), (qM, .inl (cI, 7, .inl (fun z9 => nI (mn z9)))), (qH, .inl (cI, 2700, .inl (fun z9 => nI (hv z9)))), (qK, .inl (cI, 36480, .inl (fun z9 => nI (kp z9)))), (qJ, .inl (cI, 24, .inl (fun z9 => nI (km z9)))), (qG, .inl (cI, 24, .inl sg))]) [0] [1, 2, 3, 4, 5, 6] hP hD hS hA (pn_rV [.int (nI 1)] [] Fx hK hN hP hD [0] rfl rfl (c_M_refuses l D cI cZ cB cJ _ oM qW qM qK qJ qG qH qP cd pl 1 (by omega)) kw_669 cal_M_refuses inst_M_refuses sel_M_refuses ⟨by decide, by decide⟩ ⟨rfl, rfl⟩ 0 rfl rfl rfl rfl hl.1 (Nat.le_of_ble_eq_true rfl) d_M_compare_15 ⟨Nat.zero_le _, Nat.zero_le _⟩) rfl rfl rfl (by decide) (fun r_15 u_15 H locs hw hP hD hS => ?_)
    obtain ⟨rfl, hrf15⟩ := hw
    have hP : va_P D pn_cl [(qW, .inl (cI, 22400, .inl (fun z9 => nI (wk z9)))), (qM, .inl (cI, 7, .inl (fun z9 => nI (mn z9)))), (qH, .inl (cI, 2700, .inl (fun z9 => nI (hv z9)))), (qK, .inl (cI, 36480, .inl (fun z9 => nI (kp z9)))), (qJ, .inl (cI, 24, .inl (fun z9 => nI (km z9)))), (qG, .inl (cI, 24, .inl sg)), (oM, .inr (5, [.int (nI 1), .ref qW, .ref qM, .ref qK, .ref qJ, .ref qG, .ref qH, .ref qP, .int (nI pl)]))] H := hP
    have hD : va_D A [(qW, .inl (cI, 22400, .inl (fun z9 => nI (wk z9)))), (qM, .inl (cI, 7, .inl (fun z9 => nI (mn z9)))), (qH, .inl (cI, 2700, .inl (fun z9 => nI (hv z9)))), (qK, .inl (cI, 36480, .inl (fun z9 => nI (kp z9)))), (qJ, .inl (cI, 24, .inl (fun z9 => nI (km z9)))), (qG, .inl (cI, 24, .inl sg)), (oM, .inr (5, [.int (nI 1), .ref qW, .ref qM, .ref qK, .ref qJ, .ref qG, .ref qH, .ref qP, .int (nI pl)]))] := hD
    refine pw_ifb_eq (tgt := 23) hx hb d_M_compare_18 (by decide) (fun h_18 => ?_) (fun h_18 => ?_)
    · skip
      rw [hrf15] at h_18
      exact absurd h_18 (by decide)
    · skip
      refine lv_iconst (v := nI 0) hx hb d_M_compare_21 (by decide) ?_
      exact pn_reti ((1, wk, mn, hv, kp, km, sg)) Fx hr hlocks hQ hAe (hP.sub [6, 0, 1, 2, 3, 4, 5] rfl) (hD.sub [6, 0, 1, 2, 3, 4, 5] (by decide) rfl) hS (by (try dsimp only); first | done | exact (Or.inl ⟨rfl, hno, hρ⟩)) d_M_compare_22
  · skip
    obtain ⟨⟨k, hk, rfl⟩, ⟨a, ha, rfl⟩, -⟩ := h4.mp h_7
    refine lv_iconst (v := nI 0) hx hb d_M_compare_10 (by decide) ?_
    refine lv_goto (tgt := 15) hx hb d_M_compare_11 (by decide) ?_
    refine pn_bi (wr := [(qW, .inl (cI, 22400, .inl (fun z9 => nI (wk z9)))), (qM, .inl (cI, 7, .inl (fun z9 => nI (mn z9)))), (qH, .inl (cI, 2700, .inl (fun z9 => nI (hv z9)))), (qK, .inl (cI, 36480, .inl (fun z9 => nI (kp z9)))), (qJ, .inl (cI, 24, .inl (fun z9 => nI (km z9)))), (qG, .inl (cI, 24, .inl sg))]) [0] [1, 2, 3, 4, 5, 6] hP hD hS hA (pn_rV [.int (nI 0)] [] Fx hK hN hP hD [0] rfl rfl (c_M_refuses l D cI cZ cB cJ _ oM qW qM qK qJ qG qH qP cd pl 0 (by omega)) kw_669 cal_M_refuses inst_M_refuses sel_M_refuses ⟨by decide, by decide⟩ ⟨rfl, rfl⟩ 0 rfl rfl rfl rfl hl.1 (Nat.le_of_ble_eq_true rfl) d_M_compare_15 ⟨Nat.zero_le _, Nat.zero_le _⟩) rfl rfl rfl (by decide) (fun r_15 u_15 H locs hw hP hD hS => ?_)
    obtain ⟨rfl, hrf15⟩ := hw
    have hP : va_P D pn_cl [(qW, .inl (cI, 22400, .inl (fun z9 => nI (wk z9)))), (qM, .inl (cI, 7, .inl (fun z9 => nI (mn z9)))), (qH, .inl (cI, 2700, .inl (fun z9 => nI (hv z9)))), (qK, .inl (cI, 36480, .inl (fun z9 => nI (kp z9)))), (qJ, .inl (cI, 24, .inl (fun z9 => nI (km z9)))), (qG, .inl (cI, 24, .inl sg)), (oM, .inr (5, [.int (nI 0), .ref qW, .ref qM, .ref qK, .ref qJ, .ref qG, .ref qH, .ref qP, .int (nI pl)]))] H := hP
    have hD : va_D A [(qW, .inl (cI, 22400, .inl (fun z9 => nI (wk z9)))), (qM, .inl (cI, 7, .inl (fun z9 => nI (mn z9)))), (qH, .inl (cI, 2700, .inl (fun z9 => nI (hv z9)))), (qK, .inl (cI, 36480, .inl (fun z9 => nI (kp z9)))), (qJ, .inl (cI, 24, .inl (fun z9 => nI (km z9)))), (qG, .inl (cI, 24, .inl sg)), (oM, .inr (5, [.int (nI 0), .ref qW, .ref qM, .ref qK, .ref qJ, .ref qG, .ref qH, .ref qP, .int (nI pl)]))] := hD
    refine pw_ifb_eq (tgt := 23) hx hb d_M_compare_18 (by decide) (fun h_18 => ?_) (fun h_18 => ?_)
    · skip
      refine lv_aload_n hx hb d_M_compare_23 rfl (lv_at hl 0 rfl) ?_
      refine lv_iconst (v := nI 0) hx hb d_M_compare_24 (by decide) ?_
      refine lv_iload_n hx hb d_M_compare_25 rfl (lv_at hl 1 rfl) ?_
      refine pn_bv (wr := [(qH, .inl (cI, 2700, .inl (fun z9 => nI (hv z9)))), (qG, .inl (cI, 24, .inl sg))]) [6, 0, 1, 3, 4] [2, 5] hP hD hS hA (pn_rV [.int (nI 0), .int (nI k)] [] Fx hK hN hP hD [6, 0, 1, 3, 4] rfl rfl (c_M_load l D cI cZ cB cJ _ oM qW qM qK qJ qG qH qP 0 pl wk mn kp km 0 k ((ρ k).natAbs) (by omega) hk (hρ k hk).1) kw_703 cal_M_load inst_M_load sel_M_load ⟨by decide, by decide⟩ ⟨rfl, rfl⟩ 0 rfl rfl rfl rfl hl.1 (Nat.le_of_ble_eq_true rfl) d_M_compare_26 ⟨Nat.zero_le _, Nat.zero_le _⟩) rfl rfl rfl (by decide) (fun u_26 H locs hw hP hD hS => ?_)
      obtain ⟨hn26, hK26⟩ := hw
      have hP : va_P D pn_cl [(qH, .inl (cI, 2700, .inl (fun z9 => nI (hv z9)))), (qG, .inl (cI, 24, .inl sg)), (oM, .inr (5, [.int (nI 0), .ref qW, .ref qM, .ref qK, .ref qJ, .ref qG, .ref qH, .ref qP, .int (nI pl)])), (qW, .inl (cI, 22400, .inl (fun z9 => nI (u_26 z9)))), (qM, .inl (cI, 7, .inl (fun z9 => nI ((pn_up mn 0 (km k)) z9)))), (qK, .inl (cI, 36480, .inl (fun z9 => nI (kp z9)))), (qJ, .inl (cI, 24, .inl (fun z9 => nI (km z9))))] H := hP
      have hD : va_D A [(qH, .inl (cI, 2700, .inl (fun z9 => nI (hv z9)))), (qG, .inl (cI, 24, .inl sg)), (oM, .inr (5, [.int (nI 0), .ref qW, .ref qM, .ref qK, .ref qJ, .ref qG, .ref qH, .ref qP, .int (nI pl)])), (qW, .inl (cI, 22400, .inl (fun z9 => nI (u_26 z9)))), (qM, .inl (cI, 7, .inl (fun z9 => nI ((pn_up mn 0 (km k)) z9)))), (qK, .inl (cI, 36480, .inl (fun z9 => nI (kp z9)))), (qJ, .inl (cI, 24, .inl (fun z9 => nI (km z9))))] := hD
      refine lv_aload_n hx hb d_M_compare_29 rfl (lv_at hl 0 rfl) ?_
      refine lv_iconst (v := nI 1) hx hb d_M_compare_30 (by decide) ?_
      refine lv_iload_n hx hb d_M_compare_31 rfl (lv_at hl 2 rfl) ?_
      refine pn_bv (wr := [(qH, .inl (cI, 2700, .inl (fun z9 => nI (hv z9)))), (qG, .inl (cI, 24, .inl sg))]) [2, 3, 4, 5, 6] [0, 1] hP hD hS hA (pn_rV [.int (nI 1), .int (nI a)] [] Fx hK hN hP hD [2, 3, 4, 5, 6] rfl rfl (c_M_load l D cI cZ cB cJ _ oM qW qM qK qJ qG qH qP 0 pl u_26 (pn_up mn 0 (km k)) kp km 1 a ((ρ a).natAbs) (by omega) ha (hρ a ha).1) kw_703 cal_M_load inst_M_load sel_M_load ⟨by decide, by decide⟩ ⟨rfl, rfl⟩ 0 rfl rfl rfl rfl hl.1 (Nat.le_of_ble_eq_true rfl) d_M_compare_32 ⟨Nat.zero_le _, Nat.zero_le _⟩) rfl rfl rfl (by decide) (fun u_32 H locs hw hP hD hS => ?_)
      obtain ⟨hn32, hK32⟩ := hw
      have hP : va_P D pn_cl [(qH, .inl (cI, 2700, .inl (fun z9 => nI (hv z9)))), (qG, .inl (cI, 24, .inl sg)), (oM, .inr (5, [.int (nI 0), .ref qW, .ref qM, .ref qK, .ref qJ, .ref qG, .ref qH, .ref qP, .int (nI pl)])), (qW, .inl (cI, 22400, .inl (fun z9 => nI (u_32 z9)))), (qM, .inl (cI, 7, .inl (fun z9 => nI ((pn_up (pn_up mn 0 (km k)) 1 (km a)) z9)))), (qK, .inl (cI, 36480, .inl (fun z9 => nI (kp z9)))), (qJ, .inl (cI, 24, .inl (fun z9 => nI (km z9))))] H := hP
      have hD : va_D A [(qH, .inl (cI, 2700, .inl (fun z9 => nI (hv z9)))), (qG, .inl (cI, 24, .inl sg)), (oM, .inr (5, [.int (nI 0), .ref qW, .ref qM, .ref qK, .ref qJ, .ref qG, .ref qH, .ref qP, .int (nI pl)])), (qW, .inl (cI, 22400, .inl (fun z9 => nI (u_32 z9)))), (qM, .inl (cI, 7, .inl (fun z9 => nI ((pn_up (pn_up mn 0 (km k)) 1 (km a)) z9)))), (qK, .inl (cI, 36480, .inl (fun z9 => nI (kp z9)))), (qJ, .inl (cI, 24, .inl (fun z9 => nI (km z9))))] := hD
      have hn0 := hK32 0 _ (by omega) hn26
      have hn1 := hn32
      rw [← Int.natAbs_neg] at hn1
      refine lv_aload_n hx hb d_M_compare_35 rfl (lv_at hl 0 rfl) ?_
      refine lv_aload_n hx hb d_M_compare_36 rfl (lv_at hl 0 rfl) ?_
      refine pw_get Fx hK hP fld_M 2 rfl 5 (by decide) kw_635 (v := .ref qG) rfl d_M_compare_37 ?_
      refine lv_iload_n hx hb d_M_compare_40 rfl (lv_at hl 1 rfl) ?_
      refine pw_iald Fx hK hP 1 0 (f := sg) rfl rfl (k := k) (by omega) (by decide) d_M_compare_41 ?_
      refine lv_aload_n hx hb d_M_compare_42 rfl (lv_at hl 0 rfl) ?_
      refine pw_get Fx hK hP fld_M 2 rfl 5 (by decide) kw_635 (v := .ref qG) rfl d_M_compare_43 ?_
      refine lv_iload_n hx hb d_M_compare_46 rfl (lv_at hl 2 rfl) ?_
      refine pw_iald Fx hK hP 1 0 (f := sg) rfl rfl (k := a) (by omega) (by decide) d_M_compare_47 ?_
      refine lv_ineg hx hb d_M_compare_48 ?_
      refine pn_bi (wr := [(qH, .inl (cI, 2700, .inl (fun z9 => nI (hv z9)))), (qG, .inl (cI, 24, .inl sg)), (qK, .inl (cI, 36480, .inl (fun z9 => nI (kp z9)))), (qJ, .inl (cI, 24, .inl (fun z9 => nI (km z9))))]) [2, 3, 4] [0, 1, 5, 6] hP hD hS hA (pn_rV [.int (sg k), .int (-(sg a))] [] Fx hK hN hP hD [2, 3, 4] rfl rfl (c_M_sum l D cI cZ cB cJ _ oM qW qM qK qJ qG qH qP 0 pl u_32 (pn_up (pn_up mn 0 (km k)) 1 (km a)) (sg k) (-sg a) (ρ k) (-ρ a) (hρ k hk).2.1 (by rw [(hρ a ha).2.1]; exact pm_neg_cmp) hn0 hn1 (pm_le99 hn0 (pm_lt3012 (pm_rb2 hρ hk).2)) (pm_le99 hn1 (show (-ρ a).natAbs < 10000 ^ 3012 by rw [Int.natAbs_neg]; exact pm_lt3012 (pm_rb2 hρ ha).2))) kw_739 cal_M_sum inst_M_sum sel_M_sum ⟨by decide, by decide⟩ ⟨rfl, rfl⟩ 0 rfl rfl rfl rfl hl.1 (Nat.le_of_ble_eq_true rfl) d_M_compare_49 ⟨Nat.zero_le _, Nat.zero_le _⟩) rfl rfl rfl (by decide) (fun r_49 u_49 H locs hw hP hD hS => ?_)
      obtain ⟨w6, m6⟩ := u_49
      obtain ⟨hr9, hs9⟩ := hw
      have hP : va_P D pn_cl [(qH, .inl (cI, 2700, .inl (fun z9 => nI (hv z9)))), (qG, .inl (cI, 24, .inl sg)), (qK, .inl (cI, 36480, .inl (fun z9 => nI (kp z9)))), (qJ, .inl (cI, 24, .inl (fun z9 => nI (km z9)))), (oM, .inr (5, [.int (nI 0), .ref qW, .ref qM, .ref qK, .ref qJ, .ref qG, .ref qH, .ref qP, .int (nI pl)])), (qW, .inl (cI, 22400, .inl (fun z9 => nI (w6 z9)))), (qM, .inl (cI, 7, .inl (fun z9 => nI (m6 z9))))] H := hP
      have hD : va_D A [(qH, .inl (cI, 2700, .inl (fun z9 => nI (hv z9)))), (qG, .inl (cI, 24, .inl sg)), (qK, .inl (cI, 36480, .inl (fun z9 => nI (kp z9)))), (qJ, .inl (cI, 24, .inl (fun z9 => nI (km z9)))), (oM, .inr (5, [.int (nI 0), .ref qW, .ref qM, .ref qK, .ref qJ, .ref qG, .ref qH, .ref qP, .int (nI pl)])), (qW, .inl (cI, 22400, .inl (fun z9 => nI (w6 z9)))), (qM, .inl (cI, 7, .inl (fun z9 => nI (m6 z9))))] := hD
      exact pn_reti ((0, w6, m6, hv, kp, km, sg)) Fx hr hlocks hQ hAe (hP.sub [4, 5, 6, 0, 2, 3, 1] rfl) (hD.sub [4, 5, 6, 0, 2, 3, 1] (by decide) rfl) hS (by (try dsimp only); first | done | exact (Or.inr ⟨k, a, hk, ha, rfl, rfl, by rw [hr9, pm_cmp_sub], rfl, hρ⟩)) d_M_compare_52
    · skip
      rw [hrf15] at h_18
      exact absurd h_18 (by decide)

set_option maxHeartbeats 4000000 in
set_option maxRecDepth 100000 in
theorem c_M_sign (l : Launch) (D : va_G) (cI cZ cB cJ : ClassId) (sz : Nat) (oM qW qM qK qJ qG qH qP cd pl : Nat) (wk mn : Nat → Nat) (hv kp km : Nat → Nat) (sg : Nat → Int32) (ρ : Nat → Int) (x : Int32) (hρ : pm_regs kp km sg ρ) : pn_Ci l D (pn_ty cI cZ cB cJ) y_M_sign w_M_sign ({ frames := 4, cells := 0, slots := 0, locals := 150 } : Room) [.ref oM, .int x] [(oM, .inr (5, [.int (nI cd), .ref qW, .ref qM, .ref qK, .ref qJ, .ref qG, .ref qH, .ref qP, .int (nI pl)])), (qW, .inl (cI, 22400, .inl (fun z9 => nI (wk z9)))), (qM, .inl (cI, 7, .inl (fun z9 => nI (mn z9)))), (qH, .inl (cI, 2700, .inl (fun z9 => nI (hv z9)))), (qK, .inl (cI, 36480, .inl (fun z9 => nI (kp z9)))), (qJ, .inl (cI, 24, .inl (fun z9 => nI (km z9)))), (qG, .inl (cI, 24, .inl sg))] sz (S := Nat × (Nat → Nat) × (Nat → Nat) × (Nat → Nat) × (Nat → Nat) × (Nat → Nat) × (Nat → Int32)) (fun r u => (u.1 = 1 ∧ ¬ (pn_isR x) ∧ pm_regs u.2.2.2.2.1 u.2.2.2.2.2.1 u.2.2.2.2.2.2 ρ) ∨ (∃ k, k < 24 ∧ x = nI k ∧ r = pn_cmp (ρ k) 0 ∧ u.1 = 0 ∧ pm_regs u.2.2.2.2.1 u.2.2.2.2.2.1 u.2.2.2.2.2.2 ρ)) (fun u => [(oM, .inr (5, [.int (nI u.1), .ref qW, .ref qM, .ref qK, .ref qJ, .ref qG, .ref qH, .ref qP, .int (nI pl)])), (qW, .inl (cI, 22400, .inl (fun z9 => nI (u.2.1 z9)))), (qM, .inl (cI, 7, .inl (fun z9 => nI (u.2.2.1 z9)))), (qH, .inl (cI, 2700, .inl (fun z9 => nI (u.2.2.2.1 z9)))), (qK, .inl (cI, 36480, .inl (fun z9 => nI (u.2.2.2.2.1 z9)))), (qJ, .inl (cI, 24, .inl (fun z9 => nI (u.2.2.2.2.2.1 z9)))), (qG, .inl (cI, 24, .inl u.2.2.2.2.2.2))]) := by
  refine pn_start (by decide) (Nat.le_of_ble_eq_true rfl) ?_
  intro p e s m below meth c A Q ls hQ hAe Fx hr hlocks hN hK hP hD hS hA hl
  have hx := Fx.1
  have hb := Fx.2.1
  have hl : lv_has ls 2 [(0, .ref oM), (1, .int x)] := hl
  refine lv_aload_n hx hb d_M_sign_0 rfl (lv_at hl 0 rfl) ?_
  refine lv_iload_n hx hb d_M_sign_1 rfl (lv_at hl 1 rfl) ?_
  refine pn_bi (wr := [(oM, .inr (5, [.int (nI cd), .ref qW, .ref qM, .ref qK, .ref qJ, .ref qG, .ref qH, .ref qP, .int (nI pl)])), (qW, .inl (cI, 22400, .inl (fun z9 => nI (wk z9)))), (qM, .inl (cI, 7, .inl (fun z9 => nI (mn z9)))), (qH, .inl (cI, 2700, .inl (fun z9 => nI (hv z9)))), (qK, .inl (cI, 36480, .inl (fun z9 => nI (kp z9)))), (qJ, .inl (cI, 24, .inl (fun z9 => nI (km z9)))), (qG, .inl (cI, 24, .inl sg))]) [] [0, 1, 2, 3, 4, 5, 6] hP hD hS hA (pn_rS [.int x] [.ref oM] Fx hK hN hP hD [] rfl rfl (c_M_isRegister l D cI cZ cB cJ _ x) kw_666 cal_M_isRegister stat_M_isRegister ⟨by decide, by decide⟩ ⟨rfl, rfl⟩ rfl hl.1 (Nat.le_of_ble_eq_true rfl) d_M_sign_2 ⟨Nat.zero_le _, Nat.zero_le _⟩) rfl rfl rfl (by decide) (fun r_2 u_2 H locs hw hP hD hS => ?_)
  obtain ⟨rfl, h2⟩ := hw
  have hP : va_P D pn_cl [(oM, .inr (5, [.int (nI cd), .ref qW, .ref qM, .ref qK, .ref qJ, .ref qG, .ref qH, .ref qP, .int (nI pl)])), (qW, .inl (cI, 22400, .inl (fun z9 => nI (wk z9)))), (qM, .inl (cI, 7, .inl (fun z9 => nI (mn z9)))), (qH, .inl (cI, 2700, .inl (fun z9 => nI (hv z9)))), (qK, .inl (cI, 36480, .inl (fun z9 => nI (kp z9)))), (qJ, .inl (cI, 24, .inl (fun z9 => nI (km z9)))), (qG, .inl (cI, 24, .inl sg))] H := hP
  have hD : va_D A [(oM, .inr (5, [.int (nI cd), .ref qW, .ref qM, .ref qK, .ref qJ, .ref qG, .ref qH, .ref qP, .int (nI pl)])), (qW, .inl (cI, 22400, .inl (fun z9 => nI (wk z9)))), (qM, .inl (cI, 7, .inl (fun z9 => nI (mn z9)))), (qH, .inl (cI, 2700, .inl (fun z9 => nI (hv z9)))), (qK, .inl (cI, 36480, .inl (fun z9 => nI (kp z9)))), (qJ, .inl (cI, 24, .inl (fun z9 => nI (km z9)))), (qG, .inl (cI, 24, .inl sg))] := hD
  refine pw_ifb_eq (tgt := 12) hx hb d_M_sign_5 (by decide) (fun h_5 => ?_) (fun h_5 => ?_)
  · skip
    have hno : ¬ pn_isR x := fun q => absurd (h2.mpr q) (by rw [h_5]; decide)
    refine lv_iconst (v := nI 1) hx hb d_M_sign_12 (by decide) ?_
    refine pn_bi (wr := [(qW, .inl (cI, 22400, .inl (fun z9 => nI (wk z9)))), (qM, .inl (cI, 7, .inl (fun z9 => nI (mn z9)))), (qH, .inl (cI, 2700, .inl (fun z9 => nI (hv z9)))), (qK, .inl (cI, 36480, .inl (fun z9 => nI (kp z9)))), (qJ, .inl (cI, 24, .inl (fun z9 => nI (km z9)))), (qG, .inl (cI, 24, .inl sg))]) [0] [1, 2, 3, 4, 5, 6] hP hD hS hA (pn_rV [.int (nI 1)] [] Fx hK hN hP hD [0] rfl rfl (c_M_refuses l D cI cZ cB cJ _ oM qW qM qK qJ qG qH qP cd pl 1 (by omega)) kw_669 cal_M_refuses inst_M_refuses sel_M_refuses ⟨by decide, by decide⟩ ⟨rfl, rfl⟩ 0 rfl rfl rfl rfl hl.1 (Nat.le_of_ble_eq_true rfl) d_M_sign_13 ⟨Nat.zero_le _, Nat.zero_le _⟩) rfl rfl rfl (by decide) (fun r_13 u_13 H locs hw hP hD hS => ?_)
    obtain ⟨rfl, hrf13⟩ := hw
    have hP : va_P D pn_cl [(qW, .inl (cI, 22400, .inl (fun z9 => nI (wk z9)))), (qM, .inl (cI, 7, .inl (fun z9 => nI (mn z9)))), (qH, .inl (cI, 2700, .inl (fun z9 => nI (hv z9)))), (qK, .inl (cI, 36480, .inl (fun z9 => nI (kp z9)))), (qJ, .inl (cI, 24, .inl (fun z9 => nI (km z9)))), (qG, .inl (cI, 24, .inl sg)), (oM, .inr (5, [.int (nI 1), .ref qW, .ref qM, .ref qK, .ref qJ, .ref qG, .ref qH, .ref qP, .int (nI pl)]))] H := hP
    have hD : va_D A [(qW, .inl (cI, 22400, .inl (fun z9 => nI (wk z9)))), (qM, .inl (cI, 7, .inl (fun z9 => nI (mn z9)))), (qH, .inl (cI, 2700, .inl (fun z9 => nI (hv z9)))), (qK, .inl (cI, 36480, .inl (fun z9 => nI (kp z9)))), (qJ, .inl (cI, 24, .inl (fun z9 => nI (km z9)))), (qG, .inl (cI, 24, .inl sg)), (oM, .inr (5, [.int (nI 1), .ref qW, .ref qM, .ref qK, .ref qJ, .ref qG, .ref qH, .ref qP, .int (nI pl)]))] := hD
    refine pw_ifb_eq (tgt := 23) hx hb d_M_sign_16 (by decide) (fun h_16 => ?_) (fun h_16 => ?_)
    · skip
      rw [hrf13] at h_16
      exact absurd h_16 (by decide)
    · skip
      refine lv_iconst (v := nI 0) hx hb d_M_sign_19 (by decide) ?_
      refine lv_goto (tgt := 29) hx hb d_M_sign_20 (by decide) ?_
      exact pn_reti ((1, wk, mn, hv, kp, km, sg)) Fx hr hlocks hQ hAe (hP.sub [6, 0, 1, 2, 3, 4, 5] rfl) (hD.sub [6, 0, 1, 2, 3, 4, 5] (by decide) rfl) hS (by (try dsimp only); first | done | exact (Or.inl ⟨rfl, hno, hρ⟩)) d_M_sign_29
  · skip
    obtain ⟨k, hk, rfl⟩ := h2.mp h_5
    refine lv_iconst (v := nI 0) hx hb d_M_sign_8 (by decide) ?_
    refine lv_goto (tgt := 13) hx hb d_M_sign_9 (by decide) ?_
    refine pn_bi (wr := [(qW, .inl (cI, 22400, .inl (fun z9 => nI (wk z9)))), (qM, .inl (cI, 7, .inl (fun z9 => nI (mn z9)))), (qH, .inl (cI, 2700, .inl (fun z9 => nI (hv z9)))), (qK, .inl (cI, 36480, .inl (fun z9 => nI (kp z9)))), (qJ, .inl (cI, 24, .inl (fun z9 => nI (km z9)))), (qG, .inl (cI, 24, .inl sg))]) [0] [1, 2, 3, 4, 5, 6] hP hD hS hA (pn_rV [.int (nI 0)] [] Fx hK hN hP hD [0] rfl rfl (c_M_refuses l D cI cZ cB cJ _ oM qW qM qK qJ qG qH qP cd pl 0 (by omega)) kw_669 cal_M_refuses inst_M_refuses sel_M_refuses ⟨by decide, by decide⟩ ⟨rfl, rfl⟩ 0 rfl rfl rfl rfl hl.1 (Nat.le_of_ble_eq_true rfl) d_M_sign_13 ⟨Nat.zero_le _, Nat.zero_le _⟩) rfl rfl rfl (by decide) (fun r_13 u_13 H locs hw hP hD hS => ?_)
    obtain ⟨rfl, hrf13⟩ := hw
    have hP : va_P D pn_cl [(qW, .inl (cI, 22400, .inl (fun z9 => nI (wk z9)))), (qM, .inl (cI, 7, .inl (fun z9 => nI (mn z9)))), (qH, .inl (cI, 2700, .inl (fun z9 => nI (hv z9)))), (qK, .inl (cI, 36480, .inl (fun z9 => nI (kp z9)))), (qJ, .inl (cI, 24, .inl (fun z9 => nI (km z9)))), (qG, .inl (cI, 24, .inl sg)), (oM, .inr (5, [.int (nI 0), .ref qW, .ref qM, .ref qK, .ref qJ, .ref qG, .ref qH, .ref qP, .int (nI pl)]))] H := hP
    have hD : va_D A [(qW, .inl (cI, 22400, .inl (fun z9 => nI (wk z9)))), (qM, .inl (cI, 7, .inl (fun z9 => nI (mn z9)))), (qH, .inl (cI, 2700, .inl (fun z9 => nI (hv z9)))), (qK, .inl (cI, 36480, .inl (fun z9 => nI (kp z9)))), (qJ, .inl (cI, 24, .inl (fun z9 => nI (km z9)))), (qG, .inl (cI, 24, .inl sg)), (oM, .inr (5, [.int (nI 0), .ref qW, .ref qM, .ref qK, .ref qJ, .ref qG, .ref qH, .ref qP, .int (nI pl)]))] := hD
    refine pw_ifb_eq (tgt := 23) hx hb d_M_sign_16 (by decide) (fun h_16 => ?_) (fun h_16 => ?_)
    · skip
      refine lv_aload_n hx hb d_M_sign_23 rfl (lv_at hl 0 rfl) ?_
      refine pw_get Fx hK hP fld_M 6 rfl 5 (by decide) kw_635 (v := .ref qG) rfl d_M_sign_24 ?_
      refine lv_iload_n hx hb d_M_sign_27 rfl (lv_at hl 1 rfl) ?_
      refine pw_iald Fx hK hP 5 0 (f := sg) rfl rfl (k := k) (by omega) (by decide) d_M_sign_28 ?_
      exact pn_reti ((0, wk, mn, hv, kp, km, sg)) Fx hr hlocks hQ hAe (hP.sub [6, 0, 1, 2, 3, 4, 5] rfl) (hD.sub [6, 0, 1, 2, 3, 4, 5] (by decide) rfl) hS (by (try dsimp only); first | done | exact (Or.inr ⟨k, hk, rfl, (hρ k hk).2.1, rfl, hρ⟩)) d_M_sign_29
    · skip
      rw [hrf13] at h_16
      exact absurd h_16 (by decide)

set_option maxHeartbeats 4000000 in
set_option maxRecDepth 100000 in
theorem c_M_length (l : Launch) (D : va_G) (cI cZ cB cJ : ClassId) (sz : Nat) (oM qW qM qK qJ qG qH qP cd pl : Nat) (wk mn : Nat → Nat) (hv kp km : Nat → Nat) (sg : Nat → Int32) (ρ : Nat → Int) (x : Int32) (hρ : pm_regs kp km sg ρ) : pn_Ci l D (pn_ty cI cZ cB cJ) y_M_length w_M_length ({ frames := 4, cells := 0, slots := 0, locals := 150 } : Room) [.ref oM, .int x] [(oM, .inr (5, [.int (nI cd), .ref qW, .ref qM, .ref qK, .ref qJ, .ref qG, .ref qH, .ref qP, .int (nI pl)])), (qW, .inl (cI, 22400, .inl (fun z9 => nI (wk z9)))), (qM, .inl (cI, 7, .inl (fun z9 => nI (mn z9)))), (qH, .inl (cI, 2700, .inl (fun z9 => nI (hv z9)))), (qK, .inl (cI, 36480, .inl (fun z9 => nI (kp z9)))), (qJ, .inl (cI, 24, .inl (fun z9 => nI (km z9)))), (qG, .inl (cI, 24, .inl sg))] sz (S := Nat × (Nat → Nat) × (Nat → Nat) × (Nat → Nat) × (Nat → Nat) × (Nat → Nat) × (Nat → Int32)) (fun r u => (u.1 = 1 ∧ ¬ (pn_isR x) ∧ pm_regs u.2.2.2.2.1 u.2.2.2.2.2.1 u.2.2.2.2.2.2 ρ) ∨ (∃ k, k < 24 ∧ x = nI k ∧ r = nI (pn_lenI (ρ k)) ∧ u.1 = 0 ∧ pm_regs u.2.2.2.2.1 u.2.2.2.2.2.1 u.2.2.2.2.2.2 ρ)) (fun u => [(oM, .inr (5, [.int (nI u.1), .ref qW, .ref qM, .ref qK, .ref qJ, .ref qG, .ref qH, .ref qP, .int (nI pl)])), (qW, .inl (cI, 22400, .inl (fun z9 => nI (u.2.1 z9)))), (qM, .inl (cI, 7, .inl (fun z9 => nI (u.2.2.1 z9)))), (qH, .inl (cI, 2700, .inl (fun z9 => nI (u.2.2.2.1 z9)))), (qK, .inl (cI, 36480, .inl (fun z9 => nI (u.2.2.2.2.1 z9)))), (qJ, .inl (cI, 24, .inl (fun z9 => nI (u.2.2.2.2.2.1 z9)))), (qG, .inl (cI, 24, .inl u.2.2.2.2.2.2))]) := by
  refine pn_start (by decide) (Nat.le_of_ble_eq_true rfl) ?_
  intro p e s m below meth c A Q ls hQ hAe Fx hr hlocks hN hK hP hD hS hA hl
  have hx := Fx.1
  have hb := Fx.2.1
  have hl : lv_has ls 2 [(0, .ref oM), (1, .int x)] := hl
  refine lv_aload_n hx hb d_M_length_0 rfl (lv_at hl 0 rfl) ?_
  refine lv_iload_n hx hb d_M_length_1 rfl (lv_at hl 1 rfl) ?_
  refine pn_bi (wr := [(oM, .inr (5, [.int (nI cd), .ref qW, .ref qM, .ref qK, .ref qJ, .ref qG, .ref qH, .ref qP, .int (nI pl)])), (qW, .inl (cI, 22400, .inl (fun z9 => nI (wk z9)))), (qM, .inl (cI, 7, .inl (fun z9 => nI (mn z9)))), (qH, .inl (cI, 2700, .inl (fun z9 => nI (hv z9)))), (qK, .inl (cI, 36480, .inl (fun z9 => nI (kp z9)))), (qJ, .inl (cI, 24, .inl (fun z9 => nI (km z9)))), (qG, .inl (cI, 24, .inl sg))]) [] [0, 1, 2, 3, 4, 5, 6] hP hD hS hA (pn_rS [.int x] [.ref oM] Fx hK hN hP hD [] rfl rfl (c_M_isRegister l D cI cZ cB cJ _ x) kw_666 cal_M_isRegister stat_M_isRegister ⟨by decide, by decide⟩ ⟨rfl, rfl⟩ rfl hl.1 (Nat.le_of_ble_eq_true rfl) d_M_length_2 ⟨Nat.zero_le _, Nat.zero_le _⟩) rfl rfl rfl (by decide) (fun r_2 u_2 H locs hw hP hD hS => ?_)
  obtain ⟨rfl, h2⟩ := hw
  have hP : va_P D pn_cl [(oM, .inr (5, [.int (nI cd), .ref qW, .ref qM, .ref qK, .ref qJ, .ref qG, .ref qH, .ref qP, .int (nI pl)])), (qW, .inl (cI, 22400, .inl (fun z9 => nI (wk z9)))), (qM, .inl (cI, 7, .inl (fun z9 => nI (mn z9)))), (qH, .inl (cI, 2700, .inl (fun z9 => nI (hv z9)))), (qK, .inl (cI, 36480, .inl (fun z9 => nI (kp z9)))), (qJ, .inl (cI, 24, .inl (fun z9 => nI (km z9)))), (qG, .inl (cI, 24, .inl sg))] H := hP
  have hD : va_D A [(oM, .inr (5, [.int (nI cd), .ref qW, .ref qM, .ref qK, .ref qJ, .ref qG, .ref qH, .ref qP, .int (nI pl)])), (qW, .inl (cI, 22400, .inl (fun z9 => nI (wk z9)))), (qM, .inl (cI, 7, .inl (fun z9 => nI (mn z9)))), (qH, .inl (cI, 2700, .inl (fun z9 => nI (hv z9)))), (qK, .inl (cI, 36480, .inl (fun z9 => nI (kp z9)))), (qJ, .inl (cI, 24, .inl (fun z9 => nI (km z9)))), (qG, .inl (cI, 24, .inl sg))] := hD
  refine pw_ifb_eq (tgt := 12) hx hb d_M_length_5 (by decide) (fun h_5 => ?_) (fun h_5 => ?_)
  · skip
    have hno : ¬ pn_isR x := fun q => absurd (h2.mpr q) (by rw [h_5]; decide)
    refine lv_iconst (v := nI 1) hx hb d_M_length_12 (by decide) ?_
    refine pn_bi (wr := [(qW, .inl (cI, 22400, .inl (fun z9 => nI (wk z9)))), (qM, .inl (cI, 7, .inl (fun z9 => nI (mn z9)))), (qH, .inl (cI, 2700, .inl (fun z9 => nI (hv z9)))), (qK, .inl (cI, 36480, .inl (fun z9 => nI (kp z9)))), (qJ, .inl (cI, 24, .inl (fun z9 => nI (km z9)))), (qG, .inl (cI, 24, .inl sg))]) [0] [1, 2, 3, 4, 5, 6] hP hD hS hA (pn_rV [.int (nI 1)] [] Fx hK hN hP hD [0] rfl rfl (c_M_refuses l D cI cZ cB cJ _ oM qW qM qK qJ qG qH qP cd pl 1 (by omega)) kw_669 cal_M_refuses inst_M_refuses sel_M_refuses ⟨by decide, by decide⟩ ⟨rfl, rfl⟩ 0 rfl rfl rfl rfl hl.1 (Nat.le_of_ble_eq_true rfl) d_M_length_13 ⟨Nat.zero_le _, Nat.zero_le _⟩) rfl rfl rfl (by decide) (fun r_13 u_13 H locs hw hP hD hS => ?_)
    obtain ⟨rfl, hrf13⟩ := hw
    have hP : va_P D pn_cl [(qW, .inl (cI, 22400, .inl (fun z9 => nI (wk z9)))), (qM, .inl (cI, 7, .inl (fun z9 => nI (mn z9)))), (qH, .inl (cI, 2700, .inl (fun z9 => nI (hv z9)))), (qK, .inl (cI, 36480, .inl (fun z9 => nI (kp z9)))), (qJ, .inl (cI, 24, .inl (fun z9 => nI (km z9)))), (qG, .inl (cI, 24, .inl sg)), (oM, .inr (5, [.int (nI 1), .ref qW, .ref qM, .ref qK, .ref qJ, .ref qG, .ref qH, .ref qP, .int (nI pl)]))] H := hP
    have hD : va_D A [(qW, .inl (cI, 22400, .inl (fun z9 => nI (wk z9)))), (qM, .inl (cI, 7, .inl (fun z9 => nI (mn z9)))), (qH, .inl (cI, 2700, .inl (fun z9 => nI (hv z9)))), (qK, .inl (cI, 36480, .inl (fun z9 => nI (kp z9)))), (qJ, .inl (cI, 24, .inl (fun z9 => nI (km z9)))), (qG, .inl (cI, 24, .inl sg)), (oM, .inr (5, [.int (nI 1), .ref qW, .ref qM, .ref qK, .ref qJ, .ref qG, .ref qH, .ref qP, .int (nI pl)]))] := hD
    refine pw_ifb_eq (tgt := 21) hx hb d_M_length_16 (by decide) (fun h_16 => ?_) (fun h_16 => ?_)
    · skip
      rw [hrf13] at h_16
      exact absurd h_16 (by decide)
    · skip
      refine lv_iconst (v := nI 0) hx hb d_M_length_19 (by decide) ?_
      exact pn_reti ((1, wk, mn, hv, kp, km, sg)) Fx hr hlocks hQ hAe (hP.sub [6, 0, 1, 2, 3, 4, 5] rfl) (hD.sub [6, 0, 1, 2, 3, 4, 5] (by decide) rfl) hS (by (try dsimp only); first | done | exact (Or.inl ⟨rfl, hno, hρ⟩)) d_M_length_20
  · skip
    obtain ⟨k, hk, rfl⟩ := h2.mp h_5
    refine lv_iconst (v := nI 0) hx hb d_M_length_8 (by decide) ?_
    refine lv_goto (tgt := 13) hx hb d_M_length_9 (by decide) ?_
    refine pn_bi (wr := [(qW, .inl (cI, 22400, .inl (fun z9 => nI (wk z9)))), (qM, .inl (cI, 7, .inl (fun z9 => nI (mn z9)))), (qH, .inl (cI, 2700, .inl (fun z9 => nI (hv z9)))), (qK, .inl (cI, 36480, .inl (fun z9 => nI (kp z9)))), (qJ, .inl (cI, 24, .inl (fun z9 => nI (km z9)))), (qG, .inl (cI, 24, .inl sg))]) [0] [1, 2, 3, 4, 5, 6] hP hD hS hA (pn_rV [.int (nI 0)] [] Fx hK hN hP hD [0] rfl rfl (c_M_refuses l D cI cZ cB cJ _ oM qW qM qK qJ qG qH qP cd pl 0 (by omega)) kw_669 cal_M_refuses inst_M_refuses sel_M_refuses ⟨by decide, by decide⟩ ⟨rfl, rfl⟩ 0 rfl rfl rfl rfl hl.1 (Nat.le_of_ble_eq_true rfl) d_M_length_13 ⟨Nat.zero_le _, Nat.zero_le _⟩) rfl rfl rfl (by decide) (fun r_13 u_13 H locs hw hP hD hS => ?_)
    obtain ⟨rfl, hrf13⟩ := hw
    have hP : va_P D pn_cl [(qW, .inl (cI, 22400, .inl (fun z9 => nI (wk z9)))), (qM, .inl (cI, 7, .inl (fun z9 => nI (mn z9)))), (qH, .inl (cI, 2700, .inl (fun z9 => nI (hv z9)))), (qK, .inl (cI, 36480, .inl (fun z9 => nI (kp z9)))), (qJ, .inl (cI, 24, .inl (fun z9 => nI (km z9)))), (qG, .inl (cI, 24, .inl sg)), (oM, .inr (5, [.int (nI 0), .ref qW, .ref qM, .ref qK, .ref qJ, .ref qG, .ref qH, .ref qP, .int (nI pl)]))] H := hP
    have hD : va_D A [(qW, .inl (cI, 22400, .inl (fun z9 => nI (wk z9)))), (qM, .inl (cI, 7, .inl (fun z9 => nI (mn z9)))), (qH, .inl (cI, 2700, .inl (fun z9 => nI (hv z9)))), (qK, .inl (cI, 36480, .inl (fun z9 => nI (kp z9)))), (qJ, .inl (cI, 24, .inl (fun z9 => nI (km z9)))), (qG, .inl (cI, 24, .inl sg)), (oM, .inr (5, [.int (nI 0), .ref qW, .ref qM, .ref qK, .ref qJ, .ref qG, .ref qH, .ref qP, .int (nI pl)]))] := hD
    refine pw_ifb_eq (tgt := 21) hx hb d_M_length_16 (by decide) (fun h_16 => ?_) (fun h_16 => ?_)
    · skip
      refine lv_aload_n hx hb d_M_length_21 rfl (lv_at hl 0 rfl) ?_
      refine lv_iconst (v := nI 0) hx hb d_M_length_22 (by decide) ?_
      refine lv_iload_n hx hb d_M_length_23 rfl (lv_at hl 1 rfl) ?_
      refine pn_bv (wr := [(qH, .inl (cI, 2700, .inl (fun z9 => nI (hv z9)))), (qG, .inl (cI, 24, .inl sg))]) [6, 0, 1, 3, 4] [2, 5] hP hD hS hA (pn_rV [.int (nI 0), .int (nI k)] [] Fx hK hN hP hD [6, 0, 1, 3, 4] rfl rfl (c_M_load l D cI cZ cB cJ _ oM qW qM qK qJ qG qH qP 0 pl wk mn kp km 0 k ((ρ k).natAbs) (by omega) hk (hρ k hk).1) kw_703 cal_M_load inst_M_load sel_M_load ⟨by decide, by decide⟩ ⟨rfl, rfl⟩ 0 rfl rfl rfl rfl hl.1 (Nat.le_of_ble_eq_true rfl) d_M_length_24 ⟨Nat.zero_le _, Nat.zero_le _⟩) rfl rfl rfl (by decide) (fun u_24 H locs hw hP hD hS => ?_)
      obtain ⟨hn24, hK24⟩ := hw
      have hP : va_P D pn_cl [(qH, .inl (cI, 2700, .inl (fun z9 => nI (hv z9)))), (qG, .inl (cI, 24, .inl sg)), (oM, .inr (5, [.int (nI 0), .ref qW, .ref qM, .ref qK, .ref qJ, .ref qG, .ref qH, .ref qP, .int (nI pl)])), (qW, .inl (cI, 22400, .inl (fun z9 => nI (u_24 z9)))), (qM, .inl (cI, 7, .inl (fun z9 => nI ((pn_up mn 0 (km k)) z9)))), (qK, .inl (cI, 36480, .inl (fun z9 => nI (kp z9)))), (qJ, .inl (cI, 24, .inl (fun z9 => nI (km z9))))] H := hP
      have hD : va_D A [(qH, .inl (cI, 2700, .inl (fun z9 => nI (hv z9)))), (qG, .inl (cI, 24, .inl sg)), (oM, .inr (5, [.int (nI 0), .ref qW, .ref qM, .ref qK, .ref qJ, .ref qG, .ref qH, .ref qP, .int (nI pl)])), (qW, .inl (cI, 22400, .inl (fun z9 => nI (u_24 z9)))), (qM, .inl (cI, 7, .inl (fun z9 => nI ((pn_up mn 0 (km k)) z9)))), (qK, .inl (cI, 36480, .inl (fun z9 => nI (kp z9)))), (qJ, .inl (cI, 24, .inl (fun z9 => nI (km z9))))] := hD
      refine lv_aload_n hx hb d_M_length_27 rfl (lv_at hl 0 rfl) ?_
      refine lv_iconst (v := nI 0) hx hb d_M_length_28 (by decide) ?_
      refine pn_bi (wr := [(qG, .inl (cI, 24, .inl sg)), (qK, .inl (cI, 36480, .inl (fun z9 => nI (kp z9)))), (qJ, .inl (cI, 24, .inl (fun z9 => nI (km z9))))]) [2, 3, 4, 0] [1, 5, 6] hP hD hS hA (pn_rV [.int (nI 0)] [] Fx hK hN hP hD [2, 3, 4, 0] rfl rfl (c_M_bits l D cI cZ cB cJ _ oM qW qM qK qJ qG qH qP 0 pl u_24 (pn_up mn 0 (km k)) hv 0 (ρ k).natAbs (by omega) (by omega) hn24 (pm_up43 (pm_rb2 hρ hk).1 (by decide))) kw_682 cal_M_bits inst_M_bits sel_M_bits ⟨by decide, by decide⟩ ⟨rfl, rfl⟩ 0 rfl rfl rfl rfl hl.1 (Nat.le_of_ble_eq_true rfl) d_M_length_29 ⟨Nat.zero_le _, Nat.zero_le _⟩) rfl rfl rfl (by decide) (fun r_29 u_29 H locs hw hP hD hS => ?_)
      obtain ⟨w6, m6, h6⟩ := u_29
      obtain ⟨rfl, hK67⟩ := hw
      have hP : va_P D pn_cl [(qG, .inl (cI, 24, .inl sg)), (qK, .inl (cI, 36480, .inl (fun z9 => nI (kp z9)))), (qJ, .inl (cI, 24, .inl (fun z9 => nI (km z9)))), (oM, .inr (5, [.int (nI 0), .ref qW, .ref qM, .ref qK, .ref qJ, .ref qG, .ref qH, .ref qP, .int (nI pl)])), (qW, .inl (cI, 22400, .inl (fun z9 => nI (w6 z9)))), (qM, .inl (cI, 7, .inl (fun z9 => nI (m6 z9)))), (qH, .inl (cI, 2700, .inl (fun z9 => nI (h6 z9))))] H := hP
      have hD : va_D A [(qG, .inl (cI, 24, .inl sg)), (qK, .inl (cI, 36480, .inl (fun z9 => nI (kp z9)))), (qJ, .inl (cI, 24, .inl (fun z9 => nI (km z9)))), (oM, .inr (5, [.int (nI 0), .ref qW, .ref qM, .ref qK, .ref qJ, .ref qG, .ref qH, .ref qP, .int (nI pl)])), (qW, .inl (cI, 22400, .inl (fun z9 => nI (w6 z9)))), (qM, .inl (cI, 7, .inl (fun z9 => nI (m6 z9)))), (qH, .inl (cI, 2700, .inl (fun z9 => nI (h6 z9))))] := hD
      exact pn_reti ((0, w6, m6, h6, kp, km, sg)) Fx hr hlocks hQ hAe (hP.sub [3, 4, 5, 6, 1, 2, 0] rfl) (hD.sub [3, 4, 5, 6, 1, 2, 0] (by decide) rfl) hS (by (try dsimp only); first | done | exact (Or.inr ⟨k, hk, rfl, rfl, rfl, hρ⟩)) d_M_length_32
    · skip
      rw [hrf13] at h_16
      exact absurd h_16 (by decide)

set_option maxHeartbeats 4000000 in
set_option maxRecDepth 100000 in
theorem c_M_gcd (l : Launch) (D : va_G) (cI cZ cB cJ : ClassId) (sz : Nat) (oM qW qM qK qJ qG qH qP cd pl : Nat) (wk mn : Nat → Nat) (hv kp km : Nat → Nat) (sg : Nat → Int32) (ρ : Nat → Int) (x y z : Int32) (hρ : pm_regs kp km sg ρ) : pn_Ci l D (pn_ty cI cZ cB cJ) y_M_gcd w_M_gcd ({ frames := 4, cells := 0, slots := 0, locals := 160 } : Room) [.ref oM, .int x, .int y, .int z] [(oM, .inr (5, [.int (nI cd), .ref qW, .ref qM, .ref qK, .ref qJ, .ref qG, .ref qH, .ref qP, .int (nI pl)])), (qW, .inl (cI, 22400, .inl (fun z9 => nI (wk z9)))), (qM, .inl (cI, 7, .inl (fun z9 => nI (mn z9)))), (qH, .inl (cI, 2700, .inl (fun z9 => nI (hv z9)))), (qK, .inl (cI, 36480, .inl (fun z9 => nI (kp z9)))), (qJ, .inl (cI, 24, .inl (fun z9 => nI (km z9)))), (qG, .inl (cI, 24, .inl sg))] sz (S := Nat × (Nat → Nat) × (Nat → Nat) × (Nat → Nat) × (Nat → Nat) × (Nat → Nat) × (Nat → Int32)) (fun r u => (u.1 = 1 ∧ ¬ (pn_isR x ∧ pn_isR y ∧ pn_isR z) ∧ pm_regs u.2.2.2.2.1 u.2.2.2.2.2.1 u.2.2.2.2.2.2 ρ) ∨ (∃ k a b, k < 24 ∧ a < 24 ∧ b < 24 ∧ x = nI k ∧ y = nI a ∧ z = nI b ∧ r = nI (pn_lenI ((Int.gcd (ρ a) (ρ b) : Nat) : Int)) ∧ u.1 = 0 ∧ pm_regs u.2.2.2.2.1 u.2.2.2.2.2.1 u.2.2.2.2.2.2 (pn_up ρ k ((Int.gcd (ρ a) (ρ b) : Nat) : Int)))) (fun u => [(oM, .inr (5, [.int (nI u.1), .ref qW, .ref qM, .ref qK, .ref qJ, .ref qG, .ref qH, .ref qP, .int (nI pl)])), (qW, .inl (cI, 22400, .inl (fun z9 => nI (u.2.1 z9)))), (qM, .inl (cI, 7, .inl (fun z9 => nI (u.2.2.1 z9)))), (qH, .inl (cI, 2700, .inl (fun z9 => nI (u.2.2.2.1 z9)))), (qK, .inl (cI, 36480, .inl (fun z9 => nI (u.2.2.2.2.1 z9)))), (qJ, .inl (cI, 24, .inl (fun z9 => nI (u.2.2.2.2.2.1 z9)))), (qG, .inl (cI, 24, .inl u.2.2.2.2.2.2))]) := by
  refine pn_start (by decide) (Nat.le_of_ble_eq_true rfl) ?_
  intro p e s m below meth c A Q ls hQ hAe Fx hr hlocks hN hK hP hD hS hA hl
  have hx := Fx.1
  have hb := Fx.2.1
  have hl : lv_has ls 4 [(0, .ref oM), (1, .int x), (2, .int y), (3, .int z)] := hl
  refine lv_aload_n hx hb d_M_gcd_0 rfl (lv_at hl 0 rfl) ?_
  refine lv_iload_n hx hb d_M_gcd_1 rfl (lv_at hl 1 rfl) ?_
  refine lv_iload_n hx hb d_M_gcd_2 rfl (lv_at hl 2 rfl) ?_
  refine lv_iload_n hx hb d_M_gcd_3 rfl (lv_at hl 3 rfl) ?_
  refine pn_bi (wr := [(oM, .inr (5, [.int (nI cd), .ref qW, .ref qM, .ref qK, .ref qJ, .ref qG, .ref qH, .ref qP, .int (nI pl)])), (qW, .inl (cI, 22400, .inl (fun z9 => nI (wk z9)))), (qM, .inl (cI, 7, .inl (fun z9 => nI (mn z9)))), (qH, .inl (cI, 2700, .inl (fun z9 => nI (hv z9)))), (qK, .inl (cI, 36480, .inl (fun z9 => nI (kp z9)))), (qJ, .inl (cI, 24, .inl (fun z9 => nI (km z9)))), (qG, .inl (cI, 24, .inl sg))]) [] [0, 1, 2, 3, 4, 5, 6] hP hD hS hA (pn_rS [.int x, .int y, .int z] [.ref oM] Fx hK hN hP hD [] rfl rfl (c_M_are l D cI cZ cB cJ _ x y z) kw_724 cal_M_are stat_M_are ⟨by decide, by decide⟩ ⟨rfl, rfl⟩ rfl hl.1 (Nat.le_of_ble_eq_true rfl) d_M_gcd_4 ⟨Nat.zero_le _, Nat.zero_le _⟩) rfl rfl rfl (by decide) (fun r_4 u_4 H locs hw hP hD hS => ?_)
  obtain ⟨rfl, h4⟩ := hw
  have hP : va_P D pn_cl [(oM, .inr (5, [.int (nI cd), .ref qW, .ref qM, .ref qK, .ref qJ, .ref qG, .ref qH, .ref qP, .int (nI pl)])), (qW, .inl (cI, 22400, .inl (fun z9 => nI (wk z9)))), (qM, .inl (cI, 7, .inl (fun z9 => nI (mn z9)))), (qH, .inl (cI, 2700, .inl (fun z9 => nI (hv z9)))), (qK, .inl (cI, 36480, .inl (fun z9 => nI (kp z9)))), (qJ, .inl (cI, 24, .inl (fun z9 => nI (km z9)))), (qG, .inl (cI, 24, .inl sg))] H := hP
  have hD : va_D A [(oM, .inr (5, [.int (nI cd), .ref qW, .ref qM, .ref qK, .ref qJ, .ref qG, .ref qH, .ref qP, .int (nI pl)])), (qW, .inl (cI, 22400, .inl (fun z9 => nI (wk z9)))), (qM, .inl (cI, 7, .inl (fun z9 => nI (mn z9)))), (qH, .inl (cI, 2700, .inl (fun z9 => nI (hv z9)))), (qK, .inl (cI, 36480, .inl (fun z9 => nI (kp z9)))), (qJ, .inl (cI, 24, .inl (fun z9 => nI (km z9)))), (qG, .inl (cI, 24, .inl sg))] := hD
  refine pw_ifb_eq (tgt := 14) hx hb d_M_gcd_7 (by decide) (fun h_7 => ?_) (fun h_7 => ?_)
  · skip
    have hno : ¬ (pn_isR x ∧ pn_isR y ∧ pn_isR z) := fun q => absurd (h4.mpr q) (by rw [h_7]; decide)
    refine lv_iconst (v := nI 1) hx hb d_M_gcd_14 (by decide) ?_
    refine pn_bi (wr := [(qW, .inl (cI, 22400, .inl (fun z9 => nI (wk z9)))), (qM, .inl (cI, 7, .inl (fun z9 => nI (mn z9)))), (qH, .inl (cI, 2700, .inl (fun z9 => nI (hv z9)))), (qK, .inl (cI, 36480, .inl (fun z9 => nI (kp z9)))), (qJ, .inl (cI, 24, .inl (fun z9 => nI (km z9)))), (qG, .inl (cI, 24, .inl sg))]) [0] [1, 2, 3, 4, 5, 6] hP hD hS hA (pn_rV [.int (nI 1)] [] Fx hK hN hP hD [0] rfl rfl (c_M_refuses l D cI cZ cB cJ _ oM qW qM qK qJ qG qH qP cd pl 1 (by omega)) kw_669 cal_M_refuses inst_M_refuses sel_M_refuses ⟨by decide, by decide⟩ ⟨rfl, rfl⟩ 0 rfl rfl rfl rfl hl.1 (Nat.le_of_ble_eq_true rfl) d_M_gcd_15 ⟨Nat.zero_le _, Nat.zero_le _⟩) rfl rfl rfl (by decide) (fun r_15 u_15 H locs hw hP hD hS => ?_)
    obtain ⟨rfl, hrf15⟩ := hw
    have hP : va_P D pn_cl [(qW, .inl (cI, 22400, .inl (fun z9 => nI (wk z9)))), (qM, .inl (cI, 7, .inl (fun z9 => nI (mn z9)))), (qH, .inl (cI, 2700, .inl (fun z9 => nI (hv z9)))), (qK, .inl (cI, 36480, .inl (fun z9 => nI (kp z9)))), (qJ, .inl (cI, 24, .inl (fun z9 => nI (km z9)))), (qG, .inl (cI, 24, .inl sg)), (oM, .inr (5, [.int (nI 1), .ref qW, .ref qM, .ref qK, .ref qJ, .ref qG, .ref qH, .ref qP, .int (nI pl)]))] H := hP
    have hD : va_D A [(qW, .inl (cI, 22400, .inl (fun z9 => nI (wk z9)))), (qM, .inl (cI, 7, .inl (fun z9 => nI (mn z9)))), (qH, .inl (cI, 2700, .inl (fun z9 => nI (hv z9)))), (qK, .inl (cI, 36480, .inl (fun z9 => nI (kp z9)))), (qJ, .inl (cI, 24, .inl (fun z9 => nI (km z9)))), (qG, .inl (cI, 24, .inl sg)), (oM, .inr (5, [.int (nI 1), .ref qW, .ref qM, .ref qK, .ref qJ, .ref qG, .ref qH, .ref qP, .int (nI pl)]))] := hD
    refine pw_ifb_eq (tgt := 23) hx hb d_M_gcd_18 (by decide) (fun h_18 => ?_) (fun h_18 => ?_)
    · skip
      rw [hrf15] at h_18
      exact absurd h_18 (by decide)
    · skip
      refine lv_iconst (v := nI 0) hx hb d_M_gcd_21 (by decide) ?_
      exact pn_reti ((1, wk, mn, hv, kp, km, sg)) Fx hr hlocks hQ hAe (hP.sub [6, 0, 1, 2, 3, 4, 5] rfl) (hD.sub [6, 0, 1, 2, 3, 4, 5] (by decide) rfl) hS (by (try dsimp only); first | done | exact (Or.inl ⟨rfl, hno, hρ⟩)) d_M_gcd_22
  · skip
    obtain ⟨⟨k, hk, rfl⟩, ⟨a, ha, rfl⟩, ⟨b, hb9, rfl⟩⟩ := h4.mp h_7
    refine lv_iconst (v := nI 0) hx hb d_M_gcd_10 (by decide) ?_
    refine lv_goto (tgt := 15) hx hb d_M_gcd_11 (by decide) ?_
    refine pn_bi (wr := [(qW, .inl (cI, 22400, .inl (fun z9 => nI (wk z9)))), (qM, .inl (cI, 7, .inl (fun z9 => nI (mn z9)))), (qH, .inl (cI, 2700, .inl (fun z9 => nI (hv z9)))), (qK, .inl (cI, 36480, .inl (fun z9 => nI (kp z9)))), (qJ, .inl (cI, 24, .inl (fun z9 => nI (km z9)))), (qG, .inl (cI, 24, .inl sg))]) [0] [1, 2, 3, 4, 5, 6] hP hD hS hA (pn_rV [.int (nI 0)] [] Fx hK hN hP hD [0] rfl rfl (c_M_refuses l D cI cZ cB cJ _ oM qW qM qK qJ qG qH qP cd pl 0 (by omega)) kw_669 cal_M_refuses inst_M_refuses sel_M_refuses ⟨by decide, by decide⟩ ⟨rfl, rfl⟩ 0 rfl rfl rfl rfl hl.1 (Nat.le_of_ble_eq_true rfl) d_M_gcd_15 ⟨Nat.zero_le _, Nat.zero_le _⟩) rfl rfl rfl (by decide) (fun r_15 u_15 H locs hw hP hD hS => ?_)
    obtain ⟨rfl, hrf15⟩ := hw
    have hP : va_P D pn_cl [(qW, .inl (cI, 22400, .inl (fun z9 => nI (wk z9)))), (qM, .inl (cI, 7, .inl (fun z9 => nI (mn z9)))), (qH, .inl (cI, 2700, .inl (fun z9 => nI (hv z9)))), (qK, .inl (cI, 36480, .inl (fun z9 => nI (kp z9)))), (qJ, .inl (cI, 24, .inl (fun z9 => nI (km z9)))), (qG, .inl (cI, 24, .inl sg)), (oM, .inr (5, [.int (nI 0), .ref qW, .ref qM, .ref qK, .ref qJ, .ref qG, .ref qH, .ref qP, .int (nI pl)]))] H := hP
    have hD : va_D A [(qW, .inl (cI, 22400, .inl (fun z9 => nI (wk z9)))), (qM, .inl (cI, 7, .inl (fun z9 => nI (mn z9)))), (qH, .inl (cI, 2700, .inl (fun z9 => nI (hv z9)))), (qK, .inl (cI, 36480, .inl (fun z9 => nI (kp z9)))), (qJ, .inl (cI, 24, .inl (fun z9 => nI (km z9)))), (qG, .inl (cI, 24, .inl sg)), (oM, .inr (5, [.int (nI 0), .ref qW, .ref qM, .ref qK, .ref qJ, .ref qG, .ref qH, .ref qP, .int (nI pl)]))] := hD
    refine pw_ifb_eq (tgt := 23) hx hb d_M_gcd_18 (by decide) (fun h_18 => ?_) (fun h_18 => ?_)
    · skip
      refine lv_aload_n hx hb d_M_gcd_23 rfl (lv_at hl 0 rfl) ?_
      refine lv_iconst (v := nI 0) hx hb d_M_gcd_24 (by decide) ?_
      refine lv_iload_n hx hb d_M_gcd_25 rfl (lv_at hl 2 rfl) ?_
      refine pn_bv (wr := [(qH, .inl (cI, 2700, .inl (fun z9 => nI (hv z9)))), (qG, .inl (cI, 24, .inl sg))]) [6, 0, 1, 3, 4] [2, 5] hP hD hS hA (pn_rV [.int (nI 0), .int (nI a)] [] Fx hK hN hP hD [6, 0, 1, 3, 4] rfl rfl (c_M_load l D cI cZ cB cJ _ oM qW qM qK qJ qG qH qP 0 pl wk mn kp km 0 a ((ρ a).natAbs) (by omega) ha (hρ a ha).1) kw_703 cal_M_load inst_M_load sel_M_load ⟨by decide, by decide⟩ ⟨rfl, rfl⟩ 0 rfl rfl rfl rfl hl.1 (Nat.le_of_ble_eq_true rfl) d_M_gcd_26 ⟨Nat.zero_le _, Nat.zero_le _⟩) rfl rfl rfl (by decide) (fun u_26 H locs hw hP hD hS => ?_)
      obtain ⟨hn26, hK26⟩ := hw
      have hP : va_P D pn_cl [(qH, .inl (cI, 2700, .inl (fun z9 => nI (hv z9)))), (qG, .inl (cI, 24, .inl sg)), (oM, .inr (5, [.int (nI 0), .ref qW, .ref qM, .ref qK, .ref qJ, .ref qG, .ref qH, .ref qP, .int (nI pl)])), (qW, .inl (cI, 22400, .inl (fun z9 => nI (u_26 z9)))), (qM, .inl (cI, 7, .inl (fun z9 => nI ((pn_up mn 0 (km a)) z9)))), (qK, .inl (cI, 36480, .inl (fun z9 => nI (kp z9)))), (qJ, .inl (cI, 24, .inl (fun z9 => nI (km z9))))] H := hP
      have hD : va_D A [(qH, .inl (cI, 2700, .inl (fun z9 => nI (hv z9)))), (qG, .inl (cI, 24, .inl sg)), (oM, .inr (5, [.int (nI 0), .ref qW, .ref qM, .ref qK, .ref qJ, .ref qG, .ref qH, .ref qP, .int (nI pl)])), (qW, .inl (cI, 22400, .inl (fun z9 => nI (u_26 z9)))), (qM, .inl (cI, 7, .inl (fun z9 => nI ((pn_up mn 0 (km a)) z9)))), (qK, .inl (cI, 36480, .inl (fun z9 => nI (kp z9)))), (qJ, .inl (cI, 24, .inl (fun z9 => nI (km z9))))] := hD
      refine lv_aload_n hx hb d_M_gcd_29 rfl (lv_at hl 0 rfl) ?_
      refine lv_iconst (v := nI 1) hx hb d_M_gcd_30 (by decide) ?_
      refine lv_iload_n hx hb d_M_gcd_31 rfl (lv_at hl 3 rfl) ?_
      refine pn_bv (wr := [(qH, .inl (cI, 2700, .inl (fun z9 => nI (hv z9)))), (qG, .inl (cI, 24, .inl sg))]) [2, 3, 4, 5, 6] [0, 1] hP hD hS hA (pn_rV [.int (nI 1), .int (nI b)] [] Fx hK hN hP hD [2, 3, 4, 5, 6] rfl rfl (c_M_load l D cI cZ cB cJ _ oM qW qM qK qJ qG qH qP 0 pl u_26 (pn_up mn 0 (km a)) kp km 1 b ((ρ b).natAbs) (by omega) hb9 (hρ b hb9).1) kw_703 cal_M_load inst_M_load sel_M_load ⟨by decide, by decide⟩ ⟨rfl, rfl⟩ 0 rfl rfl rfl rfl hl.1 (Nat.le_of_ble_eq_true rfl) d_M_gcd_32 ⟨Nat.zero_le _, Nat.zero_le _⟩) rfl rfl rfl (by decide) (fun u_32 H locs hw hP hD hS => ?_)
      obtain ⟨hn32, hK32⟩ := hw
      have hP : va_P D pn_cl [(qH, .inl (cI, 2700, .inl (fun z9 => nI (hv z9)))), (qG, .inl (cI, 24, .inl sg)), (oM, .inr (5, [.int (nI 0), .ref qW, .ref qM, .ref qK, .ref qJ, .ref qG, .ref qH, .ref qP, .int (nI pl)])), (qW, .inl (cI, 22400, .inl (fun z9 => nI (u_32 z9)))), (qM, .inl (cI, 7, .inl (fun z9 => nI ((pn_up (pn_up mn 0 (km a)) 1 (km b)) z9)))), (qK, .inl (cI, 36480, .inl (fun z9 => nI (kp z9)))), (qJ, .inl (cI, 24, .inl (fun z9 => nI (km z9))))] H := hP
      have hD : va_D A [(qH, .inl (cI, 2700, .inl (fun z9 => nI (hv z9)))), (qG, .inl (cI, 24, .inl sg)), (oM, .inr (5, [.int (nI 0), .ref qW, .ref qM, .ref qK, .ref qJ, .ref qG, .ref qH, .ref qP, .int (nI pl)])), (qW, .inl (cI, 22400, .inl (fun z9 => nI (u_32 z9)))), (qM, .inl (cI, 7, .inl (fun z9 => nI ((pn_up (pn_up mn 0 (km a)) 1 (km b)) z9)))), (qK, .inl (cI, 36480, .inl (fun z9 => nI (kp z9)))), (qJ, .inl (cI, 24, .inl (fun z9 => nI (km z9))))] := hD
      refine lv_aload_n hx hb d_M_gcd_35 rfl (lv_at hl 0 rfl) ?_
      refine lv_iconst (v := nI 0) hx hb d_M_gcd_36 (by decide) ?_
      refine lv_iconst (v := nI 1) hx hb d_M_gcd_37 (by decide) ?_
      refine pn_bv (wr := [(qH, .inl (cI, 2700, .inl (fun z9 => nI (hv z9)))), (qG, .inl (cI, 24, .inl sg)), (qK, .inl (cI, 36480, .inl (fun z9 => nI (kp z9)))), (qJ, .inl (cI, 24, .inl (fun z9 => nI (km z9))))]) [2, 3, 4] [0, 1, 5, 6] hP hD hS hA (pn_rV [.int (nI 0), .int (nI 1)] [] Fx hK hN hP hD [2, 3, 4] rfl rfl (c_M_common l D cI cZ cB cJ _ oM qW qM qK qJ qG qH qP 0 pl u_32 (pn_up (pn_up mn 0 (km a)) 1 (km b)) 0 1 (ρ a).natAbs (ρ b).natAbs (by omega) (by omega) (by omega) (hK32 0 _ (by omega) hn26) hn32 (Nat.lt_of_lt_of_le (pm_rb2 hρ ha).2 (pm_mono (by decide))) (Nat.lt_of_lt_of_le (pm_rb2 hρ hb9).2 (pm_mono (by decide)))) kw_797 cal_M_common inst_M_common sel_M_common ⟨by decide, by decide⟩ ⟨rfl, rfl⟩ 0 rfl rfl rfl rfl hl.1 (Nat.le_of_ble_eq_true rfl) d_M_gcd_38 ⟨Nat.zero_le _, Nat.zero_le _⟩) rfl rfl rfl (by decide) (fun u_38 H locs hw hP hD hS => ?_)
      obtain ⟨w6, m6⟩ := u_38
      have hP : va_P D pn_cl [(qH, .inl (cI, 2700, .inl (fun z9 => nI (hv z9)))), (qG, .inl (cI, 24, .inl sg)), (qK, .inl (cI, 36480, .inl (fun z9 => nI (kp z9)))), (qJ, .inl (cI, 24, .inl (fun z9 => nI (km z9)))), (oM, .inr (5, [.int (nI 0), .ref qW, .ref qM, .ref qK, .ref qJ, .ref qG, .ref qH, .ref qP, .int (nI pl)])), (qW, .inl (cI, 22400, .inl (fun z9 => nI (w6 z9)))), (qM, .inl (cI, 7, .inl (fun z9 => nI (m6 z9))))] H := hP
      have hD : va_D A [(qH, .inl (cI, 2700, .inl (fun z9 => nI (hv z9)))), (qG, .inl (cI, 24, .inl sg)), (qK, .inl (cI, 36480, .inl (fun z9 => nI (kp z9)))), (qJ, .inl (cI, 24, .inl (fun z9 => nI (km z9)))), (oM, .inr (5, [.int (nI 0), .ref qW, .ref qM, .ref qK, .ref qJ, .ref qG, .ref qH, .ref qP, .int (nI pl)])), (qW, .inl (cI, 22400, .inl (fun z9 => nI (w6 z9)))), (qM, .inl (cI, 7, .inl (fun z9 => nI (m6 z9))))] := hD
      have hg6 : pm_N w6 m6 5 (Nat.gcd (ρ a).natAbs (ρ b).natAbs) := hw
      refine lv_aload_n hx hb d_M_gcd_41 rfl (lv_at hl 0 rfl) ?_
      refine lv_iload_n hx hb d_M_gcd_42 rfl (lv_at hl 1 rfl) ?_
      refine lv_iconst (v := nI 5) hx hb d_M_gcd_43 (by decide) ?_
      refine lv_iconst (v := nI 1) hx hb d_M_gcd_44 (by decide) ?_
      refine lv_iconst (v := nI 2) hx hb d_M_gcd_45 (by decide) ?_
      refine pn_bi (wr := []) [4, 5, 6, 0, 2, 3, 1] [] hP hD hS hA (pn_rV [.int (nI k), .int (nI 5), .int (nI 1), .int (nI 2)] [] Fx hK hN hP hD [4, 5, 6, 0, 2, 3, 1] rfl rfl (c_M_put l D cI cZ cB cJ _ oM qW qM qK qJ qG qH qP 0 pl w6 m6 hv kp km sg (ρ) k 5 2 (nI 1) ((Int.gcd (ρ a) (ρ b) : Nat) : Int) (by omega) (by omega) hk (by omega) (by omega) (show pm_N w6 m6 5 ((Int.gcd (ρ a) (ρ b) : Nat) : Int).natAbs from hg6) (pm_up43 (n := 20000) (pm_nat2 (show pn_len (((Int.gcd (ρ a) (ρ b) : Nat) : Int).natAbs : Int) ≤ 20000 from pn_gcd_len (hρ a ha).2.2 (hρ b hb9).2.2)) (by decide)) (by rcases Nat.eq_zero_or_pos (Int.gcd (ρ a) (ρ b)) with q | q; (· rw [q]; exact Or.inl rfl); (· exact Or.inr (pn_cmp_gt (by omega)).symm)) hρ) kw_678 cal_M_put inst_M_put sel_M_put ⟨by decide, by decide⟩ ⟨rfl, rfl⟩ 0 rfl rfl rfl rfl hl.1 (Nat.le_of_ble_eq_true rfl) d_M_gcd_46 ⟨Nat.zero_le _, Nat.zero_le _⟩) rfl rfl rfl (by decide) (fun r_46 u_46 H locs hw hP hD hS => ?_)
      obtain ⟨c8, w8, m8, h8, kp8, km8, sg8⟩ := u_46
      obtain ⟨hK46, hp46⟩ := hw
      have hP : va_P D pn_cl [(oM, .inr (5, [.int (nI c8), .ref qW, .ref qM, .ref qK, .ref qJ, .ref qG, .ref qH, .ref qP, .int (nI pl)])), (qW, .inl (cI, 22400, .inl (fun z9 => nI (w8 z9)))), (qM, .inl (cI, 7, .inl (fun z9 => nI (m8 z9)))), (qH, .inl (cI, 2700, .inl (fun z9 => nI (h8 z9)))), (qK, .inl (cI, 36480, .inl (fun z9 => nI (kp8 z9)))), (qJ, .inl (cI, 24, .inl (fun z9 => nI (km8 z9)))), (qG, .inl (cI, 24, .inl sg8))] H := hP
      have hD : va_D A [(oM, .inr (5, [.int (nI c8), .ref qW, .ref qM, .ref qK, .ref qJ, .ref qG, .ref qH, .ref qP, .int (nI pl)])), (qW, .inl (cI, 22400, .inl (fun z9 => nI (w8 z9)))), (qM, .inl (cI, 7, .inl (fun z9 => nI (m8 z9)))), (qH, .inl (cI, 2700, .inl (fun z9 => nI (h8 z9)))), (qK, .inl (cI, 36480, .inl (fun z9 => nI (kp8 z9)))), (qJ, .inl (cI, 24, .inl (fun z9 => nI (km8 z9)))), (qG, .inl (cI, 24, .inl sg8))] := hD
      dsimp only at hK46 hp46
      exact pn_reti ((c8, w8, m8, h8, kp8, km8, sg8)) Fx hr hlocks hQ hAe hP hD hS (by (try dsimp only); first | done | exact (Or.inr ⟨k, a, b, hk, ha, hb9, rfl, rfl, rfl, (hp46.resolve_right (fun q => absurd q.1 (Nat.not_lt.mpr (pn_gcd_len (hρ a ha).2.2 (hρ b hb9).2.2)))).2⟩)) d_M_gcd_49
    · skip
      rw [hrf15] at h_18
      exact absurd h_18 (by decide)

set_option maxHeartbeats 4000000 in
set_option maxRecDepth 100000 in
theorem c_M_limb (l : Launch) (D : va_G) (cI cZ cB cJ : ClassId) (sz : Nat) (oM qW qM qK qJ qG qH qP cd pl : Nat) (wk mn : Nat → Nat) (hv kp km : Nat → Nat) (sg : Nat → Int32) (ρ : Nat → Int) (x y : Int32) (hρ : pm_regs kp km sg ρ) : pn_Ci l D (pn_ty cI cZ cB cJ) y_M_limb w_M_limb ({ frames := 4, cells := 0, slots := 0, locals := 150 } : Room) [.ref oM, .int x, .int y] [(oM, .inr (5, [.int (nI cd), .ref qW, .ref qM, .ref qK, .ref qJ, .ref qG, .ref qH, .ref qP, .int (nI pl)])), (qW, .inl (cI, 22400, .inl (fun z9 => nI (wk z9)))), (qM, .inl (cI, 7, .inl (fun z9 => nI (mn z9)))), (qH, .inl (cI, 2700, .inl (fun z9 => nI (hv z9)))), (qK, .inl (cI, 36480, .inl (fun z9 => nI (kp z9)))), (qJ, .inl (cI, 24, .inl (fun z9 => nI (km z9)))), (qG, .inl (cI, 24, .inl sg))] sz (S := Nat × (Nat → Nat) × (Nat → Nat) × (Nat → Nat) × (Nat → Nat) × (Nat → Nat) × (Nat → Int32)) (fun r u => (u.1 = 1 ∧ ¬ (pn_isR x ∧ 0 ≤ y) ∧ pm_regs u.2.2.2.2.1 u.2.2.2.2.2.1 u.2.2.2.2.2.2 ρ) ∨ (∃ k j : Nat, k < 24 ∧ j < 2 ^ 31 ∧ x = nI k ∧ y = nI j ∧ r = pn_I (((ρ k).natAbs : Int) / pn_E j % 4294967296) ∧ u.1 = 0 ∧ pm_regs u.2.2.2.2.1 u.2.2.2.2.2.1 u.2.2.2.2.2.2 ρ)) (fun u => [(oM, .inr (5, [.int (nI u.1), .ref qW, .ref qM, .ref qK, .ref qJ, .ref qG, .ref qH, .ref qP, .int (nI pl)])), (qW, .inl (cI, 22400, .inl (fun z9 => nI (u.2.1 z9)))), (qM, .inl (cI, 7, .inl (fun z9 => nI (u.2.2.1 z9)))), (qH, .inl (cI, 2700, .inl (fun z9 => nI (u.2.2.2.1 z9)))), (qK, .inl (cI, 36480, .inl (fun z9 => nI (u.2.2.2.2.1 z9)))), (qJ, .inl (cI, 24, .inl (fun z9 => nI (u.2.2.2.2.2.1 z9)))), (qG, .inl (cI, 24, .inl u.2.2.2.2.2.2))]) := by
  refine pn_start (by decide) (Nat.le_of_ble_eq_true rfl) ?_
  intro p e s m below meth c A Q ls hQ hAe Fx hr hlocks hN hK hP hD hS hA hl
  have hx := Fx.1
  have hb := Fx.2.1
  have hl : lv_has ls 6 [(0, .ref oM), (1, .int x), (2, .int y)] := hl
  refine lv_aload_n hx hb d_M_limb_0 rfl (lv_at hl 0 rfl) ?_
  refine lv_iload_n hx hb d_M_limb_1 rfl (lv_at hl 1 rfl) ?_
  refine pn_bi (wr := [(oM, .inr (5, [.int (nI cd), .ref qW, .ref qM, .ref qK, .ref qJ, .ref qG, .ref qH, .ref qP, .int (nI pl)])), (qW, .inl (cI, 22400, .inl (fun z9 => nI (wk z9)))), (qM, .inl (cI, 7, .inl (fun z9 => nI (mn z9)))), (qH, .inl (cI, 2700, .inl (fun z9 => nI (hv z9)))), (qK, .inl (cI, 36480, .inl (fun z9 => nI (kp z9)))), (qJ, .inl (cI, 24, .inl (fun z9 => nI (km z9)))), (qG, .inl (cI, 24, .inl sg))]) [] [0, 1, 2, 3, 4, 5, 6] hP hD hS hA (pn_rS [.int x] [.ref oM] Fx hK hN hP hD [] rfl rfl (c_M_isRegister l D cI cZ cB cJ _ x) kw_666 cal_M_isRegister stat_M_isRegister ⟨by decide, by decide⟩ ⟨rfl, rfl⟩ rfl hl.1 (Nat.le_of_ble_eq_true rfl) d_M_limb_2 ⟨Nat.zero_le _, Nat.zero_le _⟩) rfl rfl rfl (by decide) (fun r_2 u_2 H locs hw hP hD hS => ?_)
  obtain ⟨rfl, h2⟩ := hw
  have hP : va_P D pn_cl [(oM, .inr (5, [.int (nI cd), .ref qW, .ref qM, .ref qK, .ref qJ, .ref qG, .ref qH, .ref qP, .int (nI pl)])), (qW, .inl (cI, 22400, .inl (fun z9 => nI (wk z9)))), (qM, .inl (cI, 7, .inl (fun z9 => nI (mn z9)))), (qH, .inl (cI, 2700, .inl (fun z9 => nI (hv z9)))), (qK, .inl (cI, 36480, .inl (fun z9 => nI (kp z9)))), (qJ, .inl (cI, 24, .inl (fun z9 => nI (km z9)))), (qG, .inl (cI, 24, .inl sg))] H := hP
  have hD : va_D A [(oM, .inr (5, [.int (nI cd), .ref qW, .ref qM, .ref qK, .ref qJ, .ref qG, .ref qH, .ref qP, .int (nI pl)])), (qW, .inl (cI, 22400, .inl (fun z9 => nI (wk z9)))), (qM, .inl (cI, 7, .inl (fun z9 => nI (mn z9)))), (qH, .inl (cI, 2700, .inl (fun z9 => nI (hv z9)))), (qK, .inl (cI, 36480, .inl (fun z9 => nI (kp z9)))), (qJ, .inl (cI, 24, .inl (fun z9 => nI (km z9)))), (qG, .inl (cI, 24, .inl sg))] := hD
  refine pw_ifb_eq (tgt := 12) hx hb d_M_limb_5 (by decide) (fun h_5 => ?_) (fun h_5 => ?_)
  · skip
    have hno : ¬ (pn_isR x ∧ 0 ≤ y) := fun q => absurd (h2.mpr q.1) (by rw [h_5]; decide)
    refine lv_iconst (v := nI 1) hx hb d_M_limb_12 (by decide) ?_
    refine lv_goto (tgt := 17) hx hb d_M_limb_13 (by decide) ?_
    refine pn_bi (wr := [(qW, .inl (cI, 22400, .inl (fun z9 => nI (wk z9)))), (qM, .inl (cI, 7, .inl (fun z9 => nI (mn z9)))), (qH, .inl (cI, 2700, .inl (fun z9 => nI (hv z9)))), (qK, .inl (cI, 36480, .inl (fun z9 => nI (kp z9)))), (qJ, .inl (cI, 24, .inl (fun z9 => nI (km z9)))), (qG, .inl (cI, 24, .inl sg))]) [0] [1, 2, 3, 4, 5, 6] hP hD hS hA (pn_rV [.int (nI 1)] [] Fx hK hN hP hD [0] rfl rfl (c_M_refuses l D cI cZ cB cJ _ oM qW qM qK qJ qG qH qP cd pl 1 (by omega)) kw_669 cal_M_refuses inst_M_refuses sel_M_refuses ⟨by decide, by decide⟩ ⟨rfl, rfl⟩ 0 rfl rfl rfl rfl hl.1 (Nat.le_of_ble_eq_true rfl) d_M_limb_17 ⟨Nat.zero_le _, Nat.zero_le _⟩) rfl rfl rfl (by decide) (fun r_17 u_17 H locs hw hP hD hS => ?_)
    obtain ⟨rfl, hrf17⟩ := hw
    have hP : va_P D pn_cl [(qW, .inl (cI, 22400, .inl (fun z9 => nI (wk z9)))), (qM, .inl (cI, 7, .inl (fun z9 => nI (mn z9)))), (qH, .inl (cI, 2700, .inl (fun z9 => nI (hv z9)))), (qK, .inl (cI, 36480, .inl (fun z9 => nI (kp z9)))), (qJ, .inl (cI, 24, .inl (fun z9 => nI (km z9)))), (qG, .inl (cI, 24, .inl sg)), (oM, .inr (5, [.int (nI 1), .ref qW, .ref qM, .ref qK, .ref qJ, .ref qG, .ref qH, .ref qP, .int (nI pl)]))] H := hP
    have hD : va_D A [(qW, .inl (cI, 22400, .inl (fun z9 => nI (wk z9)))), (qM, .inl (cI, 7, .inl (fun z9 => nI (mn z9)))), (qH, .inl (cI, 2700, .inl (fun z9 => nI (hv z9)))), (qK, .inl (cI, 36480, .inl (fun z9 => nI (kp z9)))), (qJ, .inl (cI, 24, .inl (fun z9 => nI (km z9)))), (qG, .inl (cI, 24, .inl sg)), (oM, .inr (5, [.int (nI 1), .ref qW, .ref qM, .ref qK, .ref qJ, .ref qG, .ref qH, .ref qP, .int (nI pl)]))] := hD
    refine pw_ifb_eq (tgt := 25) hx hb d_M_limb_20 (by decide) (fun h_20 => ?_) (fun h_20 => ?_)
    · skip
      rw [hrf17] at h_20
      exact absurd h_20 (by decide)
    · skip
      refine lv_iconst (v := nI 0) hx hb d_M_limb_23 (by decide) ?_
      exact pn_reti ((1, wk, mn, hv, kp, km, sg)) Fx hr hlocks hQ hAe (hP.sub [6, 0, 1, 2, 3, 4, 5] rfl) (hD.sub [6, 0, 1, 2, 3, 4, 5] (by decide) rfl) hS (by (try dsimp only); first | done | exact (Or.inl ⟨rfl, hno, hρ⟩)) d_M_limb_24
  · skip
    refine lv_iload_n hx hb d_M_limb_8 rfl (lv_at hl 2 rfl) ?_
    refine lv_if_ge (tgt := 16) hx hb d_M_limb_9 (by decide) (fun h_9 => ?_) (fun h_9 => ?_)
    · skip
      obtain ⟨k, hk, rfl⟩ := h2.mp h_5
      obtain ⟨j, hj, rfl⟩ := nI_of (Int32.not_lt.mpr h_9)
      refine lv_iconst (v := nI 0) hx hb d_M_limb_16 (by decide) ?_
      refine pn_bi (wr := [(qW, .inl (cI, 22400, .inl (fun z9 => nI (wk z9)))), (qM, .inl (cI, 7, .inl (fun z9 => nI (mn z9)))), (qH, .inl (cI, 2700, .inl (fun z9 => nI (hv z9)))), (qK, .inl (cI, 36480, .inl (fun z9 => nI (kp z9)))), (qJ, .inl (cI, 24, .inl (fun z9 => nI (km z9)))), (qG, .inl (cI, 24, .inl sg))]) [0] [1, 2, 3, 4, 5, 6] hP hD hS hA (pn_rV [.int (nI 0)] [] Fx hK hN hP hD [0] rfl rfl (c_M_refuses l D cI cZ cB cJ _ oM qW qM qK qJ qG qH qP cd pl 0 (by omega)) kw_669 cal_M_refuses inst_M_refuses sel_M_refuses ⟨by decide, by decide⟩ ⟨rfl, rfl⟩ 0 rfl rfl rfl rfl hl.1 (Nat.le_of_ble_eq_true rfl) d_M_limb_17 ⟨Nat.zero_le _, Nat.zero_le _⟩) rfl rfl rfl (by decide) (fun r_17 u_17 H locs hw hP hD hS => ?_)
      obtain ⟨rfl, hrf17⟩ := hw
      have hP : va_P D pn_cl [(qW, .inl (cI, 22400, .inl (fun z9 => nI (wk z9)))), (qM, .inl (cI, 7, .inl (fun z9 => nI (mn z9)))), (qH, .inl (cI, 2700, .inl (fun z9 => nI (hv z9)))), (qK, .inl (cI, 36480, .inl (fun z9 => nI (kp z9)))), (qJ, .inl (cI, 24, .inl (fun z9 => nI (km z9)))), (qG, .inl (cI, 24, .inl sg)), (oM, .inr (5, [.int (nI 0), .ref qW, .ref qM, .ref qK, .ref qJ, .ref qG, .ref qH, .ref qP, .int (nI pl)]))] H := hP
      have hD : va_D A [(qW, .inl (cI, 22400, .inl (fun z9 => nI (wk z9)))), (qM, .inl (cI, 7, .inl (fun z9 => nI (mn z9)))), (qH, .inl (cI, 2700, .inl (fun z9 => nI (hv z9)))), (qK, .inl (cI, 36480, .inl (fun z9 => nI (kp z9)))), (qJ, .inl (cI, 24, .inl (fun z9 => nI (km z9)))), (qG, .inl (cI, 24, .inl sg)), (oM, .inr (5, [.int (nI 0), .ref qW, .ref qM, .ref qK, .ref qJ, .ref qG, .ref qH, .ref qP, .int (nI pl)]))] := hD
      refine pw_ifb_eq (tgt := 25) hx hb d_M_limb_20 (by decide) (fun h_20 => ?_) (fun h_20 => ?_)
      · skip
        refine lv_aload_n hx hb d_M_limb_25 rfl (lv_at hl 0 rfl) ?_
        refine lv_iconst (v := nI 0) hx hb d_M_limb_26 (by decide) ?_
        refine lv_iload_n hx hb d_M_limb_27 rfl (lv_at hl 1 rfl) ?_
        refine pn_bv (wr := [(qH, .inl (cI, 2700, .inl (fun z9 => nI (hv z9)))), (qG, .inl (cI, 24, .inl sg))]) [6, 0, 1, 3, 4] [2, 5] hP hD hS hA (pn_rV [.int (nI 0), .int (nI k)] [] Fx hK hN hP hD [6, 0, 1, 3, 4] rfl rfl (c_M_load l D cI cZ cB cJ _ oM qW qM qK qJ qG qH qP 0 pl wk mn kp km 0 k ((ρ k).natAbs) (by omega) hk (hρ k hk).1) kw_703 cal_M_load inst_M_load sel_M_load ⟨by decide, by decide⟩ ⟨rfl, rfl⟩ 0 rfl rfl rfl rfl hl.1 (Nat.le_of_ble_eq_true rfl) d_M_limb_28 ⟨Nat.zero_le _, Nat.zero_le _⟩) rfl rfl rfl (by decide) (fun u_28 H locs hw hP hD hS => ?_)
        obtain ⟨hn28, hK28⟩ := hw
        have hP : va_P D pn_cl [(qH, .inl (cI, 2700, .inl (fun z9 => nI (hv z9)))), (qG, .inl (cI, 24, .inl sg)), (oM, .inr (5, [.int (nI 0), .ref qW, .ref qM, .ref qK, .ref qJ, .ref qG, .ref qH, .ref qP, .int (nI pl)])), (qW, .inl (cI, 22400, .inl (fun z9 => nI (u_28 z9)))), (qM, .inl (cI, 7, .inl (fun z9 => nI ((pn_up mn 0 (km k)) z9)))), (qK, .inl (cI, 36480, .inl (fun z9 => nI (kp z9)))), (qJ, .inl (cI, 24, .inl (fun z9 => nI (km z9))))] H := hP
        have hD : va_D A [(qH, .inl (cI, 2700, .inl (fun z9 => nI (hv z9)))), (qG, .inl (cI, 24, .inl sg)), (oM, .inr (5, [.int (nI 0), .ref qW, .ref qM, .ref qK, .ref qJ, .ref qG, .ref qH, .ref qP, .int (nI pl)])), (qW, .inl (cI, 22400, .inl (fun z9 => nI (u_28 z9)))), (qM, .inl (cI, 7, .inl (fun z9 => nI ((pn_up mn 0 (km k)) z9)))), (qK, .inl (cI, 36480, .inl (fun z9 => nI (kp z9)))), (qJ, .inl (cI, 24, .inl (fun z9 => nI (km z9))))] := hD
        refine lv_aload_n hx hb d_M_limb_31 rfl (lv_at hl 0 rfl) ?_
        refine lv_iconst (v := nI 0) hx hb d_M_limb_32 (by decide) ?_
        refine pn_bi (wr := [(qG, .inl (cI, 24, .inl sg)), (qK, .inl (cI, 36480, .inl (fun z9 => nI (kp z9)))), (qJ, .inl (cI, 24, .inl (fun z9 => nI (km z9))))]) [2, 3, 4, 0] [1, 5, 6] hP hD hS hA (pn_rV [.int (nI 0)] [] Fx hK hN hP hD [2, 3, 4, 0] rfl rfl (c_M_parts l D cI cZ cB cJ _ oM qW qM qK qJ qG qH qP 0 pl u_28 (pn_up mn 0 (km k)) hv 0 (ρ k).natAbs (by omega) (by omega) hn28 (pm_up43 (pm_rb2 hρ hk).1 (by decide))) kw_686 cal_M_parts inst_M_parts sel_M_parts ⟨by decide, by decide⟩ ⟨rfl, rfl⟩ 0 rfl rfl rfl rfl hl.1 (Nat.le_of_ble_eq_true rfl) d_M_limb_33 ⟨Nat.zero_le _, Nat.zero_le _⟩) rfl rfl rfl (by decide) (fun r_33 u_33 H locs hw hP hD hS => ?_)
        obtain ⟨w6, m6, h6, n⟩ := u_33
        obtain ⟨rfl, hp1, hp2, hp3, hp4, hp5⟩ := hw
        have hP : va_P D pn_cl [(qG, .inl (cI, 24, .inl sg)), (qK, .inl (cI, 36480, .inl (fun z9 => nI (kp z9)))), (qJ, .inl (cI, 24, .inl (fun z9 => nI (km z9)))), (oM, .inr (5, [.int (nI 0), .ref qW, .ref qM, .ref qK, .ref qJ, .ref qG, .ref qH, .ref qP, .int (nI pl)])), (qW, .inl (cI, 22400, .inl (fun z9 => nI (w6 z9)))), (qM, .inl (cI, 7, .inl (fun z9 => nI (m6 z9)))), (qH, .inl (cI, 2700, .inl (fun z9 => nI (h6 z9))))] H := hP
        have hD : va_D A [(qG, .inl (cI, 24, .inl sg)), (qK, .inl (cI, 36480, .inl (fun z9 => nI (kp z9)))), (qJ, .inl (cI, 24, .inl (fun z9 => nI (km z9)))), (oM, .inr (5, [.int (nI 0), .ref qW, .ref qM, .ref qK, .ref qJ, .ref qG, .ref qH, .ref qP, .int (nI pl)])), (qW, .inl (cI, 22400, .inl (fun z9 => nI (w6 z9)))), (qM, .inl (cI, 7, .inl (fun z9 => nI (m6 z9)))), (qH, .inl (cI, 2700, .inl (fun z9 => nI (h6 z9))))] := hD
        dsimp only at hp1 hp2 hp3 hp4 hp5
        refine lv_istore_n (lv' := [(3, .int (nI n)), (0, .ref oM), (1, .int (nI k)), (2, .int (nI j))]) hx hb d_M_limb_36 rfl hl (by decide) rfl (fun ls hl => ?_)
        refine lv_iload_n hx hb d_M_limb_37 rfl (lv_at hl 3 rfl) ?_
        refine lv_iload_n hx hb d_M_limb_38 rfl (lv_at hl 0 rfl) ?_
        refine pw_icmp_le (a := j) (b := n) (tgt := 44) hx hb d_M_limb_39 (by decide) (by omega) (by omega) (fun h_39 => ?_) (fun h_39 => ?_)
        · skip
          refine lv_iconst (v := nI 2) hx hb d_M_limb_44 (by decide) ?_
          refine lv_iload_n hx hb d_M_limb_45 rfl (lv_at hl 3 rfl) ?_
          refine pw_imul hx hb d_M_limb_46 ?_
          refine lv_iload_n hx hb d_M_limb_47 rfl (lv_at hl 0 rfl) ?_
          refine pw_icmp_ge (a := 2 * j) (b := n) (tgt := 62) hx hb d_M_limb_48 (by decide) (by omega) (by omega) (fun h_48 => ?_) (fun h_48 => ?_)
          · skip
            have hl0 : (ρ k).natAbs / 65536 ^ (2 * j) % 65536 = 0 := by rw [pm_limb0 hp3 h_48]
            refine lv_iconst (v := nI 0) hx hb d_M_limb_62 (by decide) ?_
            refine pn_topi (nI ((ρ k).natAbs / 65536 ^ (2 * j) % 65536)) (by rw [hl0]) ?_
            refine lv_istore (lv' := [(4, .int (nI ((ρ k).natAbs / 65536 ^ (2 * j) % 65536))), (3, .int (nI n)), (0, .ref oM), (1, .int (nI k)), (2, .int (nI j))]) hx hb d_M_limb_63 hl (by decide) rfl (fun ls hl => ?_)
            refine lv_iconst (v := nI 2) hx hb d_M_limb_65 (by decide) ?_
            refine lv_iload_n hx hb d_M_limb_66 rfl (lv_at hl 4 rfl) ?_
            refine pw_imul hx hb d_M_limb_67 ?_
            refine lv_iconst (v := nI 1) hx hb d_M_limb_68 (by decide) ?_
            refine pw_iadd hx hb d_M_limb_69 ?_
            refine lv_iload_n hx hb d_M_limb_70 rfl (lv_at hl 1 rfl) ?_
            refine pw_icmp_ge (a := 2 * j + 1) (b := n) (tgt := 87) hx hb d_M_limb_71 (by decide) (by omega) (by omega) (fun h_71 => ?_) (fun h_71 => ?_)
            · skip
              have hh0 : (ρ k).natAbs / 65536 ^ (2 * j + 1) % 65536 = 0 := by rw [pm_limb0 hp3 h_71]
              refine lv_iconst (v := nI 0) hx hb d_M_limb_87 (by decide) ?_
              refine pn_topi (nI ((ρ k).natAbs / 65536 ^ (2 * j + 1) % 65536)) (by rw [hh0]) ?_
              refine lv_istore (lv' := [(5, .int (nI ((ρ k).natAbs / 65536 ^ (2 * j + 1) % 65536))), (4, .int (nI ((ρ k).natAbs / 65536 ^ (2 * j) % 65536))), (3, .int (nI n)), (0, .ref oM), (1, .int (nI k)), (2, .int (nI j))]) hx hb d_M_limb_88 hl (by decide) rfl (fun ls hl => ?_)
              refine lv_iload hx hb d_M_limb_90 (lv_at hl 0 rfl) ?_
              refine lv_bipush (v := 16) hx hb d_M_limb_92 (by decide) ?_
              refine lv_ishl hx hb d_M_limb_94 ?_
              refine lv_iload hx hb d_M_limb_95 (lv_at hl 1 rfl) ?_
              refine lv_ior hx hb d_M_limb_97 ?_
              exact pn_reti ((0, w6, m6, h6, kp, km, sg)) Fx hr hlocks hQ hAe (hP.sub [3, 4, 5, 6, 1, 2, 0] rfl) (hD.sub [3, 4, 5, 6, 1, 2, 0] (by decide) rfl) hS (by (try dsimp only); first | done | exact (Or.inr ⟨k, j, hk, hj, rfl, rfl, (pm_or (Nat.mod_lt _ (by decide)) (Nat.mod_lt _ (by decide))).trans (congrArg pn_I pm_limb), rfl, hρ⟩)) d_M_limb_98
            · skip
              refine lv_aload_n hx hb d_M_limb_74 rfl (lv_at hl 2 rfl) ?_
              refine pw_get Fx hK hP fld_M 3 rfl 6 (by decide) kw_636 (v := .ref qH) rfl d_M_limb_75 ?_
              refine lv_iconst (v := nI 2) hx hb d_M_limb_78 (by decide) ?_
              refine lv_iload_n hx hb d_M_limb_79 rfl (lv_at hl 4 rfl) ?_
              refine pw_imul hx hb d_M_limb_80 ?_
              refine lv_iconst (v := nI 1) hx hb d_M_limb_81 (by decide) ?_
              refine pw_iadd hx hb d_M_limb_82 ?_
              refine pw_iald Fx hK hP 6 0 (f := fun z9 => nI (h6 z9)) rfl rfl (k := 2 * j + 1) (by omega) (by decide) d_M_limb_83 ?_
              refine pn_topi (nI (h6 (2 * j + 1))) rfl ?_
              refine pn_topi (nI ((ρ k).natAbs / 65536 ^ (2 * j + 1) % 65536)) (congrArg nI (hp2 _ h_71)) ?_
              refine lv_goto (tgt := 88) hx hb d_M_limb_84 (by decide) ?_
              refine lv_istore (lv' := [(5, .int (nI ((ρ k).natAbs / 65536 ^ (2 * j + 1) % 65536))), (4, .int (nI ((ρ k).natAbs / 65536 ^ (2 * j) % 65536))), (3, .int (nI n)), (0, .ref oM), (1, .int (nI k)), (2, .int (nI j))]) hx hb d_M_limb_88 hl (by decide) rfl (fun ls hl => ?_)
              refine lv_iload hx hb d_M_limb_90 (lv_at hl 0 rfl) ?_
              refine lv_bipush (v := 16) hx hb d_M_limb_92 (by decide) ?_
              refine lv_ishl hx hb d_M_limb_94 ?_
              refine lv_iload hx hb d_M_limb_95 (lv_at hl 1 rfl) ?_
              refine lv_ior hx hb d_M_limb_97 ?_
              exact pn_reti ((0, w6, m6, h6, kp, km, sg)) Fx hr hlocks hQ hAe (hP.sub [3, 4, 5, 6, 1, 2, 0] rfl) (hD.sub [3, 4, 5, 6, 1, 2, 0] (by decide) rfl) hS (by (try dsimp only); first | done | exact (Or.inr ⟨k, j, hk, hj, rfl, rfl, (pm_or (Nat.mod_lt _ (by decide)) (Nat.mod_lt _ (by decide))).trans (congrArg pn_I pm_limb), rfl, hρ⟩)) d_M_limb_98
          · skip
            refine lv_aload_n hx hb d_M_limb_51 rfl (lv_at hl 1 rfl) ?_
            refine pw_get Fx hK hP fld_M 3 rfl 6 (by decide) kw_636 (v := .ref qH) rfl d_M_limb_52 ?_
            refine lv_iconst (v := nI 2) hx hb d_M_limb_55 (by decide) ?_
            refine lv_iload_n hx hb d_M_limb_56 rfl (lv_at hl 3 rfl) ?_
            refine pw_imul hx hb d_M_limb_57 ?_
            refine pw_iald Fx hK hP 6 0 (f := fun z9 => nI (h6 z9)) rfl rfl (k := 2 * j) (by omega) (by decide) d_M_limb_58 ?_
            refine pn_topi (nI (h6 (2 * j))) rfl ?_
            refine pn_topi (nI ((ρ k).natAbs / 65536 ^ (2 * j) % 65536)) (congrArg nI (hp2 _ h_48)) ?_
            refine lv_goto (tgt := 63) hx hb d_M_limb_59 (by decide) ?_
            refine lv_istore (lv' := [(4, .int (nI ((ρ k).natAbs / 65536 ^ (2 * j) % 65536))), (3, .int (nI n)), (0, .ref oM), (1, .int (nI k)), (2, .int (nI j))]) hx hb d_M_limb_63 hl (by decide) rfl (fun ls hl => ?_)
            refine lv_iconst (v := nI 2) hx hb d_M_limb_65 (by decide) ?_
            refine lv_iload_n hx hb d_M_limb_66 rfl (lv_at hl 4 rfl) ?_
            refine pw_imul hx hb d_M_limb_67 ?_
            refine lv_iconst (v := nI 1) hx hb d_M_limb_68 (by decide) ?_
            refine pw_iadd hx hb d_M_limb_69 ?_
            refine lv_iload_n hx hb d_M_limb_70 rfl (lv_at hl 1 rfl) ?_
            refine pw_icmp_ge (a := 2 * j + 1) (b := n) (tgt := 87) hx hb d_M_limb_71 (by decide) (by omega) (by omega) (fun h_71 => ?_) (fun h_71 => ?_)
            · skip
              have hh0 : (ρ k).natAbs / 65536 ^ (2 * j + 1) % 65536 = 0 := by rw [pm_limb0 hp3 h_71]
              refine lv_iconst (v := nI 0) hx hb d_M_limb_87 (by decide) ?_
              refine pn_topi (nI ((ρ k).natAbs / 65536 ^ (2 * j + 1) % 65536)) (by rw [hh0]) ?_
              refine lv_istore (lv' := [(5, .int (nI ((ρ k).natAbs / 65536 ^ (2 * j + 1) % 65536))), (4, .int (nI ((ρ k).natAbs / 65536 ^ (2 * j) % 65536))), (3, .int (nI n)), (0, .ref oM), (1, .int (nI k)), (2, .int (nI j))]) hx hb d_M_limb_88 hl (by decide) rfl (fun ls hl => ?_)
              refine lv_iload hx hb d_M_limb_90 (lv_at hl 0 rfl) ?_
              refine lv_bipush (v := 16) hx hb d_M_limb_92 (by decide) ?_
              refine lv_ishl hx hb d_M_limb_94 ?_
              refine lv_iload hx hb d_M_limb_95 (lv_at hl 1 rfl) ?_
              refine lv_ior hx hb d_M_limb_97 ?_
              exact pn_reti ((0, w6, m6, h6, kp, km, sg)) Fx hr hlocks hQ hAe (hP.sub [3, 4, 5, 6, 1, 2, 0] rfl) (hD.sub [3, 4, 5, 6, 1, 2, 0] (by decide) rfl) hS (by (try dsimp only); first | done | exact (Or.inr ⟨k, j, hk, hj, rfl, rfl, (pm_or (Nat.mod_lt _ (by decide)) (Nat.mod_lt _ (by decide))).trans (congrArg pn_I pm_limb), rfl, hρ⟩)) d_M_limb_98
            · skip
              refine lv_aload_n hx hb d_M_limb_74 rfl (lv_at hl 2 rfl) ?_
              refine pw_get Fx hK hP fld_M 3 rfl 6 (by decide) kw_636 (v := .ref qH) rfl d_M_limb_75 ?_
              refine lv_iconst (v := nI 2) hx hb d_M_limb_78 (by decide) ?_
              refine lv_iload_n hx hb d_M_limb_79 rfl (lv_at hl 4 rfl) ?_
              refine pw_imul hx hb d_M_limb_80 ?_
              refine lv_iconst (v := nI 1) hx hb d_M_limb_81 (by decide) ?_
              refine pw_iadd hx hb d_M_limb_82 ?_
              refine pw_iald Fx hK hP 6 0 (f := fun z9 => nI (h6 z9)) rfl rfl (k := 2 * j + 1) (by omega) (by decide) d_M_limb_83 ?_
              refine pn_topi (nI (h6 (2 * j + 1))) rfl ?_
              refine pn_topi (nI ((ρ k).natAbs / 65536 ^ (2 * j + 1) % 65536)) (congrArg nI (hp2 _ h_71)) ?_
              refine lv_goto (tgt := 88) hx hb d_M_limb_84 (by decide) ?_
              refine lv_istore (lv' := [(5, .int (nI ((ρ k).natAbs / 65536 ^ (2 * j + 1) % 65536))), (4, .int (nI ((ρ k).natAbs / 65536 ^ (2 * j) % 65536))), (3, .int (nI n)), (0, .ref oM), (1, .int (nI k)), (2, .int (nI j))]) hx hb d_M_limb_88 hl (by decide) rfl (fun ls hl => ?_)
              refine lv_iload hx hb d_M_limb_90 (lv_at hl 0 rfl) ?_
              refine lv_bipush (v := 16) hx hb d_M_limb_92 (by decide) ?_
              refine lv_ishl hx hb d_M_limb_94 ?_
              refine lv_iload hx hb d_M_limb_95 (lv_at hl 1 rfl) ?_
              refine lv_ior hx hb d_M_limb_97 ?_
              exact pn_reti ((0, w6, m6, h6, kp, km, sg)) Fx hr hlocks hQ hAe (hP.sub [3, 4, 5, 6, 1, 2, 0] rfl) (hD.sub [3, 4, 5, 6, 1, 2, 0] (by decide) rfl) hS (by (try dsimp only); first | done | exact (Or.inr ⟨k, j, hk, hj, rfl, rfl, (pm_or (Nat.mod_lt _ (by decide)) (Nat.mod_lt _ (by decide))).trans (congrArg pn_I pm_limb), rfl, hρ⟩)) d_M_limb_98
        · skip
          have hz : nI 0 = pn_I (((ρ k).natAbs : Int) / pn_E j % 4294967296) := by rw [← pm_limb, pm_limb0 hp3 (show n ≤ 2 * j + 1 by omega), pm_limb0 hp3 (show n ≤ 2 * j by omega)]; rfl
          refine lv_iconst (v := nI 0) hx hb d_M_limb_42 (by decide) ?_
          exact pn_reti ((0, w6, m6, h6, kp, km, sg)) Fx hr hlocks hQ hAe (hP.sub [3, 4, 5, 6, 1, 2, 0] rfl) (hD.sub [3, 4, 5, 6, 1, 2, 0] (by decide) rfl) hS (by (try dsimp only); first | done | exact (Or.inr ⟨k, j, hk, hj, rfl, rfl, hz, rfl, hρ⟩)) d_M_limb_43
      · skip
        rw [hrf17] at h_20
        exact absurd h_20 (by decide)
    · skip
      have hno : ¬ (pn_isR x ∧ 0 ≤ y) := fun q => h_9 q.2
      refine lv_iconst (v := nI 1) hx hb d_M_limb_12 (by decide) ?_
      refine lv_goto (tgt := 17) hx hb d_M_limb_13 (by decide) ?_
      refine pn_bi (wr := [(qW, .inl (cI, 22400, .inl (fun z9 => nI (wk z9)))), (qM, .inl (cI, 7, .inl (fun z9 => nI (mn z9)))), (qH, .inl (cI, 2700, .inl (fun z9 => nI (hv z9)))), (qK, .inl (cI, 36480, .inl (fun z9 => nI (kp z9)))), (qJ, .inl (cI, 24, .inl (fun z9 => nI (km z9)))), (qG, .inl (cI, 24, .inl sg))]) [0] [1, 2, 3, 4, 5, 6] hP hD hS hA (pn_rV [.int (nI 1)] [] Fx hK hN hP hD [0] rfl rfl (c_M_refuses l D cI cZ cB cJ _ oM qW qM qK qJ qG qH qP cd pl 1 (by omega)) kw_669 cal_M_refuses inst_M_refuses sel_M_refuses ⟨by decide, by decide⟩ ⟨rfl, rfl⟩ 0 rfl rfl rfl rfl hl.1 (Nat.le_of_ble_eq_true rfl) d_M_limb_17 ⟨Nat.zero_le _, Nat.zero_le _⟩) rfl rfl rfl (by decide) (fun r_17 u_17 H locs hw hP hD hS => ?_)
      obtain ⟨rfl, hrf17⟩ := hw
      have hP : va_P D pn_cl [(qW, .inl (cI, 22400, .inl (fun z9 => nI (wk z9)))), (qM, .inl (cI, 7, .inl (fun z9 => nI (mn z9)))), (qH, .inl (cI, 2700, .inl (fun z9 => nI (hv z9)))), (qK, .inl (cI, 36480, .inl (fun z9 => nI (kp z9)))), (qJ, .inl (cI, 24, .inl (fun z9 => nI (km z9)))), (qG, .inl (cI, 24, .inl sg)), (oM, .inr (5, [.int (nI 1), .ref qW, .ref qM, .ref qK, .ref qJ, .ref qG, .ref qH, .ref qP, .int (nI pl)]))] H := hP
      have hD : va_D A [(qW, .inl (cI, 22400, .inl (fun z9 => nI (wk z9)))), (qM, .inl (cI, 7, .inl (fun z9 => nI (mn z9)))), (qH, .inl (cI, 2700, .inl (fun z9 => nI (hv z9)))), (qK, .inl (cI, 36480, .inl (fun z9 => nI (kp z9)))), (qJ, .inl (cI, 24, .inl (fun z9 => nI (km z9)))), (qG, .inl (cI, 24, .inl sg)), (oM, .inr (5, [.int (nI 1), .ref qW, .ref qM, .ref qK, .ref qJ, .ref qG, .ref qH, .ref qP, .int (nI pl)]))] := hD
      refine pw_ifb_eq (tgt := 25) hx hb d_M_limb_20 (by decide) (fun h_20 => ?_) (fun h_20 => ?_)
      · skip
        rw [hrf17] at h_20
        exact absurd h_20 (by decide)
      · skip
        refine lv_iconst (v := nI 0) hx hb d_M_limb_23 (by decide) ?_
        exact pn_reti ((1, wk, mn, hv, kp, km, sg)) Fx hr hlocks hQ hAe (hP.sub [6, 0, 1, 2, 3, 4, 5] rfl) (hD.sub [6, 0, 1, 2, 3, 4, 5] (by decide) rfl) hS (by (try dsimp only); first | done | exact (Or.inl ⟨rfl, hno, hρ⟩)) d_M_limb_24

set_option maxHeartbeats 4000000 in
set_option maxRecDepth 100000 in
theorem c_M_rest (l : Launch) (D : va_G) (cI cZ cB cJ : ClassId) (sz : Nat) (oM qW qM qK qJ qG qH qP cd pl : Nat) (wk mn : Nat → Nat) (hv kp km : Nat → Nat) (sg : Nat → Int32) (ρ : Nat → Int) (x y : Int32) (hρ : pm_regs kp km sg ρ) : pn_Ci l D (pn_ty cI cZ cB cJ) y_M_rest w_M_rest ({ frames := 4, cells := 0, slots := 0, locals := 150 } : Room) [.ref oM, .int x, .int y] [(oM, .inr (5, [.int (nI cd), .ref qW, .ref qM, .ref qK, .ref qJ, .ref qG, .ref qH, .ref qP, .int (nI pl)])), (qW, .inl (cI, 22400, .inl (fun z9 => nI (wk z9)))), (qM, .inl (cI, 7, .inl (fun z9 => nI (mn z9)))), (qH, .inl (cI, 2700, .inl (fun z9 => nI (hv z9)))), (qK, .inl (cI, 36480, .inl (fun z9 => nI (kp z9)))), (qJ, .inl (cI, 24, .inl (fun z9 => nI (km z9)))), (qG, .inl (cI, 24, .inl sg))] sz (S := Nat × (Nat → Nat) × (Nat → Nat) × (Nat → Nat) × (Nat → Nat) × (Nat → Nat) × (Nat → Int32)) (fun r u => (u.1 = 1 ∧ ¬ (pn_isR x) ∧ pm_regs u.2.2.2.2.1 u.2.2.2.2.2.1 u.2.2.2.2.2.2 ρ) ∨ (u.1 = 2 ∧ pn_isR x ∧ ¬ 1 ≤ y ∧ pm_regs u.2.2.2.2.1 u.2.2.2.2.2.1 u.2.2.2.2.2.2 ρ) ∨ (∃ k j : Nat, k < 24 ∧ 1 ≤ j ∧ j < 2 ^ 31 ∧ x = nI k ∧ y = nI j ∧ r = pn_I (ρ k % (j : Int)) ∧ u.1 = 0 ∧ pm_regs u.2.2.2.2.1 u.2.2.2.2.2.1 u.2.2.2.2.2.2 ρ)) (fun u => [(oM, .inr (5, [.int (nI u.1), .ref qW, .ref qM, .ref qK, .ref qJ, .ref qG, .ref qH, .ref qP, .int (nI pl)])), (qW, .inl (cI, 22400, .inl (fun z9 => nI (u.2.1 z9)))), (qM, .inl (cI, 7, .inl (fun z9 => nI (u.2.2.1 z9)))), (qH, .inl (cI, 2700, .inl (fun z9 => nI (u.2.2.2.1 z9)))), (qK, .inl (cI, 36480, .inl (fun z9 => nI (u.2.2.2.2.1 z9)))), (qJ, .inl (cI, 24, .inl (fun z9 => nI (u.2.2.2.2.2.1 z9)))), (qG, .inl (cI, 24, .inl u.2.2.2.2.2.2))]) := by
  refine pn_start (by decide) (Nat.le_of_ble_eq_true rfl) ?_
  intro p e s m below meth c A Q ls hQ hAe Fx hr hlocks hN hK hP hD hS hA hl
  have hx := Fx.1
  have hb := Fx.2.1
  have hl : lv_has ls 6 [(0, .ref oM), (1, .int x), (2, .int y)] := hl
  refine lv_aload_n hx hb d_M_rest_0 rfl (lv_at hl 0 rfl) ?_
  refine lv_iload_n hx hb d_M_rest_1 rfl (lv_at hl 1 rfl) ?_
  refine pn_bi (wr := [(oM, .inr (5, [.int (nI cd), .ref qW, .ref qM, .ref qK, .ref qJ, .ref qG, .ref qH, .ref qP, .int (nI pl)])), (qW, .inl (cI, 22400, .inl (fun z9 => nI (wk z9)))), (qM, .inl (cI, 7, .inl (fun z9 => nI (mn z9)))), (qH, .inl (cI, 2700, .inl (fun z9 => nI (hv z9)))), (qK, .inl (cI, 36480, .inl (fun z9 => nI (kp z9)))), (qJ, .inl (cI, 24, .inl (fun z9 => nI (km z9)))), (qG, .inl (cI, 24, .inl sg))]) [] [0, 1, 2, 3, 4, 5, 6] hP hD hS hA (pn_rS [.int x] [.ref oM] Fx hK hN hP hD [] rfl rfl (c_M_isRegister l D cI cZ cB cJ _ x) kw_666 cal_M_isRegister stat_M_isRegister ⟨by decide, by decide⟩ ⟨rfl, rfl⟩ rfl hl.1 (Nat.le_of_ble_eq_true rfl) d_M_rest_2 ⟨Nat.zero_le _, Nat.zero_le _⟩) rfl rfl rfl (by decide) (fun r_2 u_2 H locs hw hP hD hS => ?_)
  obtain ⟨rfl, h2⟩ := hw
  have hP : va_P D pn_cl [(oM, .inr (5, [.int (nI cd), .ref qW, .ref qM, .ref qK, .ref qJ, .ref qG, .ref qH, .ref qP, .int (nI pl)])), (qW, .inl (cI, 22400, .inl (fun z9 => nI (wk z9)))), (qM, .inl (cI, 7, .inl (fun z9 => nI (mn z9)))), (qH, .inl (cI, 2700, .inl (fun z9 => nI (hv z9)))), (qK, .inl (cI, 36480, .inl (fun z9 => nI (kp z9)))), (qJ, .inl (cI, 24, .inl (fun z9 => nI (km z9)))), (qG, .inl (cI, 24, .inl sg))] H := hP
  have hD : va_D A [(oM, .inr (5, [.int (nI cd), .ref qW, .ref qM, .ref qK, .ref qJ, .ref qG, .ref qH, .ref qP, .int (nI pl)])), (qW, .inl (cI, 22400, .inl (fun z9 => nI (wk z9)))), (qM, .inl (cI, 7, .inl (fun z9 => nI (mn z9)))), (qH, .inl (cI, 2700, .inl (fun z9 => nI (hv z9)))), (qK, .inl (cI, 36480, .inl (fun z9 => nI (kp z9)))), (qJ, .inl (cI, 24, .inl (fun z9 => nI (km z9)))), (qG, .inl (cI, 24, .inl sg))] := hD
  refine pw_ifb_ne (tgt := 12) hx hb d_M_rest_5 (by decide) (fun h_5 => ?_) (fun h_5 => ?_)
  · skip
    obtain ⟨k, hk, rfl⟩ := h2.mp h_5
    obtain ⟨⟨r1, r2, r3, r4⟩, r5, r6⟩ := hρ k hk
    refine lv_iload_n hx hb d_M_rest_12 rfl (lv_at hl 2 rfl) ?_
    refine lv_iconst (v := 1) hx hb d_M_rest_13 (by decide) ?_
    refine lv_icmp_ge (tgt := 21) hx hb d_M_rest_14 (by decide) (fun h_14 => ?_) (fun h_14 => ?_)
    · skip
      have hy0 : ¬ y < 0 := Int32.not_lt.mpr (Int32.le_iff_toInt_le.mpr (by have := Int32.le_iff_toInt_le.mp h_14; have e0 : (0 : Int32).toInt = 0 := rfl; have e1 : (1 : Int32).toInt = 1 := rfl; omega))
      obtain ⟨j, hj, rfl⟩ := nI_of hy0
      have hj1 : 1 ≤ j := by rcases Nat.eq_zero_or_pos j with z | z; (· subst z; exact absurd h_14 (by decide)); (· exact z)
      refine lv_iconst (v := nI 0) hx hb d_M_rest_21 (by decide) ?_
      refine pn_bi (wr := [(qW, .inl (cI, 22400, .inl (fun z9 => nI (wk z9)))), (qM, .inl (cI, 7, .inl (fun z9 => nI (mn z9)))), (qH, .inl (cI, 2700, .inl (fun z9 => nI (hv z9)))), (qK, .inl (cI, 36480, .inl (fun z9 => nI (kp z9)))), (qJ, .inl (cI, 24, .inl (fun z9 => nI (km z9)))), (qG, .inl (cI, 24, .inl sg))]) [0] [1, 2, 3, 4, 5, 6] hP hD hS hA (pn_rV [.int (nI 0)] [] Fx hK hN hP hD [0] rfl rfl (c_M_refuses l D cI cZ cB cJ _ oM qW qM qK qJ qG qH qP cd pl 0 (by omega)) kw_669 cal_M_refuses inst_M_refuses sel_M_refuses ⟨by decide, by decide⟩ ⟨rfl, rfl⟩ 0 rfl rfl rfl rfl hl.1 (Nat.le_of_ble_eq_true rfl) d_M_rest_22 ⟨Nat.zero_le _, Nat.zero_le _⟩) rfl rfl rfl (by decide) (fun r_22 u_22 H locs hw hP hD hS => ?_)
      obtain ⟨rfl, hrf22⟩ := hw
      have hP : va_P D pn_cl [(qW, .inl (cI, 22400, .inl (fun z9 => nI (wk z9)))), (qM, .inl (cI, 7, .inl (fun z9 => nI (mn z9)))), (qH, .inl (cI, 2700, .inl (fun z9 => nI (hv z9)))), (qK, .inl (cI, 36480, .inl (fun z9 => nI (kp z9)))), (qJ, .inl (cI, 24, .inl (fun z9 => nI (km z9)))), (qG, .inl (cI, 24, .inl sg)), (oM, .inr (5, [.int (nI 0), .ref qW, .ref qM, .ref qK, .ref qJ, .ref qG, .ref qH, .ref qP, .int (nI pl)]))] H := hP
      have hD : va_D A [(qW, .inl (cI, 22400, .inl (fun z9 => nI (wk z9)))), (qM, .inl (cI, 7, .inl (fun z9 => nI (mn z9)))), (qH, .inl (cI, 2700, .inl (fun z9 => nI (hv z9)))), (qK, .inl (cI, 36480, .inl (fun z9 => nI (kp z9)))), (qJ, .inl (cI, 24, .inl (fun z9 => nI (km z9)))), (qG, .inl (cI, 24, .inl sg)), (oM, .inr (5, [.int (nI 0), .ref qW, .ref qM, .ref qK, .ref qJ, .ref qG, .ref qH, .ref qP, .int (nI pl)]))] := hD
      refine pw_ifb_eq (tgt := 30) hx hb d_M_rest_25 (by decide) (fun h_25 => ?_) (fun h_25 => ?_)
      · skip
        refine lv_lconst (v := pn_L 0) hx hb d_M_rest_30 (by decide) ?_
        refine lv_lstore_n (lv' := [(3, .long (pn_L 0)), (0, .ref oM), (1, .int (nI k)), (2, .int (nI j))]) hx hb d_M_rest_31 rfl hl (by decide) rfl (fun ls hl => ?_)
        refine lv_aload_n hx hb d_M_rest_32 rfl (lv_at hl 1 rfl) ?_
        refine pw_get Fx hK hP fld_M 6 rfl 4 (by decide) kw_634 (v := .ref qJ) rfl d_M_rest_33 ?_
        refine lv_iload_n hx hb d_M_rest_36 rfl (lv_at hl 2 rfl) ?_
        refine pw_iald Fx hK hP 4 0 (f := fun z9 => nI (km z9)) rfl rfl (k := k) (by omega) (by decide) d_M_rest_37 ?_
        refine pn_topi (nI (km k)) rfl ?_
        refine lv_iconst (v := nI 1) hx hb d_M_rest_38 (by decide) ?_
        refine lv_isub hx hb d_M_rest_39 ?_
        refine pn_topi (pn_I ((km k : Int) - 1)) (pn_dec _) ?_
        refine lv_istore (lv' := [(5, .int (pn_I ((km k : Int) - 1))), (3, .long (pn_L 0)), (0, .ref oM), (1, .int (nI k)), (2, .int (nI j))]) hx hb d_M_rest_40 hl (by decide) rfl (fun ls hl => ?_)
        have loop42 : ∀ (N : Nat) (q : Nat) (rr : Nat), q < N → (q ≤ km k) → (rr < j) → (rr = pm_V (fun i => kp (1520 * k + (q + i))) (km k - q) % j) → ∀ (H : Heap) (locs : List Loc) (ls : Array Slot), lv_has ls 6 [(5, .int (pn_I ((q : Int) - 1))), (3, .long (pn_L ((rr : Nat) : Int))), (0, .ref oM), (1, .int (nI k)), (2, .int (nI j))] → va_P D pn_cl [(oM, .inr (5, [.int (nI 0), .ref qW, .ref qM, .ref qK, .ref qJ, .ref qG, .ref qH, .ref qP, .int (nI pl)])), (qW, .inl (cI, 22400, .inl (fun z9 => nI (wk z9)))), (qM, .inl (cI, 7, .inl (fun z9 => nI (mn z9)))), (qH, .inl (cI, 2700, .inl (fun z9 => nI (hv z9)))), (qK, .inl (cI, 36480, .inl (fun z9 => nI (kp z9)))), (qJ, .inl (cI, 24, .inl (fun z9 => nI (km z9)))), (qG, .inl (cI, 24, .inl sg))] H → va_D A [(oM, .inr (5, [.int (nI 0), .ref qW, .ref qM, .ref qK, .ref qJ, .ref qG, .ref qH, .ref qP, .int (nI pl)])), (qW, .inl (cI, 22400, .inl (fun z9 => nI (wk z9)))), (qM, .inl (cI, 7, .inl (fun z9 => nI (mn z9)))), (qH, .inl (cI, 2700, .inl (fun z9 => nI (hv z9)))), (qK, .inl (cI, 36480, .inl (fun z9 => nI (kp z9)))), (qJ, .inl (cI, 24, .inl (fun z9 => nI (km z9)))), (qG, .inl (cI, 24, .inl sg))] → va_S A s.heap H locs → W p l e ({ frames := 4, cells := 0, slots := 0, locals := 150 } : Room) s m ([.ref oM, .int (nI k), .int (nI j)] : List Value).toArray below meth c H locs 0 0 Q (F0 m 42 ls []) := by
          intro N
          induction N with
          | zero => intro q rr hM; exact absurd hM (Nat.not_lt_zero _)
          | succ N ih42 =>
            intro q rr hM42 hq hrr hV H locs ls hl hP hD hS
            refine lv_iload hx hb d_M_rest_42 (lv_at hl 0 rfl) ?_
            refine lv_if_lt (tgt := 77) hx hb d_M_rest_44 (by decide) (fun h_44 => ?_) (fun h_44 => ?_)
            · skip
              have hk0 := pn_dec_0 (by omega) h_44
              subst hk0
              rw [Nat.sub_zero, pm_V_congr (f := fun i => kp (1520 * k + (0 + i))) (g := fun i => kp (1520 * k + i)) (fun i _ => by rw [Nat.zero_add]), r4] at hV
              have hV2 : (rr : Int) = ((ρ k).natAbs : Int) % (j : Int) := by rw [hV, Int.natCast_emod]
              have hrt : rr = (((ρ k).natAbs : Int) % (j : Int)).toNat := by omega
              have hab := pn_sg_abs (ρ k)
              refine lv_aload_n hx hb d_M_rest_77 rfl (lv_at hl 2 rfl) ?_
              refine pw_get Fx hK hP fld_M 0 rfl 5 (by decide) kw_635 (v := .ref qG) rfl d_M_rest_78 ?_
              refine lv_iload_n hx hb d_M_rest_81 rfl (lv_at hl 3 rfl) ?_
              refine pw_iald Fx hK hP 6 0 (f := sg) rfl rfl (k := k) (by omega) (by decide) d_M_rest_82 ?_
              refine lv_if_ge (tgt := 99) hx hb d_M_rest_83 (by decide) (fun h_83 => ?_) (fun h_83 => ?_)
              · skip
                have hneg : ¬ ρ k < 0 := fun q => by rw [r5, pn_cmp_lt q] at h_83; exact absurd h_83 (by decide)
                have hz : pn_I ((rr : Nat) : Int) = pn_I (ρ k % (j : Int)) := by rw [pn_I_nI, hrt, pn_rest2 (b := decide (ρ k < 0)) hj1 (Or.inl (decide_eq_false hneg)), hab]
                refine lv_lload_n hx hb d_M_rest_99 rfl (lv_at hl 1 rfl) ?_
                refine pw_l2i hx hb d_M_rest_100 ?_
                exact pn_reti ((0, wk, mn, hv, kp, km, sg)) Fx hr hlocks hQ hAe hP hD hS (by (try dsimp only); first | done | exact (Or.inr (Or.inr ⟨k, j, hk, hj1, hj, rfl, rfl, hz, rfl, hρ⟩))) d_M_rest_101
              · skip
                have hneg : ρ k < 0 := pn_cmp_neg.mp (by rw [← r5]; exact Int32.not_le.mp h_83)
                refine lv_lload_n hx hb d_M_rest_86 rfl (lv_at hl 1 rfl) ?_
                refine lv_lconst (v := pn_L 0) hx hb d_M_rest_87 (by decide) ?_
                refine W.lcmp hx hb d_M_rest_88 ?_
                refine pw_ifl_le (a := ((rr : Nat) : Int)) (b := 0) (tgt := 99) hx hb d_M_rest_89 (by decide) (by omega) (by omega) (by omega) (by omega) (fun h_89 => ?_) (fun h_89 => ?_)
                · skip
                  have hz : pn_I ((rr : Nat) : Int) = pn_I (ρ k % (j : Int)) := by rw [pn_I_nI, hrt, pn_rest2 (b := decide (ρ k < 0)) hj1 (Or.inr (by omega)), hab]
                  refine lv_lload_n hx hb d_M_rest_99 rfl (lv_at hl 1 rfl) ?_
                  refine pw_l2i hx hb d_M_rest_100 ?_
                  exact pn_reti ((0, wk, mn, hv, kp, km, sg)) Fx hr hlocks hQ hAe hP hD hS (by (try dsimp only); first | done | exact (Or.inr (Or.inr ⟨k, j, hk, hj1, hj, rfl, rfl, hz, rfl, hρ⟩))) d_M_rest_101
                · skip
                  have hz : pn_I (((j : Nat) : Int) - ((rr : Nat) : Int)) = pn_I (ρ k % (j : Int)) := by rw [← hab, decide_eq_true hneg, ← pn_rest1 hj1 (by omega), ← hrt, ← pn_I_nI]; exact congrArg pn_I (by omega)
                  refine lv_iload_n hx hb d_M_rest_92 rfl (lv_at hl 4 rfl) ?_
                  refine pw_i2lN hx hb d_M_rest_93 (by omega) ?_
                  refine lv_lload_n hx hb d_M_rest_94 rfl (lv_at hl 1 rfl) ?_
                  refine pw_lsub hx hb d_M_rest_95 ?_
                  refine lv_goto (tgt := 100) hx hb d_M_rest_96 (by decide) ?_
                  refine pw_l2i hx hb d_M_rest_100 ?_
                  exact pn_reti ((0, wk, mn, hv, kp, km, sg)) Fx hr hlocks hQ hAe hP hD hS (by (try dsimp only); first | done | exact (Or.inr (Or.inr ⟨k, j, hk, hj1, hj, rfl, rfl, hz, rfl, hρ⟩))) d_M_rest_101
            · skip
              obtain ⟨i, rfl⟩ := pn_dec_s h_44
              rw [pn_dec_n] at hl
              have f1 := r2 i (by omega)
              dsimp only at f1
              refine lv_lload_n hx hb d_M_rest_47 rfl (lv_at hl 1 rfl) ?_
              refine lv_ldc2 hx hb Fx.2.2.2.1 (Fx.2.2.2.2 _ kw_677) d_M_rest_48 ?_
              refine pn_topl (pn_L (10000)) (by decide) ?_
              refine pw_lmul hx hb d_M_rest_51 ?_
              refine lv_aload_n hx hb d_M_rest_52 rfl (lv_at hl 2 rfl) ?_
              refine pw_get Fx hK hP fld_M 0 rfl 3 (by decide) kw_633 (v := .ref qK) rfl d_M_rest_53 ?_
              refine lv_sipush (v := nI 1520) hx hb d_M_rest_56 (by decide) ?_
              refine lv_iload_n hx hb d_M_rest_59 rfl (lv_at hl 3 rfl) ?_
              refine pw_imul hx hb d_M_rest_60 ?_
              refine lv_iload hx hb d_M_rest_61 (lv_at hl 0 rfl) ?_
              refine pw_iadd hx hb d_M_rest_63 ?_
              refine pw_iald Fx hK hP 4 0 (f := fun z9 => nI (kp z9)) rfl rfl (k := 1520 * k + i) (by omega) (by decide) d_M_rest_64 ?_
              refine pn_topi (nI (kp (1520 * k + i))) rfl ?_
              refine pw_i2lN hx hb d_M_rest_65 (by omega) ?_
              refine pw_ladd hx hb d_M_rest_66 ?_
              refine pn_topl (pn_L ((rr * 10000 + kp (1520 * k + i) : Nat) : Int)) (congrArg pn_L (by omega)) ?_
              refine lv_iload_n hx hb d_M_rest_67 rfl (lv_at hl 4 rfl) ?_
              refine pw_i2lN hx hb d_M_rest_68 (by omega) ?_
              refine pw_lrem hx hb d_M_rest_69 (by omega) (by omega) (by omega) (by omega) ?_
              refine pn_topl (pn_L (((rr * 10000 + kp (1520 * k + i)) % j : Nat) : Int)) (congrArg pn_L (by rw [Int.natCast_emod])) ?_
              refine lv_lstore_n (lv' := [(3, .long (pn_L (((rr * 10000 + kp (1520 * k + i)) % j : Nat) : Int))), (5, .int (nI i)), (0, .ref oM), (1, .int (nI k)), (2, .int (nI j))]) hx hb d_M_rest_70 rfl hl (by decide) rfl (fun ls hl => ?_)
              refine lv_iinc (v := pn_I ((i : Int) - 1)) (lv' := [(5, .int (pn_I ((i : Int) - 1))), (3, .long (pn_L (((rr * 10000 + kp (1520 * k + i)) % j : Nat) : Int))), (0, .ref oM), (1, .int (nI k)), (2, .int (nI j))]) hx hb d_M_rest_71 hl (k := 1) rfl (pn_dec' _) (by decide) rfl (fun ls hl => ?_)
              refine lv_goto (tgt := 42) hx hb d_M_rest_74 (by decide) ?_
              exact ih42 i ((rr * 10000 + kp (1520 * k + i)) % j) (by omega) (by omega) (Nat.mod_lt _ (by omega)) (by rw [show km k - i = km k - (i + 1) + 1 by omega, pm_V_head, pm_rest_step hV]; congr 1; congr 2; exact pm_V_congr (fun s _ => by show kp (1520 * k + (i + 1 + s)) = kp (1520 * k + (i + (s + 1))); congr 1; omega)) _ _ _ hl hP hD hS
        exact loop42 _ (km k) 0 (Nat.lt_succ_self _) (Nat.le_refl _) (by omega) (by rw [Nat.sub_self, pm_V_0, Nat.zero_mod]) _ _ _ hl (hP.sub [6, 0, 1, 2, 3, 4, 5] rfl) (hD.sub [6, 0, 1, 2, 3, 4, 5] (by decide) rfl) hS
      · skip
        rw [hrf22] at h_25
        exact absurd h_25 (by decide)
    · skip
      refine lv_iconst (v := nI 2) hx hb d_M_rest_17 (by decide) ?_
      refine lv_goto (tgt := 22) hx hb d_M_rest_18 (by decide) ?_
      refine pn_bi (wr := [(qW, .inl (cI, 22400, .inl (fun z9 => nI (wk z9)))), (qM, .inl (cI, 7, .inl (fun z9 => nI (mn z9)))), (qH, .inl (cI, 2700, .inl (fun z9 => nI (hv z9)))), (qK, .inl (cI, 36480, .inl (fun z9 => nI (kp z9)))), (qJ, .inl (cI, 24, .inl (fun z9 => nI (km z9)))), (qG, .inl (cI, 24, .inl sg))]) [0] [1, 2, 3, 4, 5, 6] hP hD hS hA (pn_rV [.int (nI 2)] [] Fx hK hN hP hD [0] rfl rfl (c_M_refuses l D cI cZ cB cJ _ oM qW qM qK qJ qG qH qP cd pl 2 (by omega)) kw_669 cal_M_refuses inst_M_refuses sel_M_refuses ⟨by decide, by decide⟩ ⟨rfl, rfl⟩ 0 rfl rfl rfl rfl hl.1 (Nat.le_of_ble_eq_true rfl) d_M_rest_22 ⟨Nat.zero_le _, Nat.zero_le _⟩) rfl rfl rfl (by decide) (fun r_22 u_22 H locs hw hP hD hS => ?_)
      obtain ⟨rfl, hrf22⟩ := hw
      have hP : va_P D pn_cl [(qW, .inl (cI, 22400, .inl (fun z9 => nI (wk z9)))), (qM, .inl (cI, 7, .inl (fun z9 => nI (mn z9)))), (qH, .inl (cI, 2700, .inl (fun z9 => nI (hv z9)))), (qK, .inl (cI, 36480, .inl (fun z9 => nI (kp z9)))), (qJ, .inl (cI, 24, .inl (fun z9 => nI (km z9)))), (qG, .inl (cI, 24, .inl sg)), (oM, .inr (5, [.int (nI 2), .ref qW, .ref qM, .ref qK, .ref qJ, .ref qG, .ref qH, .ref qP, .int (nI pl)]))] H := hP
      have hD : va_D A [(qW, .inl (cI, 22400, .inl (fun z9 => nI (wk z9)))), (qM, .inl (cI, 7, .inl (fun z9 => nI (mn z9)))), (qH, .inl (cI, 2700, .inl (fun z9 => nI (hv z9)))), (qK, .inl (cI, 36480, .inl (fun z9 => nI (kp z9)))), (qJ, .inl (cI, 24, .inl (fun z9 => nI (km z9)))), (qG, .inl (cI, 24, .inl sg)), (oM, .inr (5, [.int (nI 2), .ref qW, .ref qM, .ref qK, .ref qJ, .ref qG, .ref qH, .ref qP, .int (nI pl)]))] := hD
      refine pw_ifb_eq (tgt := 30) hx hb d_M_rest_25 (by decide) (fun h_25 => ?_) (fun h_25 => ?_)
      · skip
        rw [hrf22] at h_25
        exact absurd h_25 (by decide)
      · skip
        refine lv_iconst (v := nI 0) hx hb d_M_rest_28 (by decide) ?_
        exact pn_reti ((2, wk, mn, hv, kp, km, sg)) Fx hr hlocks hQ hAe (hP.sub [6, 0, 1, 2, 3, 4, 5] rfl) (hD.sub [6, 0, 1, 2, 3, 4, 5] (by decide) rfl) hS (by (try dsimp only); first | done | exact (Or.inr (Or.inl ⟨rfl, pn_isR_nI hk, h_14, hρ⟩))) d_M_rest_29
  · skip
    have hno : ¬ pn_isR x := fun q => absurd (h2.mpr q) (by rw [h_5]; decide)
    refine lv_iconst (v := nI 1) hx hb d_M_rest_8 (by decide) ?_
    refine lv_goto (tgt := 22) hx hb d_M_rest_9 (by decide) ?_
    refine pn_bi (wr := [(qW, .inl (cI, 22400, .inl (fun z9 => nI (wk z9)))), (qM, .inl (cI, 7, .inl (fun z9 => nI (mn z9)))), (qH, .inl (cI, 2700, .inl (fun z9 => nI (hv z9)))), (qK, .inl (cI, 36480, .inl (fun z9 => nI (kp z9)))), (qJ, .inl (cI, 24, .inl (fun z9 => nI (km z9)))), (qG, .inl (cI, 24, .inl sg))]) [0] [1, 2, 3, 4, 5, 6] hP hD hS hA (pn_rV [.int (nI 1)] [] Fx hK hN hP hD [0] rfl rfl (c_M_refuses l D cI cZ cB cJ _ oM qW qM qK qJ qG qH qP cd pl 1 (by omega)) kw_669 cal_M_refuses inst_M_refuses sel_M_refuses ⟨by decide, by decide⟩ ⟨rfl, rfl⟩ 0 rfl rfl rfl rfl hl.1 (Nat.le_of_ble_eq_true rfl) d_M_rest_22 ⟨Nat.zero_le _, Nat.zero_le _⟩) rfl rfl rfl (by decide) (fun r_22 u_22 H locs hw hP hD hS => ?_)
    obtain ⟨rfl, hrf22⟩ := hw
    have hP : va_P D pn_cl [(qW, .inl (cI, 22400, .inl (fun z9 => nI (wk z9)))), (qM, .inl (cI, 7, .inl (fun z9 => nI (mn z9)))), (qH, .inl (cI, 2700, .inl (fun z9 => nI (hv z9)))), (qK, .inl (cI, 36480, .inl (fun z9 => nI (kp z9)))), (qJ, .inl (cI, 24, .inl (fun z9 => nI (km z9)))), (qG, .inl (cI, 24, .inl sg)), (oM, .inr (5, [.int (nI 1), .ref qW, .ref qM, .ref qK, .ref qJ, .ref qG, .ref qH, .ref qP, .int (nI pl)]))] H := hP
    have hD : va_D A [(qW, .inl (cI, 22400, .inl (fun z9 => nI (wk z9)))), (qM, .inl (cI, 7, .inl (fun z9 => nI (mn z9)))), (qH, .inl (cI, 2700, .inl (fun z9 => nI (hv z9)))), (qK, .inl (cI, 36480, .inl (fun z9 => nI (kp z9)))), (qJ, .inl (cI, 24, .inl (fun z9 => nI (km z9)))), (qG, .inl (cI, 24, .inl sg)), (oM, .inr (5, [.int (nI 1), .ref qW, .ref qM, .ref qK, .ref qJ, .ref qG, .ref qH, .ref qP, .int (nI pl)]))] := hD
    refine pw_ifb_eq (tgt := 30) hx hb d_M_rest_25 (by decide) (fun h_25 => ?_) (fun h_25 => ?_)
    · skip
      rw [hrf22] at h_25
      exact absurd h_25 (by decide)
    · skip
      refine lv_iconst (v := nI 0) hx hb d_M_rest_28 (by decide) ?_
      exact pn_reti ((1, wk, mn, hv, kp, km, sg)) Fx hr hlocks hQ hAe (hP.sub [6, 0, 1, 2, 3, 4, 5] rfl) (hD.sub [6, 0, 1, 2, 3, 4, 5] (by decide) rfl) hS (by (try dsimp only); first | done | exact (Or.inl ⟨rfl, hno, hρ⟩)) d_M_rest_29
