theorem pm_gcd_step {x y g : Nat} (h : Nat.gcd x y = g) : Nat.gcd y (x % y) = g := by rw [← h, Nat.gcd_comm x y, Nat.gcd_rec y x, Nat.gcd_comm]

set_option maxHeartbeats 4000000 in
set_option maxRecDepth 100000 in
theorem c_M_common (l : Launch) (D : va_G) (cI cZ cB cJ : ClassId) (sz : Nat) (oM qW qM qK qJ qG qH qP cd pl : Nat) (wk mn : Nat → Nat) (b c9 v v2 : Nat) (hb7 : b < 5) (hc7 : c9 < 5) (hbc : b ≠ c9) (hN1 : pm_N wk mn b v) (hN2 : pm_N wk mn c9 v2) (hl1 : v < 10000 ^ 3199) (hl2 : v2 < 10000 ^ 3199) : pn_Cv l D (pn_ty cI cZ cB cJ) y_M_common w_M_common ({ frames := 2, cells := 0, slots := 0, locals := 90 } : Room) [.ref oM, .int (nI b), .int (nI c9)] [(oM, .inr (5, [.int (nI cd), .ref qW, .ref qM, .ref qK, .ref qJ, .ref qG, .ref qH, .ref qP, .int (nI pl)])), (qW, .inl (cI, 22400, .inl (fun z9 => nI (wk z9)))), (qM, .inl (cI, 7, .inl (fun z9 => nI (mn z9))))] sz (S := (Nat → Nat) × (Nat → Nat)) (fun u => pm_N u.1 u.2 5 (Nat.gcd v v2)) (fun u => [(oM, .inr (5, [.int (nI cd), .ref qW, .ref qM, .ref qK, .ref qJ, .ref qG, .ref qH, .ref qP, .int (nI pl)])), (qW, .inl (cI, 22400, .inl (fun z9 => nI (u.1 z9)))), (qM, .inl (cI, 7, .inl (fun z9 => nI (u.2 z9))))]) := by
  refine pn_start (by decide) (Nat.le_of_ble_eq_true rfl) ?_
  intro p e s m below meth c A Q ls hQ hAe Fx hr hlocks hN hK hP hD hS hA hl
  have hx := Fx.1
  have hb := Fx.2.1
  have hl : lv_has ls 3 [(0, .ref oM), (1, .int (nI b)), (2, .int (nI c9))] := hl
  have loop0 : ∀ (N : Nat) (x : Nat) (y : Nat) (w1 : Nat → Nat) (m1 : Nat → Nat), y < N → (pm_N w1 m1 b x) → (pm_N w1 m1 c9 y) → (Nat.gcd x y = Nat.gcd v v2) → (x < 10000 ^ 3199) → (y < 10000 ^ 3199) → ∀ (H : Heap) (locs : List Loc) (ls : Array Slot), lv_has ls 3 [(0, .ref oM), (1, .int (nI b)), (2, .int (nI c9))] → va_P D pn_cl [(oM, .inr (5, [.int (nI cd), .ref qW, .ref qM, .ref qK, .ref qJ, .ref qG, .ref qH, .ref qP, .int (nI pl)])), (qW, .inl (cI, 22400, .inl (fun z9 => nI (w1 z9)))), (qM, .inl (cI, 7, .inl (fun z9 => nI (m1 z9))))] H → va_D A [(oM, .inr (5, [.int (nI cd), .ref qW, .ref qM, .ref qK, .ref qJ, .ref qG, .ref qH, .ref qP, .int (nI pl)])), (qW, .inl (cI, 22400, .inl (fun z9 => nI (w1 z9)))), (qM, .inl (cI, 7, .inl (fun z9 => nI (m1 z9))))] → va_S A s.heap H locs → W p l e ({ frames := 2, cells := 0, slots := 0, locals := 90 } : Room) s m ([.ref oM, .int (nI b), .int (nI c9)] : List Value).toArray below meth c H locs 0 0 Q (F0 m 0 ls []) := by
    intro N
    induction N with
    | zero => intro x y w1 m1 hM; exact absurd hM (Nat.not_lt_zero _)
    | succ N ih0 =>
      intro x y w1 m1 hM0 hx1 hy1 hg hlx hly H locs ls hl hP hD hS
      refine lv_aload_n hx hb d_M_common_0 rfl (lv_at hl 0 rfl) ?_
      refine pw_get Fx hK hP fld_M 0 rfl 2 (by decide) kw_632 (v := .ref qM) rfl d_M_common_1 ?_
      refine lv_iload_n hx hb d_M_common_4 rfl (lv_at hl 2 rfl) ?_
      refine pw_iald Fx hK hP 2 0 (f := fun z9 => nI (m1 z9)) rfl rfl (k := c9) (by omega) (by decide) d_M_common_5 ?_
      refine pn_topi (nI (m1 c9)) rfl ?_
      have hy3 := hy1.1
      refine pw_if_le (a := m1 c9) (tgt := 38) hx hb d_M_common_6 (by decide) (by omega) (fun h_6 => ?_) (fun h_6 => ?_)
      · skip
        have hy0 : y = 0 := (pm_N_zero hy1).mp (by omega)
        refine lv_aload_n hx hb d_M_common_38 rfl (lv_at hl 0 rfl) ?_
        refine lv_iconst (v := nI 5) hx hb d_M_common_39 (by decide) ?_
        refine lv_iload_n hx hb d_M_common_40 rfl (lv_at hl 1 rfl) ?_
        refine pn_bv (wr := []) [0, 1, 2] [] hP hD hS hA (pn_rV [.int (nI 5), .int (nI b)] [] Fx hK hN hP hD [0, 1, 2] rfl rfl (c_M_copyTo l D cI cZ cB cJ _ oM qW qM qK qJ qG qH qP cd pl w1 m1 5 b x (by omega) (by omega) (by omega) hx1) kw_690 cal_M_copyTo inst_M_copyTo sel_M_copyTo ⟨by decide, by decide⟩ ⟨rfl, rfl⟩ 0 rfl rfl rfl rfl hl.1 (Nat.le_of_ble_eq_true rfl) d_M_common_41 ⟨Nat.zero_le _, Nat.zero_le _⟩) rfl rfl rfl (by decide) (fun u_41 H locs hw hP hD hS => ?_)
        obtain ⟨hc41, hK41⟩ := hw
        have hP : va_P D pn_cl [(oM, .inr (5, [.int (nI cd), .ref qW, .ref qM, .ref qK, .ref qJ, .ref qG, .ref qH, .ref qP, .int (nI pl)])), (qW, .inl (cI, 22400, .inl (fun z9 => nI (u_41 z9)))), (qM, .inl (cI, 7, .inl (fun z9 => nI ((pn_up m1 5 (m1 b)) z9))))] H := hP
        have hD : va_D A [(oM, .inr (5, [.int (nI cd), .ref qW, .ref qM, .ref qK, .ref qJ, .ref qG, .ref qH, .ref qP, .int (nI pl)])), (qW, .inl (cI, 22400, .inl (fun z9 => nI (u_41 z9)))), (qM, .inl (cI, 7, .inl (fun z9 => nI ((pn_up m1 5 (m1 b)) z9))))] := hD
        exact pn_retv ((u_41, pn_up m1 5 (m1 b))) Fx hr hlocks hQ hAe hP hD hS (by (try dsimp only); first | done | exact (by rw [← hg, hy0, Nat.gcd_zero_right]; exact hc41)) d_M_common_44
      · skip
        have hy0 : 0 < y := Nat.pos_of_ne_zero (fun q => by have := (pm_N_zero hy1).mpr q; omega)
        have hmod := Nat.mod_lt x hy0
        refine lv_aload_n hx hb d_M_common_9 rfl (lv_at hl 0 rfl) ?_
        refine lv_bipush (v := nI 6) hx hb d_M_common_10 (by decide) ?_
        refine lv_iload_n hx hb d_M_common_12 rfl (lv_at hl 1 rfl) ?_
        refine lv_iload_n hx hb d_M_common_13 rfl (lv_at hl 2 rfl) ?_
        refine pn_bv (wr := []) [0, 1, 2] [] hP hD hS hA (pn_rV [.int (nI 6), .int (nI b), .int (nI c9)] [] Fx hK hN hP hD [0, 1, 2] rfl rfl (c_M_divideBy l D cI cZ cB cJ _ oM qW qM qK qJ qG qH qP cd pl w1 m1 6 b c9 x y (by omega) (by omega) (by omega) (by omega) (by omega) hbc hx1 hy1 hy0 (pm_N_cnt hx1 hlx)) kw_775 cal_M_divideBy inst_M_divideBy sel_M_divideBy ⟨by decide, by decide⟩ ⟨rfl, rfl⟩ 0 rfl rfl rfl rfl hl.1 (Nat.le_of_ble_eq_true rfl) d_M_common_14 ⟨Nat.zero_le _, Nat.zero_le _⟩) rfl rfl rfl (by decide) (fun u_14 H locs hw hP hD hS => ?_)
        obtain ⟨w2, m2⟩ := u_14
        obtain ⟨hd1, hd2, hd3⟩ := hw
        have hP : va_P D pn_cl [(oM, .inr (5, [.int (nI cd), .ref qW, .ref qM, .ref qK, .ref qJ, .ref qG, .ref qH, .ref qP, .int (nI pl)])), (qW, .inl (cI, 22400, .inl (fun z9 => nI (w2 z9)))), (qM, .inl (cI, 7, .inl (fun z9 => nI (m2 z9))))] H := hP
        have hD : va_D A [(oM, .inr (5, [.int (nI cd), .ref qW, .ref qM, .ref qK, .ref qJ, .ref qG, .ref qH, .ref qP, .int (nI pl)])), (qW, .inl (cI, 22400, .inl (fun z9 => nI (w2 z9)))), (qM, .inl (cI, 7, .inl (fun z9 => nI (m2 z9))))] := hD
        dsimp only at hd1 hd2 hd3
        refine lv_aload_n hx hb d_M_common_17 rfl (lv_at hl 0 rfl) ?_
        refine lv_iconst (v := nI 5) hx hb d_M_common_18 (by decide) ?_
        refine lv_iload_n hx hb d_M_common_19 rfl (lv_at hl 1 rfl) ?_
        refine pn_bv (wr := []) [0, 1, 2] [] hP hD hS hA (pn_rV [.int (nI 5), .int (nI b)] [] Fx hK hN hP hD [0, 1, 2] rfl rfl (c_M_copyTo l D cI cZ cB cJ _ oM qW qM qK qJ qG qH qP cd pl w2 m2 5 b (x % y) (by omega) (by omega) (by omega) hd2) kw_690 cal_M_copyTo inst_M_copyTo sel_M_copyTo ⟨by decide, by decide⟩ ⟨rfl, rfl⟩ 0 rfl rfl rfl rfl hl.1 (Nat.le_of_ble_eq_true rfl) d_M_common_20 ⟨Nat.zero_le _, Nat.zero_le _⟩) rfl rfl rfl (by decide) (fun u_20 H locs hw hP hD hS => ?_)
        obtain ⟨hc20, hK20⟩ := hw
        have hP : va_P D pn_cl [(oM, .inr (5, [.int (nI cd), .ref qW, .ref qM, .ref qK, .ref qJ, .ref qG, .ref qH, .ref qP, .int (nI pl)])), (qW, .inl (cI, 22400, .inl (fun z9 => nI (u_20 z9)))), (qM, .inl (cI, 7, .inl (fun z9 => nI ((pn_up m2 5 (m2 b)) z9))))] H := hP
        have hD : va_D A [(oM, .inr (5, [.int (nI cd), .ref qW, .ref qM, .ref qK, .ref qJ, .ref qG, .ref qH, .ref qP, .int (nI pl)])), (qW, .inl (cI, 22400, .inl (fun z9 => nI (u_20 z9)))), (qM, .inl (cI, 7, .inl (fun z9 => nI ((pn_up m2 5 (m2 b)) z9))))] := hD
        refine lv_aload_n hx hb d_M_common_23 rfl (lv_at hl 0 rfl) ?_
        refine lv_iload_n hx hb d_M_common_24 rfl (lv_at hl 1 rfl) ?_
        refine lv_iload_n hx hb d_M_common_25 rfl (lv_at hl 2 rfl) ?_
        refine pn_bv (wr := []) [0, 1, 2] [] hP hD hS hA (pn_rV [.int (nI b), .int (nI c9)] [] Fx hK hN hP hD [0, 1, 2] rfl rfl (c_M_copyTo l D cI cZ cB cJ _ oM qW qM qK qJ qG qH qP cd pl u_20 (pn_up m2 5 (m2 b)) b c9 y (by omega) (by omega) (by omega) (hK20 c9 y (by omega) (hd3 c9 y (by omega) (Ne.symm hbc) hy1))) kw_690 cal_M_copyTo inst_M_copyTo sel_M_copyTo ⟨by decide, by decide⟩ ⟨rfl, rfl⟩ 0 rfl rfl rfl rfl hl.1 (Nat.le_of_ble_eq_true rfl) d_M_common_26 ⟨Nat.zero_le _, Nat.zero_le _⟩) rfl rfl rfl (by decide) (fun u_26 H locs hw hP hD hS => ?_)
        obtain ⟨hc26, hK26⟩ := hw
        have hP : va_P D pn_cl [(oM, .inr (5, [.int (nI cd), .ref qW, .ref qM, .ref qK, .ref qJ, .ref qG, .ref qH, .ref qP, .int (nI pl)])), (qW, .inl (cI, 22400, .inl (fun z9 => nI (u_26 z9)))), (qM, .inl (cI, 7, .inl (fun z9 => nI ((pn_up (pn_up m2 5 (m2 b)) b ((pn_up m2 5 (m2 b)) c9)) z9))))] H := hP
        have hD : va_D A [(oM, .inr (5, [.int (nI cd), .ref qW, .ref qM, .ref qK, .ref qJ, .ref qG, .ref qH, .ref qP, .int (nI pl)])), (qW, .inl (cI, 22400, .inl (fun z9 => nI (u_26 z9)))), (qM, .inl (cI, 7, .inl (fun z9 => nI ((pn_up (pn_up m2 5 (m2 b)) b ((pn_up m2 5 (m2 b)) c9)) z9))))] := hD
        refine lv_aload_n hx hb d_M_common_29 rfl (lv_at hl 0 rfl) ?_
        refine lv_iload_n hx hb d_M_common_30 rfl (lv_at hl 2 rfl) ?_
        refine lv_iconst (v := nI 5) hx hb d_M_common_31 (by decide) ?_
        refine pn_bv (wr := []) [0, 1, 2] [] hP hD hS hA (pn_rV [.int (nI c9), .int (nI 5)] [] Fx hK hN hP hD [0, 1, 2] rfl rfl (c_M_copyTo l D cI cZ cB cJ _ oM qW qM qK qJ qG qH qP cd pl u_26 (pn_up (pn_up m2 5 (m2 b)) b ((pn_up m2 5 (m2 b)) c9)) c9 5 (x % y) (by omega) (by omega) (by omega) (hK26 5 (x % y) (by omega) hc20)) kw_690 cal_M_copyTo inst_M_copyTo sel_M_copyTo ⟨by decide, by decide⟩ ⟨rfl, rfl⟩ 0 rfl rfl rfl rfl hl.1 (Nat.le_of_ble_eq_true rfl) d_M_common_32 ⟨Nat.zero_le _, Nat.zero_le _⟩) rfl rfl rfl (by decide) (fun u_32 H locs hw hP hD hS => ?_)
        obtain ⟨hc32, hK32⟩ := hw
        have hP : va_P D pn_cl [(oM, .inr (5, [.int (nI cd), .ref qW, .ref qM, .ref qK, .ref qJ, .ref qG, .ref qH, .ref qP, .int (nI pl)])), (qW, .inl (cI, 22400, .inl (fun z9 => nI (u_32 z9)))), (qM, .inl (cI, 7, .inl (fun z9 => nI ((pn_up (pn_up (pn_up m2 5 (m2 b)) b ((pn_up m2 5 (m2 b)) c9)) c9 ((pn_up (pn_up m2 5 (m2 b)) b ((pn_up m2 5 (m2 b)) c9)) 5)) z9))))] H := hP
        have hD : va_D A [(oM, .inr (5, [.int (nI cd), .ref qW, .ref qM, .ref qK, .ref qJ, .ref qG, .ref qH, .ref qP, .int (nI pl)])), (qW, .inl (cI, 22400, .inl (fun z9 => nI (u_32 z9)))), (qM, .inl (cI, 7, .inl (fun z9 => nI ((pn_up (pn_up (pn_up m2 5 (m2 b)) b ((pn_up m2 5 (m2 b)) c9)) c9 ((pn_up (pn_up m2 5 (m2 b)) b ((pn_up m2 5 (m2 b)) c9)) 5)) z9))))] := hD
        refine lv_goto (tgt := 0) hx hb d_M_common_35 (by decide) ?_
        exact ih0 y (x % y) _ _ (by omega) (hK32 b y (hbc) hc26) hc32 (pm_gcd_step hg) hly (Nat.lt_trans hmod hly) _ _ _ hl hP hD hS
  exact loop0 _ v v2 wk mn (Nat.lt_succ_self _) hN1 hN2 rfl hl1 hl2 _ _ _ hl hP hD hS

theorem pm_65 (n : Nat) : 0 < 65536 ^ n := Nat.pow_pos (by decide)
theorem pm_half_step {V P Q rest fig t : Nat} (ht : t = rest * 10000 + fig) : V + fig * P + P * 10000 * (65536 * Q + rest) = V + P * (65536 * (t / 65536 + 10000 * Q) + t % 65536) := by
  have e := Nat.mod_add_div t 65536
  have a : P * 10000 * (65536 * Q + rest) = P * (10000 * (65536 * Q + rest)) := Nat.mul_assoc _ _ _
  have b : fig * P = P * fig := Nat.mul_comm _ _
  rw [a, b, Nat.add_assoc, ← Nat.mul_add]
  congr 2
  omega
theorem pm_half_end {x Q rest : Nat} (h : x = 65536 * Q + rest) (hr : rest < 65536) : Q = x / 65536 ∧ rest = x % 65536 := by omega
theorem pm_div65 (v n : Nat) : v / 65536 ^ n / 65536 = v / 65536 ^ (n + 1) := by rw [Nat.div_div_eq_div_mul, Nat.pow_succ]

set_option maxHeartbeats 4000000 in
set_option maxRecDepth 100000 in
theorem c_M_parts (l : Launch) (D : va_G) (cI cZ cB cJ : ClassId) (sz : Nat) (oM qW qM qK qJ qG qH qP cd pl : Nat) (wk mn : Nat → Nat) (hv : Nat → Nat) (b v : Nat) (hb7 : b < 7) (hb3 : b ≠ 3) (hN1 : pm_N wk mn b v) (hlim : v < 65536 ^ 2700) : pn_Ci l D (pn_ty cI cZ cB cJ) y_M_parts w_M_parts ({ frames := 1, cells := 0, slots := 0, locals := 40 } : Room) [.ref oM, .int (nI b)] [(oM, .inr (5, [.int (nI cd), .ref qW, .ref qM, .ref qK, .ref qJ, .ref qG, .ref qH, .ref qP, .int (nI pl)])), (qW, .inl (cI, 22400, .inl (fun z9 => nI (wk z9)))), (qM, .inl (cI, 7, .inl (fun z9 => nI (mn z9)))), (qH, .inl (cI, 2700, .inl (fun z9 => nI (hv z9))))] sz (S := (Nat → Nat) × (Nat → Nat) × (Nat → Nat) × Nat) (fun r u => r = nI u.2.2.2 ∧ pm_K 3 wk mn u.1 u.2.1 ∧ (∀ i, i < u.2.2.2 → u.2.2.1 i = v / 65536 ^ i % 65536) ∧ v / 65536 ^ u.2.2.2 = 0 ∧ (u.2.2.2 = 0 ∨ 0 < v / 65536 ^ (u.2.2.2 - 1)) ∧ u.2.2.2 ≤ 2700) (fun u => [(oM, .inr (5, [.int (nI cd), .ref qW, .ref qM, .ref qK, .ref qJ, .ref qG, .ref qH, .ref qP, .int (nI pl)])), (qW, .inl (cI, 22400, .inl (fun z9 => nI (u.1 z9)))), (qM, .inl (cI, 7, .inl (fun z9 => nI (u.2.1 z9)))), (qH, .inl (cI, 2700, .inl (fun z9 => nI (u.2.2.1 z9))))]) := by
  refine pn_start (by decide) (Nat.le_of_ble_eq_true rfl) ?_
  intro p e s m below meth c A Q ls hQ hAe Fx hr hlocks hN hK hP hD hS hA hl
  have hx := Fx.1
  have hb := Fx.2.1
  have hl : lv_has ls 6 [(0, .ref oM), (1, .int (nI b))] := hl
  refine lv_aload_n hx hb d_M_parts_0 rfl (lv_at hl 0 rfl) ?_
  refine lv_iconst (v := nI 3) hx hb d_M_parts_1 (by decide) ?_
  refine lv_iload_n hx hb d_M_parts_2 rfl (lv_at hl 1 rfl) ?_
  refine pn_bv (wr := [(qH, .inl (cI, 2700, .inl (fun z9 => nI (hv z9))))]) [0, 1, 2] [3] hP hD hS hA (pn_rV [.int (nI 3), .int (nI b)] [] Fx hK hN hP hD [0, 1, 2] rfl rfl (c_M_copyTo l D cI cZ cB cJ _ oM qW qM qK qJ qG qH qP cd pl wk mn 3 b v (by omega) (by omega) (Ne.symm hb3) hN1) kw_690 cal_M_copyTo inst_M_copyTo sel_M_copyTo ⟨by decide, by decide⟩ ⟨rfl, rfl⟩ 0 rfl rfl rfl rfl hl.1 (Nat.le_of_ble_eq_true rfl) d_M_parts_3 ⟨Nat.zero_le _, Nat.zero_le _⟩) rfl rfl rfl (by decide) (fun u_3 H locs hw hP hD hS => ?_)
  obtain ⟨hc3, hK3⟩ := hw
  have hP : va_P D pn_cl [(qH, .inl (cI, 2700, .inl (fun z9 => nI (hv z9)))), (oM, .inr (5, [.int (nI cd), .ref qW, .ref qM, .ref qK, .ref qJ, .ref qG, .ref qH, .ref qP, .int (nI pl)])), (qW, .inl (cI, 22400, .inl (fun z9 => nI (u_3 z9)))), (qM, .inl (cI, 7, .inl (fun z9 => nI ((pn_up mn 3 (mn b)) z9))))] H := hP
  have hD : va_D A [(qH, .inl (cI, 2700, .inl (fun z9 => nI (hv z9)))), (oM, .inr (5, [.int (nI cd), .ref qW, .ref qM, .ref qK, .ref qJ, .ref qG, .ref qH, .ref qP, .int (nI pl)])), (qW, .inl (cI, 22400, .inl (fun z9 => nI (u_3 z9)))), (qM, .inl (cI, 7, .inl (fun z9 => nI ((pn_up mn 3 (mn b)) z9))))] := hD
  refine lv_iconst (v := nI 0) hx hb d_M_parts_6 (by decide) ?_
  refine lv_istore_n (lv' := [(2, .int (nI 0)), (0, .ref oM), (1, .int (nI b))]) hx hb d_M_parts_7 rfl hl (by decide) rfl (fun ls hl => ?_)
  have loop8 : ∀ (N : Nat) (n : Nat) (w1 : Nat → Nat) (m1 : Nat → Nat) (h1 : Nat → Nat), v / 65536 ^ n < N → (n ≤ 2700) → (pm_N w1 m1 3 (v / 65536 ^ n)) → (pm_K 3 wk mn w1 m1) → (∀ i, i < n → h1 i = v / 65536 ^ i % 65536) → (n = 0 ∨ 0 < v / 65536 ^ (n - 1)) → ∀ (H : Heap) (locs : List Loc) (ls : Array Slot), lv_has ls 6 [(2, .int (nI n)), (0, .ref oM), (1, .int (nI b))] → va_P D pn_cl [(oM, .inr (5, [.int (nI cd), .ref qW, .ref qM, .ref qK, .ref qJ, .ref qG, .ref qH, .ref qP, .int (nI pl)])), (qW, .inl (cI, 22400, .inl (fun z9 => nI (w1 z9)))), (qM, .inl (cI, 7, .inl (fun z9 => nI (m1 z9)))), (qH, .inl (cI, 2700, .inl (fun z9 => nI (h1 z9))))] H → va_D A [(oM, .inr (5, [.int (nI cd), .ref qW, .ref qM, .ref qK, .ref qJ, .ref qG, .ref qH, .ref qP, .int (nI pl)])), (qW, .inl (cI, 22400, .inl (fun z9 => nI (w1 z9)))), (qM, .inl (cI, 7, .inl (fun z9 => nI (m1 z9)))), (qH, .inl (cI, 2700, .inl (fun z9 => nI (h1 z9))))] → va_S A s.heap H locs → W p l e ({ frames := 1, cells := 0, slots := 0, locals := 40 } : Room) s m ([.ref oM, .int (nI b)] : List Value).toArray below meth c H locs 0 0 Q (F0 m 8 ls []) := by
    intro N
    induction N with
    | zero => intro n w1 m1 h1 hM; exact absurd hM (Nat.not_lt_zero _)
    | succ N ih8 =>
      intro n w1 m1 h1 hM8 hn hxN hKK hh hp H locs ls hl hP hD hS
      refine lv_aload_n hx hb d_M_parts_8 rfl (lv_at hl 1 rfl) ?_
      refine pw_get Fx hK hP fld_M 0 rfl 2 (by decide) kw_632 (v := .ref qM) rfl d_M_parts_9 ?_
      refine lv_iconst (v := nI 3) hx hb d_M_parts_12 (by decide) ?_
      refine pw_iald Fx hK hP 2 0 (f := fun z9 => nI (m1 z9)) rfl rfl (k := 3) (by omega) (by decide) d_M_parts_13 ?_
      refine pn_topi (nI (m1 3)) rfl ?_
      obtain ⟨hx1, hx2, hx3, hx4⟩ := id hxN
      refine pw_if_le (a := m1 3) (tgt := 105) hx hb d_M_parts_14 (by decide) (by omega) (fun h_14 => ?_) (fun h_14 => ?_)
      · skip
        have hx0 : v / 65536 ^ n = 0 := (pm_N_zero hxN).mp (by omega)
        refine lv_iload_n hx hb d_M_parts_105 rfl (lv_at hl 0 rfl) ?_
        exact pn_reti ((w1, m1, h1, n)) Fx hr hlocks hQ hAe hP hD hS (by (try dsimp only); first | done | exact (⟨rfl, hKK, hh, hx0, hp, hn⟩)) d_M_parts_106
      · skip
        have hx0 : 0 < v / 65536 ^ n := Nat.pos_of_ne_zero (fun q => by have := (pm_N_zero hxN).mpr q; omega)
        have hn27 : n < 2700 := Nat.lt_of_not_le (fun q => by have a : 65536 ^ 2700 ≤ 65536 ^ n := Nat.pow_le_pow_right (by decide) q; rw [Nat.div_eq_of_lt (by omega)] at hx0; omega)
        refine lv_iconst (v := nI 0) hx hb d_M_parts_17 (by decide) ?_
        refine lv_istore_n (lv' := [(3, .int (nI 0)), (2, .int (nI n)), (0, .ref oM), (1, .int (nI b))]) hx hb d_M_parts_18 rfl hl (by decide) rfl (fun ls hl => ?_)
        refine lv_aload_n hx hb d_M_parts_19 rfl (lv_at hl 2 rfl) ?_
        refine pw_get Fx hK hP fld_M 0 rfl 2 (by decide) kw_632 (v := .ref qM) rfl d_M_parts_20 ?_
        refine lv_iconst (v := nI 3) hx hb d_M_parts_23 (by decide) ?_
        refine pw_iald Fx hK hP 2 0 (f := fun z9 => nI (m1 z9)) rfl rfl (k := 3) (by omega) (by decide) d_M_parts_24 ?_
        refine pn_topi (nI (m1 3)) rfl ?_
        refine lv_iconst (v := nI 1) hx hb d_M_parts_25 (by decide) ?_
        refine lv_isub hx hb d_M_parts_26 ?_
        refine pn_topi (pn_I ((m1 3 : Int) - 1)) (pn_dec _) ?_
        refine lv_istore (lv' := [(4, .int (pn_I ((m1 3 : Int) - 1))), (3, .int (nI 0)), (2, .int (nI n)), (0, .ref oM), (1, .int (nI b))]) hx hb d_M_parts_27 hl (by decide) rfl (fun ls hl => ?_)
        have loop29 : ∀ (N : Nat) (k : Nat) (rs : Nat) (w2 : Nat → Nat), k < N → (k ≤ m1 3) → (rs < 65536) → (pm_fr 3 w1 w2) → (∀ i, i < k → pm_at w2 3 i = pm_at w1 3 i) → (∀ i, k ≤ i → i < m1 3 → pm_at w2 3 i < 10000) → (v / 65536 ^ n = pm_V (pm_at w1 3) k + 10000 ^ k * (65536 * pm_V (fun i => pm_at w2 3 (k + i)) (m1 3 - k) + rs)) → ∀ (H : Heap) (locs : List Loc) (ls : Array Slot), lv_has ls 6 [(4, .int (pn_I ((k : Int) - 1))), (3, .int (nI rs)), (2, .int (nI n)), (0, .ref oM), (1, .int (nI b))] → va_P D pn_cl [(oM, .inr (5, [.int (nI cd), .ref qW, .ref qM, .ref qK, .ref qJ, .ref qG, .ref qH, .ref qP, .int (nI pl)])), (qW, .inl (cI, 22400, .inl (fun z9 => nI (w2 z9)))), (qM, .inl (cI, 7, .inl (fun z9 => nI (m1 z9)))), (qH, .inl (cI, 2700, .inl (fun z9 => nI (h1 z9))))] H → va_D A [(oM, .inr (5, [.int (nI cd), .ref qW, .ref qM, .ref qK, .ref qJ, .ref qG, .ref qH, .ref qP, .int (nI pl)])), (qW, .inl (cI, 22400, .inl (fun z9 => nI (w2 z9)))), (qM, .inl (cI, 7, .inl (fun z9 => nI (m1 z9)))), (qH, .inl (cI, 2700, .inl (fun z9 => nI (h1 z9))))] → va_S A s.heap H locs → W p l e ({ frames := 1, cells := 0, slots := 0, locals := 40 } : Room) s m ([.ref oM, .int (nI b)] : List Value).toArray below meth c H locs 0 0 Q (F0 m 29 ls []) := by
          intro N
          induction N with
          | zero => intro k rs w2 hM; exact absurd hM (Nat.not_lt_zero _)
          | succ N ih29 =>
            intro k rs w2 hM29 hk hrs hF hun hfa hV H locs ls hl hP hD hS
            refine lv_iload hx hb d_M_parts_29 (lv_at hl 0 rfl) ?_
            refine lv_if_lt (tgt := 81) hx hb d_M_parts_31 (by decide) (fun h_31 => ?_) (fun h_31 => ?_)
            · skip
              have hk0 := pn_dec_0 (by omega) h_31
              subst hk0
              have hend := pm_half_end (x := v / 65536 ^ n) (Q := pm_V (pm_at w2 3) (m1 3)) (rest := rs) (by rw [hV, pm_V_0, Nat.pow_zero, Nat.one_mul, Nat.sub_zero, Nat.zero_add, pm_V_congr (f := fun i => pm_at w2 3 (0 + i)) (g := pm_at w2 3) (fun i _ => by rw [Nat.zero_add])]) hrs
              refine lv_aload_n hx hb d_M_parts_81 rfl (lv_at hl 3 rfl) ?_
              refine lv_iconst (v := nI 3) hx hb d_M_parts_82 (by decide) ?_
              refine lv_aload_n hx hb d_M_parts_83 rfl (lv_at hl 3 rfl) ?_
              refine pw_get Fx hK hP fld_M 0 rfl 2 (by decide) kw_632 (v := .ref qM) rfl d_M_parts_84 ?_
              refine lv_iconst (v := nI 3) hx hb d_M_parts_87 (by decide) ?_
              refine pw_iald Fx hK hP 2 0 (f := fun z9 => nI (m1 z9)) rfl rfl (k := 3) (by omega) (by decide) d_M_parts_88 ?_
              refine pn_topi (nI (m1 3)) rfl ?_
              refine pn_bv (wr := [(qH, .inl (cI, 2700, .inl (fun z9 => nI (h1 z9))))]) [0, 1, 2] [3] hP hD hS hA (pn_rV [.int (nI 3), .int (nI (m1 3))] [] Fx hK hN hP hD [0, 1, 2] rfl rfl (c_M_trim l D cI cZ cB cJ _ oM qW qM qK qJ qG qH qP cd pl w2 m1 3 (m1 3) (by omega) (by omega) (fun i hi => hfa i (Nat.zero_le _) hi)) kw_695 cal_M_trim inst_M_trim sel_M_trim ⟨by decide, by decide⟩ ⟨rfl, rfl⟩ 0 rfl rfl rfl rfl hl.1 (Nat.le_of_ble_eq_true rfl) d_M_parts_89 ⟨Nat.zero_le _, Nat.zero_le _⟩) rfl rfl rfl (by decide) (fun u_89 H locs hw hP hD hS => ?_)
              obtain ⟨t1, t2, t3⟩ := hw
              have hP : va_P D pn_cl [(qH, .inl (cI, 2700, .inl (fun z9 => nI (h1 z9)))), (oM, .inr (5, [.int (nI cd), .ref qW, .ref qM, .ref qK, .ref qJ, .ref qG, .ref qH, .ref qP, .int (nI pl)])), (qW, .inl (cI, 22400, .inl (fun z9 => nI (w2 z9)))), (qM, .inl (cI, 7, .inl (fun z9 => nI ((pn_up m1 3 u_89) z9))))] H := hP
              have hD : va_D A [(qH, .inl (cI, 2700, .inl (fun z9 => nI (h1 z9)))), (oM, .inr (5, [.int (nI cd), .ref qW, .ref qM, .ref qK, .ref qJ, .ref qG, .ref qH, .ref qP, .int (nI pl)])), (qW, .inl (cI, 22400, .inl (fun z9 => nI (w2 z9)))), (qM, .inl (cI, 7, .inl (fun z9 => nI ((pn_up m1 3 u_89) z9))))] := hD
              refine lv_aload_n hx hb d_M_parts_92 rfl (lv_at hl 3 rfl) ?_
              refine pw_get Fx hK hP fld_M 1 rfl 6 (by decide) kw_636 (v := .ref qH) rfl d_M_parts_93 ?_
              refine lv_iload_n hx hb d_M_parts_96 rfl (lv_at hl 2 rfl) ?_
              refine lv_iload_n hx hb d_M_parts_97 rfl (lv_at hl 1 rfl) ?_
              refine pw_iastN Fx hK hP hD hS 0 0 (g := h1) rfl rfl (k := n) (by omega) (by decide) (w' := [(qH, .inl (cI, 2700, .inl (fun z9 => nI ((pn_up h1 n rs) z9)))), (oM, .inr (5, [.int (nI cd), .ref qW, .ref qM, .ref qK, .ref qJ, .ref qG, .ref qH, .ref qP, .int (nI pl)])), (qW, .inl (cI, 22400, .inl (fun z9 => nI (w2 z9)))), (qM, .inl (cI, 7, .inl (fun z9 => nI ((pn_up m1 3 u_89) z9))))]) rfl d_M_parts_98 (fun H locs hP hD hS => ?_)
              refine lv_iinc (v := nI (n + 1)) (lv' := [(2, .int (nI (n + 1))), (4, .int (pn_I (((0 : Nat) : Int) - 1))), (3, .int (nI rs)), (0, .ref oM), (1, .int (nI b))]) hx hb d_M_parts_99 hl (k := 2) rfl (nI_add _ 1) (by decide) rfl (fun ls hl => ?_)
              refine lv_goto (tgt := 8) hx hb d_M_parts_102 (by decide) ?_
              exact ih8 (n + 1) w2 (pn_up m1 3 u_89) _ (by have := Nat.div_lt_self hx0 (show 1 < 65536 by decide); rw [pm_div65] at this; omega) (by omega) (by rw [← pm_div65]; exact pm_N_of (n := m1 3) (by omega) (fun i hi => hfa i (Nat.zero_le _) hi) t1 t2 t3 hend.1) (fun c8 x h1 h2 => pm_K_of hF c8 x h1 (hKK c8 x h1 h2)) (fun i hi => by rcases (show i = n ∨ i < n by omega) with y | y; (· rw [y, pn_up_s]; exact hend.2); (· rw [pn_up_n (by omega)]; exact hh i y)) (Or.inr hx0) _ _ _ (lv_sub hl [0, 3, 4] rfl) (hP.sub [1, 2, 3, 0] rfl) (hD.sub [1, 2, 3, 0] (by decide) rfl) hS
            · skip
              obtain ⟨j, rfl⟩ := pn_dec_s h_31
              rw [pn_dec_n] at hl
              have hxf : w2 (9600 + j) = pm_at w1 3 j := hun j (by omega)
              have f1 := hx2 j (by omega)
              rw [← hxf] at f1
              obtain ⟨w4, hw4⟩ : ∃ q, q = pn_up w2 (9600 + j) ((rs * 10000 + w2 (9600 + j)) / 65536) := ⟨_, rfl⟩
              have hat4 : pm_at (pn_up w2 (9600 + j) ((rs * 10000 + w2 (9600 + j)) / 65536)) 3 = pn_up (pm_at w2 3) j ((rs * 10000 + w2 (9600 + j)) / 65536) := pm_at_up w2 3 j _
              have hcg : pm_V (fun i => pm_at (pn_up w2 (9600 + j) ((rs * 10000 + w2 (9600 + j)) / 65536)) 3 (j + (i + 1))) (m1 3 - (j + 1)) = pm_V (fun i => pm_at w2 3 (j + 1 + i)) (m1 3 - (j + 1)) := pm_V_congr (fun i hi => by show pm_at (pn_up w2 (9600 + j) ((rs * 10000 + w2 (9600 + j)) / 65536)) 3 (j + (i + 1)) = pm_at w2 3 (j + 1 + i); rw [hat4, pn_up_n (by omega), show j + (i + 1) = j + 1 + i by omega])
              have hhd : pm_V (fun i => pm_at (pn_up w2 (9600 + j) ((rs * 10000 + w2 (9600 + j)) / 65536)) 3 (j + i)) (m1 3 - (j + 1) + 1) = (rs * 10000 + w2 (9600 + j)) / 65536 + 10000 * pm_V (fun i => pm_at w2 3 (j + 1 + i)) (m1 3 - (j + 1)) := by rw [pm_V_head]; show pm_at (pn_up w2 (9600 + j) ((rs * 10000 + w2 (9600 + j)) / 65536)) 3 (j + 0) + 10000 * pm_V (fun i => pm_at (pn_up w2 (9600 + j) ((rs * 10000 + w2 (9600 + j)) / 65536)) 3 (j + (i + 1))) (m1 3 - (j + 1)) = _; rw [hcg, hat4, Nat.add_zero, pn_up_s]
              have hV4 : v / 65536 ^ n = pm_V (pm_at w1 3) j + 10000 ^ j * (65536 * pm_V (fun i => pm_at (pn_up w2 (9600 + j) ((rs * 10000 + w2 (9600 + j)) / 65536)) 3 (j + i)) (m1 3 - j) + (rs * 10000 + w2 (9600 + j)) % 65536) := by rw [show m1 3 - j = m1 3 - (j + 1) + 1 by omega, hhd, ← pm_half_step rfl, hV, pm_V_s, pm_P_s, hxf]
              refine lv_iload_n hx hb d_M_parts_34 rfl (lv_at hl 1 rfl) ?_
              refine lv_sipush (v := nI 10000) hx hb d_M_parts_35 (by decide) ?_
              refine pw_imul hx hb d_M_parts_38 ?_
              refine lv_aload_n hx hb d_M_parts_39 rfl (lv_at hl 3 rfl) ?_
              refine pw_get Fx hK hP fld_M 0 rfl 1 (by decide) kw_631 (v := .ref qW) rfl d_M_parts_40 ?_
              refine lv_sipush (v := nI 9600) hx hb d_M_parts_43 (by decide) ?_
              refine lv_iload hx hb d_M_parts_46 (lv_at hl 0 rfl) ?_
              refine pw_iadd hx hb d_M_parts_48 ?_
              refine pw_iald Fx hK hP 1 0 (f := fun z9 => nI (w2 z9)) rfl rfl (k := 9600 + j) (by omega) (by decide) d_M_parts_49 ?_
              refine pn_topi (nI (w2 (9600 + j))) rfl ?_
              refine pw_iadd hx hb d_M_parts_50 ?_
              refine lv_istore (lv' := [(5, .int (nI (rs * 10000 + (w2 (9600 + j))))), (4, .int (nI j)), (3, .int (nI rs)), (2, .int (nI n)), (0, .ref oM), (1, .int (nI b))]) hx hb d_M_parts_51 hl (by decide) rfl (fun ls hl => ?_)
              refine lv_aload_n hx hb d_M_parts_53 rfl (lv_at hl 4 rfl) ?_
              refine pw_get Fx hK hP fld_M 0 rfl 1 (by decide) kw_631 (v := .ref qW) rfl d_M_parts_54 ?_
              refine lv_sipush (v := nI 9600) hx hb d_M_parts_57 (by decide) ?_
              refine lv_iload hx hb d_M_parts_60 (lv_at hl 1 rfl) ?_
              refine pw_iadd hx hb d_M_parts_62 ?_
              refine lv_iload hx hb d_M_parts_63 (lv_at hl 0 rfl) ?_
              refine lv_ldc hx hb Fx.2.2.2.1 (Fx.2.2.2.2 _ kw_694) d_M_parts_65 ?_
              refine pn_topi (nI 65536) (by decide) ?_
              refine pw_idiv hx hb d_M_parts_67 (by omega) (by omega) (by omega) ?_
              refine pw_iastN Fx hK hP hD hS 1 0 (g := w2) rfl rfl (k := 9600 + j) (by omega) (by decide) (w' := [(oM, .inr (5, [.int (nI cd), .ref qW, .ref qM, .ref qK, .ref qJ, .ref qG, .ref qH, .ref qP, .int (nI pl)])), (qW, .inl (cI, 22400, .inl (fun z9 => nI ((pn_up w2 (9600 + j) ((rs * 10000 + (w2 (9600 + j))) / 65536)) z9)))), (qM, .inl (cI, 7, .inl (fun z9 => nI (m1 z9)))), (qH, .inl (cI, 2700, .inl (fun z9 => nI (h1 z9))))]) rfl d_M_parts_68 (fun H locs hP hD hS => ?_)
              refine lv_iload hx hb d_M_parts_69 (lv_at hl 0 rfl) ?_
              refine lv_ldc hx hb Fx.2.2.2.1 (Fx.2.2.2.2 _ kw_694) d_M_parts_71 ?_
              refine pn_topi (nI 65536) (by decide) ?_
              refine pw_irem hx hb d_M_parts_73 (by omega) (by omega) (by omega) ?_
              refine lv_istore_n (lv' := [(3, .int (nI ((rs * 10000 + (w2 (9600 + j))) % 65536))), (5, .int (nI (rs * 10000 + (w2 (9600 + j))))), (4, .int (nI j)), (2, .int (nI n)), (0, .ref oM), (1, .int (nI b))]) hx hb d_M_parts_74 rfl hl (by decide) rfl (fun ls hl => ?_)
              refine lv_iinc (v := pn_I ((j : Int) - 1)) (lv' := [(4, .int (pn_I ((j : Int) - 1))), (3, .int (nI ((rs * 10000 + (w2 (9600 + j))) % 65536))), (5, .int (nI (rs * 10000 + (w2 (9600 + j))))), (2, .int (nI n)), (0, .ref oM), (1, .int (nI b))]) hx hb d_M_parts_75 hl (k := 2) rfl (pn_dec' _) (by decide) rfl (fun ls hl => ?_)
              refine lv_goto (tgt := 29) hx hb d_M_parts_78 (by decide) ?_
              exact ih29 j ((rs * 10000 + w2 (9600 + j)) % 65536) _ (by omega) (by omega) (by omega) (pm_fr_up (b := 3) hF (by omega)) (fun i hi => by rw [hat4, pn_up_n (by omega)]; exact hun i (by omega)) (fun i h1 h2 => by rw [hat4]; by_cases y : i = j; (· subst y; rw [pn_up_s]; omega); (· rw [pn_up_n y]; exact hfa i (by omega) h2)) hV4 _ _ _ (lv_sub hl [0, 1, 3, 4, 5] rfl) hP hD hS
        exact loop29 _ (m1 3) 0 w1 (Nat.lt_succ_self _) (Nat.le_refl _) (by decide) pm_fr_refl (fun _ _ => rfl) (fun i h1 h2 => by omega) (by rw [Nat.sub_self, pm_V_0, hx4]; omega) _ _ _ hl hP hD hS
  exact loop8 _ 0 u_3 (pn_up mn 3 (mn b)) hv (Nat.lt_succ_self _) (Nat.zero_le _) (by rw [Nat.pow_zero, Nat.div_one]; exact hc3) hK3 (fun i hi => by omega) (Or.inl rfl) _ _ _ hl (hP.sub [1, 2, 3, 0] rfl) (hD.sub [1, 2, 3, 0] (by decide) rfl) hS
