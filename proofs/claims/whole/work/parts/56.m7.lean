def pm_fr2 (t b : Nat) (wk wk2 : Nat → Nat) : Prop := ∀ c i, c ≠ t → c ≠ b → i < 3200 → pm_at wk2 c i = pm_at wk c i
theorem pm_V_head (f : Nat → Nat) (n : Nat) : pm_V f (n + 1) = f 0 + 10000 * pm_V (fun i => f (i + 1)) n := by
  rw [Nat.add_comm n 1, pm_V_add]
  have : pm_V f 1 = f 0 := by rw [pm_V_s, pm_V_0, Nat.pow_zero]; omega
  rw [this, Nat.pow_one]
  congr 2
  exact pm_V_congr (fun i _ => by rw [Nat.add_comm])
theorem pm_top3 (f : Nat → Nat) (n : Nat) (h : 3 ≤ n) : pm_V f n = (f (n - 1) * 100000000 + f (n - 2) * 10000 + f (n - 3)) * 10000 ^ (n - 3) + pm_V f (n - 3) := by
  obtain ⟨p, rfl⟩ : ∃ p, n = p + 3 := ⟨n - 3, by omega⟩
  have e1 : 10000 ^ (p + 1) = 10000 ^ p * 10000 := pm_P_s p
  have e2 : 10000 ^ (p + 2) = 10000 ^ p * 10000 * 10000 := by rw [pm_P_s, pm_P_s]
  rw [show p + 3 - 1 = p + 2 by omega, show p + 3 - 2 = p + 1 by omega, show p + 3 - 3 = p by omega, pm_V_s, pm_V_s, pm_V_s, e2, e1, Nat.add_mul, Nat.add_mul]
  generalize 10000 ^ p = P
  have a : f (p + 2) * (P * 10000 * 10000) = f (p + 2) * 100000000 * P := by rw [show P * 10000 * 10000 = 100000000 * P by omega, Nat.mul_assoc]
  have b : f (p + 1) * (P * 10000) = f (p + 1) * 10000 * P := by rw [Nat.mul_comm P, Nat.mul_assoc]
  omega
theorem pm_top4 (f : Nat → Nat) (n : Nat) (h : 3 ≤ n) : pm_V f (n + 1) = (f n * 1000000000000 + f (n - 1) * 100000000 + f (n - 2) * 10000 + f (n - 3)) * 10000 ^ (n - 3) + pm_V f (n - 3) := by
  have e : 10000 ^ n = 1000000000000 * 10000 ^ (n - 3) := by
    obtain ⟨p, rfl⟩ : ∃ p, n = p + 3 := ⟨n - 3, by omega⟩
    rw [show p + 3 - 3 = p by omega, pm_P_s, pm_P_s, pm_P_s]; omega
  rw [pm_V_s, pm_top3 f n h, e, Nat.add_mul, Nat.add_mul, Nat.add_mul, Nat.add_mul, Nat.add_mul, ← Nat.mul_assoc]; omega
theorem pm_est {X v2 H L P M : Nat} (hL : 0 < L) (h1 : L * P ≤ v2 * M) (h2 : X * M < (H + 1) * P) : X / v2 ≤ H / L := by
  have a : X / v2 * v2 ≤ X := Nat.div_mul_le_self X v2
  have b : X / v2 * (L * P) ≤ X / v2 * (v2 * M) := Nat.mul_le_mul_left _ h1
  have c : X / v2 * v2 * M ≤ X * M := Nat.mul_le_mul_right _ a
  rw [← Nat.mul_assoc, ← Nat.mul_assoc] at b
  have d : X / v2 * L * P < (H + 1) * P := by omega
  have e := Nat.lt_of_mul_lt_mul_right d
  rw [Nat.le_div_iff_mul_le hL]; omega
theorem pm_dv_start {v v2 m n : Nat} (hn : n ≤ m) (hv : v < 10000 ^ m) (h2 : 10000 ^ (n - 1) ≤ v2) (h0 : 0 < n) : v < v2 * 10000 ^ (m - n + 1) := by
  have a : 10000 ^ (n - 1) * 10000 ^ (m - n + 1) ≤ v2 * 10000 ^ (m - n + 1) := Nat.mul_le_mul_right _ h2
  rw [← Nat.pow_add, show n - 1 + (m - n + 1) = m by omega] at a
  omega
theorem pm_dv_x {V P X v2 : Nat} (hP : 0 < P) (h : V + P * X < v2 * (P * 10000)) : X / v2 < 10000 := by
  have a : P * X < P * (v2 * 10000) := by rw [Nat.mul_left_comm P v2 10000]; omega
  have b := Nat.lt_of_mul_lt_mul_left a
  rw [Nat.mul_comm] at b
  exact Nat.div_lt_of_lt_mul (by omega)
theorem pm_dv_low {V P X v2 : Nat} (hV : V < P) (h2 : 0 < v2) : V + P * (X % v2) < v2 * P := by
  have a : X % v2 + 1 ≤ v2 := Nat.mod_lt X h2
  have b : (X % v2 + 1) * P ≤ v2 * P := Nat.mul_le_mul_right _ a
  rw [Nat.add_mul, Nat.one_mul, Nat.mul_comm] at b
  omega
theorem pm_dv_eq {v V P X v2 Q : Nat} (h : v = V + P * X + v2 * (P * 10000 * Q)) : v = V + P * (X % v2) + v2 * (P * (X / v2 + 10000 * Q)) := by
  have a := Nat.mod_add_div X v2
  have b : P * X = P * (X % v2) + v2 * (P * (X / v2)) := by rw [Nat.mul_left_comm v2 P, ← Nat.mul_add, a]
  have c : v2 * (P * (X / v2 + 10000 * Q)) = v2 * (P * (X / v2)) + v2 * (P * 10000 * Q) := by rw [Nat.mul_add, Nat.mul_add, Nat.mul_assoc P]
  omega
theorem pm_dv_top {f : Nat → Nat} {n v2 : Nat} (h : pm_V f (n + 1) < v2) (h2 : v2 < 10000 ^ n) : pm_V f n = pm_V f (n + 1) := by
  rw [pm_V_s] at h ⊢
  rcases Nat.eq_zero_or_pos (f n) with z | z
  · rw [z]; omega
  · have : 1 * 10000 ^ n ≤ f n * 10000 ^ n := Nat.mul_le_mul_right _ z
    omega
theorem pm_dv_fin {v r v2 Q : Nat} (h : v = r + v2 * Q) (hr : r < v2) : Q = v / v2 ∧ r = v % v2 := by
  subst h
  rw [Nat.add_mul_div_left _ _ (by omega), Nat.div_eq_of_lt hr, Nat.add_mul_mod_self_left, Nat.mod_eq_of_lt hr]; omega

set_option maxHeartbeats 4000000 in
set_option maxRecDepth 100000 in
theorem c_M_divideBy (l : Launch) (D : va_G) (cI cZ cB cJ : ClassId) (sz : Nat) (oM qW qM qK qJ qG qH qP cd pl : Nat) (wk mn : Nat → Nat) (t9 b c9 v v2 : Nat) (ht7 : t9 < 7) (hb7 : b < 7) (hc7 : c9 < 7) (htb : t9 ≠ b) (htc : t9 ≠ c9) (hbc : b ≠ c9) (hN1 : pm_N wk mn b v) (hN2 : pm_N wk mn c9 v2) (hv20 : 0 < v2) (hmb : mn b ≤ 3199) : pn_Cv l D (pn_ty cI cZ cB cJ) y_M_divideBy w_M_divideBy ({ frames := 1, cells := 0, slots := 0, locals := 50 } : Room) [.ref oM, .int (nI t9), .int (nI b), .int (nI c9)] [(oM, .inr (5, [.int (nI cd), .ref qW, .ref qM, .ref qK, .ref qJ, .ref qG, .ref qH, .ref qP, .int (nI pl)])), (qW, .inl (cI, 22400, .inl (fun z9 => nI (wk z9)))), (qM, .inl (cI, 7, .inl (fun z9 => nI (mn z9))))] sz (S := (Nat → Nat) × (Nat → Nat)) (fun u => pm_N u.1 u.2 t9 (v / v2) ∧ pm_N u.1 u.2 b (v % v2) ∧ ∀ c x, c ≠ t9 → c ≠ b → pm_N wk mn c x → pm_N u.1 u.2 c x) (fun u => [(oM, .inr (5, [.int (nI cd), .ref qW, .ref qM, .ref qK, .ref qJ, .ref qG, .ref qH, .ref qP, .int (nI pl)])), (qW, .inl (cI, 22400, .inl (fun z9 => nI (u.1 z9)))), (qM, .inl (cI, 7, .inl (fun z9 => nI (u.2 z9))))]) := by
  refine pn_start (by decide) (Nat.le_of_ble_eq_true rfl) ?_
  intro p e s m below meth c A Q ls hQ hAe Fx hr hlocks hN hK hP hD hS hA hl
  have hx := Fx.1
  have hb := Fx.2.1
  have hl : lv_has ls 12 [(0, .ref oM), (1, .int (nI t9)), (2, .int (nI b)), (3, .int (nI c9))] := hl
  obtain ⟨n1, n2, n3, n4⟩ := id hN1
  obtain ⟨m1, m2, m3, m4⟩ := id hN2
  have hmc : 0 < mn c9 := Nat.pos_of_ne_zero (fun y => by have := (pm_N_zero hN2).mp y; omega)
  have hv2n := pm_N_lt hN2
  have hlow : 10000 ^ (mn c9 - 1) ≤ v2 := by rw [← m4]; have := pm_V_low (f := pm_at wk c9) (k := mn c9 - 1) (by rw [show mn c9 - 1 + 1 = mn c9 by omega]; exact m3); rw [show mn c9 - 1 + 1 = mn c9 by omega] at this; exact this
  have g1 := m2 (mn c9 - 1) (by omega)
  have g10 : pm_at wk c9 (mn c9 - 1) ≠ 0 := m3 _ (by omega)
  refine lv_aload_n hx hb d_M_divideBy_0 rfl (lv_at hl 0 rfl) ?_
  refine pw_get Fx hK hP fld_M 0 rfl 2 (by decide) kw_632 (v := .ref qM) rfl d_M_divideBy_1 ?_
  refine lv_iload_n hx hb d_M_divideBy_4 rfl (lv_at hl 3 rfl) ?_
  refine pw_iald Fx hK hP 2 0 (f := fun z9 => nI (mn z9)) rfl rfl (k := c9) (by omega) (by decide) d_M_divideBy_5 ?_
  refine pn_topi (nI (mn c9)) rfl ?_
  refine lv_istore (lv' := [(4, .int (nI (mn c9))), (0, .ref oM), (1, .int (nI t9)), (2, .int (nI b)), (3, .int (nI c9))]) hx hb d_M_divideBy_6 hl (by decide) rfl (fun ls hl => ?_)
  refine lv_aload_n hx hb d_M_divideBy_8 rfl (lv_at hl 1 rfl) ?_
  refine pw_get Fx hK hP fld_M 0 rfl 2 (by decide) kw_632 (v := .ref qM) rfl d_M_divideBy_9 ?_
  refine lv_iload_n hx hb d_M_divideBy_12 rfl (lv_at hl 3 rfl) ?_
  refine pw_iald Fx hK hP 2 0 (f := fun z9 => nI (mn z9)) rfl rfl (k := b) (by omega) (by decide) d_M_divideBy_13 ?_
  refine pn_topi (nI (mn b)) rfl ?_
  refine lv_istore (lv' := [(5, .int (nI (mn b))), (4, .int (nI (mn c9))), (0, .ref oM), (1, .int (nI t9)), (2, .int (nI b)), (3, .int (nI c9))]) hx hb d_M_divideBy_14 hl (by decide) rfl (fun ls hl => ?_)
  refine lv_iload hx hb d_M_divideBy_16 (lv_at hl 0 rfl) ?_
  refine lv_iload hx hb d_M_divideBy_18 (lv_at hl 1 rfl) ?_
  refine pw_icmp_ge (a := mn b) (b := mn c9) (tgt := 31) hx hb d_M_divideBy_20 (by decide) (by omega) (by omega) (fun h_20 => ?_) (fun h_20 => ?_)
  · skip
    refine lv_aload_n hx hb d_M_divideBy_31 rfl (lv_at hl 2 rfl) ?_
    refine pw_get Fx hK hP fld_M 0 rfl 1 (by decide) kw_631 (v := .ref qW) rfl d_M_divideBy_32 ?_
    refine lv_sipush (v := nI 3200) hx hb d_M_divideBy_35 (by decide) ?_
    refine lv_iload_n hx hb d_M_divideBy_38 rfl (lv_at hl 4 rfl) ?_
    refine pw_imul hx hb d_M_divideBy_39 ?_
    refine lv_iload hx hb d_M_divideBy_40 (lv_at hl 0 rfl) ?_
    refine pw_iadd hx hb d_M_divideBy_42 ?_
    refine lv_iconst (v := nI 0) hx hb d_M_divideBy_43 (by decide) ?_
    refine pw_iastN Fx hK hP hD hS 1 0 (g := wk) rfl rfl (k := 3200 * b + (mn b)) (by omega) (by decide) (w' := [(oM, .inr (5, [.int (nI cd), .ref qW, .ref qM, .ref qK, .ref qJ, .ref qG, .ref qH, .ref qP, .int (nI pl)])), (qW, .inl (cI, 22400, .inl (fun z9 => nI ((pn_up wk (3200 * b + (mn b)) 0) z9)))), (qM, .inl (cI, 7, .inl (fun z9 => nI (mn z9))))]) rfl d_M_divideBy_44 (fun H locs hP hD hS => ?_)
    obtain ⟨w0, e_w0⟩ : ∃ z, z = pn_up wk (3200 * b + (mn b)) 0 := ⟨_, rfl⟩
    rw [← e_w0] at hP hD
    have hF0 : pm_fr b wk w0 := by rw [e_w0]; exact pm_fr_up pm_fr_refl (by omega)
    have hfb0 : pm_fig (pm_at w0 b) (mn b + 1) := by rw [e_w0, pm_at_up]; exact pm_fig_upS n2 (by decide)
    have hV0 : pm_V (pm_at w0 b) (mn b + 1) = v := by rw [e_w0, pm_at_up, pm_V_upS, n4, Nat.zero_mul, Nat.add_zero]
    refine lv_aload_n hx hb d_M_divideBy_45 rfl (lv_at hl 2 rfl) ?_
    refine pw_get Fx hK hP fld_M 0 rfl 1 (by decide) kw_631 (v := .ref qW) rfl d_M_divideBy_46 ?_
    refine lv_sipush (v := nI 3200) hx hb d_M_divideBy_49 (by decide) ?_
    refine lv_iload_n hx hb d_M_divideBy_52 rfl (lv_at hl 5 rfl) ?_
    refine pw_imul hx hb d_M_divideBy_53 ?_
    refine lv_iload hx hb d_M_divideBy_54 (lv_at hl 1 rfl) ?_
    refine pw_iadd hx hb d_M_divideBy_56 ?_
    refine lv_iconst (v := nI 1) hx hb d_M_divideBy_57 (by decide) ?_
    refine pw_isub hx hb d_M_divideBy_58 (by omega) ?_
    refine pw_iald Fx hK hP 1 0 (f := fun z9 => nI (w0 z9)) rfl rfl (k := 3200 * c9 + (mn c9) - 1) (by omega) (by decide) d_M_divideBy_59 ?_
    refine pn_topi (nI (w0 (3200 * c9 + (mn c9) - 1))) rfl ?_
    refine pn_topi (nI (pm_at wk c9 (mn c9 - 1))) (congrArg nI (by rw [show 3200 * c9 + mn c9 - 1 = 3200 * c9 + (mn c9 - 1) by omega]; exact hF0 c9 _ (Ne.symm hbc) (by omega))) ?_
    refine pw_i2lN hx hb d_M_divideBy_60 (by omega) ?_
    refine lv_ldc2 hx hb Fx.2.2.2.1 (Fx.2.2.2.2 _ kw_779) d_M_divideBy_61 ?_
    refine pn_topl (pn_L (100000000)) (by decide) ?_
    refine pw_lmul hx hb d_M_divideBy_64 ?_
    refine lv_iload hx hb d_M_divideBy_65 (lv_at hl 1 rfl) ?_
    refine lv_iconst (v := nI 1) hx hb d_M_divideBy_67 (by decide) ?_
    refine pw_icmp_le (a := mn c9) (b := 1) (tgt := 94) hx hb d_M_divideBy_68 (by decide) (by omega) (by omega) (fun h_68 => ?_) (fun h_68 => ?_)
    · skip
      refine lv_lconst (v := pn_L 0) hx hb d_M_divideBy_94 (by decide) ?_
      refine pw_ladd hx hb d_M_divideBy_95 ?_
      refine lv_iload hx hb d_M_divideBy_96 (lv_at hl 1 rfl) ?_
      refine lv_iconst (v := nI 2) hx hb d_M_divideBy_98 (by decide) ?_
      refine pw_icmp_le (a := mn c9) (b := 2) (tgt := 121) hx hb d_M_divideBy_99 (by decide) (by omega) (by omega) (fun h_99 => ?_) (fun h_99 => ?_)
      · skip
        obtain ⟨L9, hL9⟩ : ∃ q, q = pm_at wk c9 (mn c9 - 1) * 100000000 := ⟨_, rfl⟩
        have hLM : L9 * 1 ≤ v2 * 100000000 := by have e1 : mn c9 = 1 := (by omega); rw [← m4, hL9, e1, pm_V_s, pm_V_0, Nat.pow_zero]; simp only [Nat.reduceSub]; omega
        have hLb : 100000000 ≤ L9 ∧ L9 < 1000000000000 := by omega
        refine lv_lconst (v := pn_L 0) hx hb d_M_divideBy_121 (by decide) ?_
        refine pw_ladd hx hb d_M_divideBy_122 ?_
        refine pn_topl (pn_L ((L9 : Nat) : Int)) (congrArg pn_L (by omega)) ?_
        refine lv_lstore (lv' := [(6, .long (pn_L ((L9 : Nat) : Int))), (5, .int (nI (mn b))), (4, .int (nI (mn c9))), (0, .ref oM), (1, .int (nI t9)), (2, .int (nI b)), (3, .int (nI c9))]) hx hb d_M_divideBy_123 hl (by decide) rfl (fun ls hl => ?_)
        refine lv_iload hx hb d_M_divideBy_125 (lv_at hl 1 rfl) ?_
        refine lv_iload hx hb d_M_divideBy_127 (lv_at hl 2 rfl) ?_
        refine lv_isub hx hb d_M_divideBy_129 ?_
        refine pn_topi (pn_I (((mn b - mn c9 + 1 : Nat) : Int) - 1)) (by rw [pk_sub (by omega), ← pn_I_nI]; exact congrArg pn_I (by omega)) ?_
        refine lv_istore (lv' := [(8, .int (pn_I (((mn b - mn c9 + 1 : Nat) : Int) - 1))), (6, .long (pn_L ((L9 : Nat) : Int))), (5, .int (nI (mn b))), (4, .int (nI (mn c9))), (0, .ref oM), (1, .int (nI t9)), (2, .int (nI b)), (3, .int (nI c9))]) hx hb d_M_divideBy_130 hl (by decide) rfl (fun ls hl => ?_)
        have loop132 : ∀ (N : Nat) (kk : Nat) (w1 : Nat → Nat), kk < N → (kk ≤ mn b - mn c9 + 1) → (pm_fr2 t9 b wk w1) → (pm_fig (pm_at w1 b) (mn b + 1)) → (∀ i, kk ≤ i → i < mn b - mn c9 + 1 → pm_at w1 t9 i < 10000) → (pm_V (pm_at w1 b) (mn c9 + kk) < v2 * 10000 ^ kk) → (v = pm_V (pm_at w1 b) (mn c9 + kk) + v2 * (10000 ^ kk * pm_V (fun i => pm_at w1 t9 (kk + i)) (mn b - mn c9 + 1 - kk))) → ∀ (H : Heap) (locs : List Loc) (ls : Array Slot), lv_has ls 12 [(8, .int (pn_I ((kk : Int) - 1))), (6, .long (pn_L ((L9 : Nat) : Int))), (4, .int (nI (mn c9))), (5, .int (nI (mn b))), (0, .ref oM), (1, .int (nI t9)), (2, .int (nI b)), (3, .int (nI c9))] → va_P D pn_cl [(oM, .inr (5, [.int (nI cd), .ref qW, .ref qM, .ref qK, .ref qJ, .ref qG, .ref qH, .ref qP, .int (nI pl)])), (qW, .inl (cI, 22400, .inl (fun z9 => nI (w1 z9)))), (qM, .inl (cI, 7, .inl (fun z9 => nI (mn z9))))] H → va_D A [(oM, .inr (5, [.int (nI cd), .ref qW, .ref qM, .ref qK, .ref qJ, .ref qG, .ref qH, .ref qP, .int (nI pl)])), (qW, .inl (cI, 22400, .inl (fun z9 => nI (w1 z9)))), (qM, .inl (cI, 7, .inl (fun z9 => nI (mn z9))))] → va_S A s.heap H locs → W p l e ({ frames := 1, cells := 0, slots := 0, locals := 50 } : Room) s m ([.ref oM, .int (nI t9), .int (nI b), .int (nI c9)] : List Value).toArray below meth c H locs 0 0 Q (F0 m 132 ls []) := by
          intro N
          induction N with
          | zero => intro kk w1 hM; exact absurd hM (Nat.not_lt_zero _)
          | succ N ih132 =>
            intro kk w1 hM132 hkk hF hfb hft hR hQ9 H locs ls hl hP hD hS
            refine lv_iload hx hb d_M_divideBy_132 (lv_at hl 0 rfl) ?_
            refine lv_if_lt (tgt := 314) hx hb d_M_divideBy_134 (by decide) (fun h_134 => ?_) (fun h_134 => ?_)
            · skip
              have hk0 := pn_dec_0 (by omega) h_134
              subst hk0
              rw [Nat.pow_zero, Nat.mul_one] at hR
              have hfin := pm_dv_fin (v := v) (r := pm_V (pm_at w1 b) (mn c9)) (Q := pm_V (pm_at w1 t9) (mn b - mn c9 + 1)) (by rw [Nat.pow_zero, Nat.one_mul, Nat.sub_zero, pm_V_congr (f := fun i => pm_at w1 t9 (0 + i)) (g := pm_at w1 t9) (fun i _ => by rw [Nat.zero_add])] at hQ9; exact hQ9) hR
              refine lv_aload_n hx hb d_M_divideBy_314 rfl (lv_at hl 4 rfl) ?_
              refine lv_iload_n hx hb d_M_divideBy_315 rfl (lv_at hl 5 rfl) ?_
              refine lv_iload hx hb d_M_divideBy_316 (lv_at hl 3 rfl) ?_
              refine lv_iload hx hb d_M_divideBy_318 (lv_at hl 2 rfl) ?_
              refine pw_isub hx hb d_M_divideBy_320 (by omega) ?_
              refine lv_iconst (v := nI 1) hx hb d_M_divideBy_321 (by decide) ?_
              refine pw_iadd hx hb d_M_divideBy_322 ?_
              refine pn_bv (wr := []) [0, 1, 2] [] hP hD hS hA (pn_rV [.int (nI t9), .int (nI (mn b - (mn c9) + 1))] [] Fx hK hN hP hD [0, 1, 2] rfl rfl (c_M_trim l D cI cZ cB cJ _ oM qW qM qK qJ qG qH qP cd pl w1 mn t9 (mn b - mn c9 + 1) ht7 (by omega) (fun i hi => hft i (Nat.zero_le _) hi)) kw_695 cal_M_trim inst_M_trim sel_M_trim ⟨by decide, by decide⟩ ⟨rfl, rfl⟩ 0 rfl rfl rfl rfl hl.1 (Nat.le_of_ble_eq_true rfl) d_M_divideBy_323 ⟨Nat.zero_le _, Nat.zero_le _⟩) rfl rfl rfl (by decide) (fun u_323 H locs hw hP hD hS => ?_)
              obtain ⟨a1, a2, a3⟩ := hw
              have hP : va_P D pn_cl [(oM, .inr (5, [.int (nI cd), .ref qW, .ref qM, .ref qK, .ref qJ, .ref qG, .ref qH, .ref qP, .int (nI pl)])), (qW, .inl (cI, 22400, .inl (fun z9 => nI (w1 z9)))), (qM, .inl (cI, 7, .inl (fun z9 => nI ((pn_up mn t9 u_323) z9))))] H := hP
              have hD : va_D A [(oM, .inr (5, [.int (nI cd), .ref qW, .ref qM, .ref qK, .ref qJ, .ref qG, .ref qH, .ref qP, .int (nI pl)])), (qW, .inl (cI, 22400, .inl (fun z9 => nI (w1 z9)))), (qM, .inl (cI, 7, .inl (fun z9 => nI ((pn_up mn t9 u_323) z9))))] := hD
              refine lv_aload_n hx hb d_M_divideBy_326 rfl (lv_at hl 4 rfl) ?_
              refine lv_iload_n hx hb d_M_divideBy_327 rfl (lv_at hl 6 rfl) ?_
              refine lv_iload hx hb d_M_divideBy_328 (lv_at hl 2 rfl) ?_
              refine pn_bv (wr := []) [0, 1, 2] [] hP hD hS hA (pn_rV [.int (nI b), .int (nI (mn c9))] [] Fx hK hN hP hD [0, 1, 2] rfl rfl (c_M_trim l D cI cZ cB cJ _ oM qW qM qK qJ qG qH qP cd pl w1 (pn_up mn t9 u_323) b (mn c9) hb7 (by omega) (fun i hi => hfb i (by omega))) kw_695 cal_M_trim inst_M_trim sel_M_trim ⟨by decide, by decide⟩ ⟨rfl, rfl⟩ 0 rfl rfl rfl rfl hl.1 (Nat.le_of_ble_eq_true rfl) d_M_divideBy_330 ⟨Nat.zero_le _, Nat.zero_le _⟩) rfl rfl rfl (by decide) (fun u_330 H locs hw hP hD hS => ?_)
              obtain ⟨b1, b2, b3⟩ := hw
              have hP : va_P D pn_cl [(oM, .inr (5, [.int (nI cd), .ref qW, .ref qM, .ref qK, .ref qJ, .ref qG, .ref qH, .ref qP, .int (nI pl)])), (qW, .inl (cI, 22400, .inl (fun z9 => nI (w1 z9)))), (qM, .inl (cI, 7, .inl (fun z9 => nI ((pn_up (pn_up mn t9 u_323) b u_330) z9))))] H := hP
              have hD : va_D A [(oM, .inr (5, [.int (nI cd), .ref qW, .ref qM, .ref qK, .ref qJ, .ref qG, .ref qH, .ref qP, .int (nI pl)])), (qW, .inl (cI, 22400, .inl (fun z9 => nI (w1 z9)))), (qM, .inl (cI, 7, .inl (fun z9 => nI ((pn_up (pn_up mn t9 u_323) b u_330) z9))))] := hD
              exact pn_retv ((w1, pn_up (pn_up mn t9 u_323) b u_330)) Fx hr hlocks hQ hAe hP hD hS (by (try dsimp only); first | done | exact (⟨pm_N_congr (mn := pn_up mn t9 u_323) (pm_N_of (n := mn b - mn c9 + 1) (by omega) (fun i hi => hft i (Nat.zero_le _) hi) a1 a2 a3 hfin.1) (pn_up_n htb) (fun _ _ => rfl), pm_N_of (n := mn c9) (by omega) (fun i hi => hfb i (by omega)) b1 b2 b3 hfin.2, fun c8 x h1 h2 h3 => pm_N_congr h3 (by rw [pn_up_n h2, pn_up_n h1]) (fun i hi => hF c8 i h1 h2 (by have := h3.1; omega))⟩)) d_M_divideBy_333
            · skip
              obtain ⟨j, rfl⟩ := pn_dec_s h_134
              rw [pn_dec_n] at hl
              have hNx : mn c9 + (j + 1) = j + (mn c9 + 1) := by omega
              rw [hNx, pm_V_add, pm_P_s] at hR hQ9
              have hq9 := pm_dv_x (pm_P j) hR
              have hQX : v = pm_V (pm_at w1 b) j + 10000 ^ j * pm_V (pm_w w1 b j) (mn c9 + 1) + v2 * (10000 ^ j * 10000 * pm_V (fun i => pm_at w1 t9 (j + 1 + i)) (mn b - mn c9 + 1 - (j + 1))) := hQ9
              have hq9 : pm_V (pm_w w1 b j) (mn c9 + 1) / v2 < 10000 := hq9
              have hfw : pm_fig (pm_w w1 b j) (mn c9 + 1) := fun i hi => hfb (j + i) (by omega)
              have ww0 : pm_w w1 b j (mn c9) = w1 (3200 * b + j + mn c9) := congrArg w1 (by omega)
              have fw0 := hfw (mn c9) (by omega)
              rw [ww0] at fw0
              have ww1 : pm_w w1 b j (mn c9 - 1) = w1 (3200 * b + j + mn c9 - 1) := congrArg w1 (by omega)
              have fw1 := hfw (mn c9 - 1) (by omega)
              rw [ww1] at fw1
              refine lv_aload_n hx hb d_M_divideBy_137 rfl (lv_at hl 4 rfl) ?_
              refine pw_get Fx hK hP fld_M 0 rfl 1 (by decide) kw_631 (v := .ref qW) rfl d_M_divideBy_138 ?_
              refine lv_sipush (v := nI 3200) hx hb d_M_divideBy_141 (by decide) ?_
              refine lv_iload_n hx hb d_M_divideBy_144 rfl (lv_at hl 6 rfl) ?_
              refine pw_imul hx hb d_M_divideBy_145 ?_
              refine lv_iload hx hb d_M_divideBy_146 (lv_at hl 0 rfl) ?_
              refine pw_iadd hx hb d_M_divideBy_148 ?_
              refine lv_iload hx hb d_M_divideBy_149 (lv_at hl 2 rfl) ?_
              refine pw_iadd hx hb d_M_divideBy_151 ?_
              refine pw_iald Fx hK hP 1 0 (f := fun z9 => nI (w1 z9)) rfl rfl (k := 3200 * b + j + (mn c9)) (by omega) (by decide) d_M_divideBy_152 ?_
              refine pn_topi (nI (w1 (3200 * b + j + (mn c9)))) rfl ?_
              refine pw_i2lN hx hb d_M_divideBy_153 (by omega) ?_
              refine lv_ldc2 hx hb Fx.2.2.2.1 (Fx.2.2.2.2 _ kw_780) d_M_divideBy_154 ?_
              refine pn_topl (pn_L (1000000000000)) (by decide) ?_
              refine pw_lmul hx hb d_M_divideBy_157 ?_
              refine lv_aload_n hx hb d_M_divideBy_158 rfl (lv_at hl 4 rfl) ?_
              refine pw_get Fx hK hP fld_M 0 rfl 1 (by decide) kw_631 (v := .ref qW) rfl d_M_divideBy_159 ?_
              refine lv_sipush (v := nI 3200) hx hb d_M_divideBy_162 (by decide) ?_
              refine lv_iload_n hx hb d_M_divideBy_165 rfl (lv_at hl 6 rfl) ?_
              refine pw_imul hx hb d_M_divideBy_166 ?_
              refine lv_iload hx hb d_M_divideBy_167 (lv_at hl 0 rfl) ?_
              refine pw_iadd hx hb d_M_divideBy_169 ?_
              refine lv_iload hx hb d_M_divideBy_170 (lv_at hl 2 rfl) ?_
              refine pw_iadd hx hb d_M_divideBy_172 ?_
              refine lv_iconst (v := nI 1) hx hb d_M_divideBy_173 (by decide) ?_
              refine pw_isub hx hb d_M_divideBy_174 (by omega) ?_
              refine pw_iald Fx hK hP 1 0 (f := fun z9 => nI (w1 z9)) rfl rfl (k := 3200 * b + j + (mn c9) - 1) (by omega) (by decide) d_M_divideBy_175 ?_
              refine pn_topi (nI (w1 (3200 * b + j + (mn c9) - 1))) rfl ?_
              refine pw_i2lN hx hb d_M_divideBy_176 (by omega) ?_
              refine lv_ldc2 hx hb Fx.2.2.2.1 (Fx.2.2.2.2 _ kw_779) d_M_divideBy_177 ?_
              refine pn_topl (pn_L (100000000)) (by decide) ?_
              refine pw_lmul hx hb d_M_divideBy_180 ?_
              refine pw_ladd hx hb d_M_divideBy_181 ?_
              refine lv_iload hx hb d_M_divideBy_182 (lv_at hl 2 rfl) ?_
              refine lv_iconst (v := nI 1) hx hb d_M_divideBy_184 (by decide) ?_
              refine pw_icmp_le (a := mn c9) (b := 1) (tgt := 214) hx hb d_M_divideBy_185 (by decide) (by omega) (by omega) (fun h_185 => ?_) (fun h_185 => ?_)
              · skip
                refine lv_lconst (v := pn_L 0) hx hb d_M_divideBy_214 (by decide) ?_
                refine pw_ladd hx hb d_M_divideBy_215 ?_
                refine lv_iload hx hb d_M_divideBy_216 (lv_at hl 2 rfl) ?_
                refine lv_iconst (v := nI 2) hx hb d_M_divideBy_218 (by decide) ?_
                refine pw_icmp_le (a := mn c9) (b := 2) (tgt := 244) hx hb d_M_divideBy_219 (by decide) (by omega) (by omega) (fun h_219 => ?_) (fun h_219 => ?_)
                · skip
                  obtain ⟨H9, hH9⟩ : ∃ q, q = w1 (3200 * b + j + mn c9) * 1000000000000 + w1 (3200 * b + j + mn c9 - 1) * 100000000 := ⟨_, rfl⟩
                  have hHM : (pm_V (pm_w w1 b j) (mn c9 + 1)) * 100000000 < (H9 + 1) * 1 := by have e1 : mn c9 = 1 := (by omega); rw [hH9, ← ww0, ← ww1, e1, pm_V_s, pm_V_s, pm_V_0, Nat.pow_zero]; simp only [Nat.reduceSub]; omega
                  have hqf := pm_est (by omega) hLM hHM
                  have hHb : H9 < 10000000000000000 := by omega
                  have hHL : H9 / L9 < 100000000 := Nat.div_lt_of_lt_mul (Nat.lt_of_lt_of_le hHb (Nat.le_trans (by decide : 10000000000000000 ≤ 100000000 * 100000000) (Nat.mul_le_mul_right _ hLb.1)))
                  refine lv_lconst (v := pn_L 0) hx hb d_M_divideBy_244 (by decide) ?_
                  refine pw_ladd hx hb d_M_divideBy_245 ?_
                  refine pn_topl (pn_L ((H9 : Nat) : Int)) (congrArg pn_L (by omega)) ?_
                  refine lv_lstore (lv' := [(9, .long (pn_L ((H9 : Nat) : Int))), (8, .int (nI j)), (6, .long (pn_L ((L9 : Nat) : Int))), (4, .int (nI (mn c9))), (5, .int (nI (mn b))), (0, .ref oM), (1, .int (nI t9)), (2, .int (nI b)), (3, .int (nI c9))]) hx hb d_M_divideBy_246 hl (by decide) rfl (fun ls hl => ?_)
                  refine lv_lload hx hb d_M_divideBy_248 (lv_at hl 0 rfl) ?_
                  refine lv_lload hx hb d_M_divideBy_250 (lv_at hl 2 rfl) ?_
                  refine pw_ldiv hx hb d_M_divideBy_252 (by omega) (by omega) (by omega) (by omega) ?_
                  refine pw_l2i hx hb d_M_divideBy_253 ?_
                  refine pn_topi (nI (H9 / L9)) (by rw [← pn_I_nI]; rfl) ?_
                  refine lv_istore (lv' := [(11, .int (nI (H9 / L9))), (9, .long (pn_L ((H9 : Nat) : Int))), (8, .int (nI j)), (6, .long (pn_L ((L9 : Nat) : Int))), (4, .int (nI (mn c9))), (5, .int (nI (mn b))), (0, .ref oM), (1, .int (nI t9)), (2, .int (nI b)), (3, .int (nI c9))]) hx hb d_M_divideBy_254 hl (by decide) rfl (fun ls hl => ?_)
                  refine lv_iload hx hb d_M_divideBy_256 (lv_at hl 0 rfl) ?_
                  refine lv_sipush (v := nI 10000) hx hb d_M_divideBy_258 (by decide) ?_
                  refine pw_icmp_lt (a := H9 / L9) (b := 10000) (tgt := 270) hx hb d_M_divideBy_261 (by decide) (by omega) (by omega) (fun h_261 => ?_) (fun h_261 => ?_)
                  · skip
                    refine lv_iload hx hb d_M_divideBy_270 (lv_at hl 0 rfl) ?_
                    refine lv_istore (lv' := [(11, .int (nI (H9 / L9))), (9, .long (pn_L ((H9 : Nat) : Int))), (8, .int (nI j)), (6, .long (pn_L ((L9 : Nat) : Int))), (4, .int (nI (mn c9))), (5, .int (nI (mn b))), (0, .ref oM), (1, .int (nI t9)), (2, .int (nI b)), (3, .int (nI c9))]) hx hb d_M_divideBy_272 hl (by decide) rfl (fun ls hl => ?_)
                    have loop274 : ∀ (N : Nat) (f9 : Nat) (w2 : Nat → Nat), f9 < N → (pm_V (pm_w w1 b j) (mn c9 + 1) / v2 ≤ f9) → (f9 ≤ 9999) → (∀ q, pm_at w2 b q = pm_at w1 b q) → (pm_fr b w1 w2) → ∀ (H : Heap) (locs : List Loc) (ls : Array Slot), lv_has ls 12 [(11, .int (nI f9)), (8, .int (nI j)), (6, .long (pn_L ((L9 : Nat) : Int))), (4, .int (nI (mn c9))), (5, .int (nI (mn b))), (0, .ref oM), (1, .int (nI t9)), (2, .int (nI b)), (3, .int (nI c9))] → va_P D pn_cl [(oM, .inr (5, [.int (nI cd), .ref qW, .ref qM, .ref qK, .ref qJ, .ref qG, .ref qH, .ref qP, .int (nI pl)])), (qW, .inl (cI, 22400, .inl (fun z9 => nI (w2 z9)))), (qM, .inl (cI, 7, .inl (fun z9 => nI (mn z9))))] H → va_D A [(oM, .inr (5, [.int (nI cd), .ref qW, .ref qM, .ref qK, .ref qJ, .ref qG, .ref qH, .ref qP, .int (nI pl)])), (qW, .inl (cI, 22400, .inl (fun z9 => nI (w2 z9)))), (qM, .inl (cI, 7, .inl (fun z9 => nI (mn z9))))] → va_S A s.heap H locs → W p l e ({ frames := 1, cells := 0, slots := 0, locals := 50 } : Room) s m ([.ref oM, .int (nI t9), .int (nI b), .int (nI c9)] : List Value).toArray below meth c H locs 0 0 Q (F0 m 274 ls []) := by
                      intro N
                      induction N with
                      | zero => intro f9 w2 hM; exact absurd hM (Nat.not_lt_zero _)
                      | succ N ih274 =>
                        intro f9 w2 hM274 hqf9 hf9 hsm hF2 H locs ls hl hP hD hS
                        refine lv_aload_n hx hb d_M_divideBy_274 rfl (lv_at hl 5 rfl) ?_
                        refine lv_iload_n hx hb d_M_divideBy_275 rfl (lv_at hl 7 rfl) ?_
                        refine lv_iload_n hx hb d_M_divideBy_276 rfl (lv_at hl 8 rfl) ?_
                        refine lv_iload hx hb d_M_divideBy_277 (lv_at hl 1 rfl) ?_
                        refine lv_iload hx hb d_M_divideBy_279 (lv_at hl 0 rfl) ?_
                        have hNc2 : pm_N w2 mn c9 v2 := pm_N_congr hN2 rfl (fun i hi => by rw [hF2 c9 i (Ne.symm hbc) (by omega)]; exact hF c9 i (Ne.symm htc) (Ne.symm hbc) (by omega))
                        refine pn_bi (wr := []) [0, 1, 2] [] hP hD hS hA (pn_rV [.int (nI b), .int (nI c9), .int (nI j), .int (nI f9)] [] Fx hK hN hP hD [0, 1, 2] rfl rfl (c_M_takes l D cI cZ cB cJ _ oM qW qM qK qJ qG qH qP cd pl w2 mn b c9 j f9 v2 hb7 hc7 hbc hNc2 (by omega) (by omega) (fun q hq => by have := hfw q hq; unfold pm_w at this ⊢; rw [hsm]; exact this)) kw_781 cal_M_takes inst_M_takes sel_M_takes ⟨by decide, by decide⟩ ⟨rfl, rfl⟩ 0 rfl rfl rfl rfl hl.1 (Nat.le_of_ble_eq_true rfl) d_M_divideBy_281 ⟨Nat.zero_le _, Nat.zero_le _⟩) rfl rfl rfl (by decide) (fun r_281 u_281 H locs hw hP hD hS => ?_)
                        obtain ⟨r9, w3⟩ := u_281
                        obtain ⟨rfl, htt, htf, htr⟩ := hw
                        have hP : va_P D pn_cl [(oM, .inr (5, [.int (nI cd), .ref qW, .ref qM, .ref qK, .ref qJ, .ref qG, .ref qH, .ref qP, .int (nI pl)])), (qW, .inl (cI, 22400, .inl (fun z9 => nI (w3 z9)))), (qM, .inl (cI, 7, .inl (fun z9 => nI (mn z9))))] H := hP
                        have hD : va_D A [(oM, .inr (5, [.int (nI cd), .ref qW, .ref qM, .ref qK, .ref qJ, .ref qG, .ref qH, .ref qP, .int (nI pl)])), (qW, .inl (cI, 22400, .inl (fun z9 => nI (w3 z9)))), (qM, .inl (cI, 7, .inl (fun z9 => nI (mn z9))))] := hD
                        dsimp only at htt htf htr
                        have hXe : pm_V (pm_w w2 b j) (mn c9 + 1) = pm_V (pm_w w1 b j) (mn c9 + 1) := pm_V_congr (fun i _ => by unfold pm_w; exact hsm _)
                        rw [hXe] at htt htf
                        refine pw_ifb_ne (tgt := 293) hx hb d_M_divideBy_284 (by decide) (fun h_284 => ?_) (fun h_284 => ?_)
                        · skip
                          obtain ⟨ht1, ht2, ht3, ht4⟩ := htt h_284
                          have hfq : f9 = pm_V (pm_w w1 b j) (mn c9 + 1) / v2 := Nat.le_antisymm ((Nat.le_div_iff_mul_le hv20).mpr ht1) hqf9
                          have hmod : pm_V (pm_w w1 b j) (mn c9 + 1) - f9 * v2 = pm_V (pm_w w1 b j) (mn c9 + 1) % v2 := by have := Nat.mod_add_div (pm_V (pm_w w1 b j) (mn c9 + 1)) v2; rw [hfq, Nat.mul_comm]; omega
                          rw [hmod] at ht2
                          obtain ⟨w4, hw4⟩ : ∃ q, q = pn_up w3 (3200 * t9 + j) f9 := ⟨_, rfl⟩
                          have h4b : ∀ i, i < 3200 → pm_at w4 b i = pm_at w3 b i := fun i hi => by rw [hw4]; exact pm_at_ne (Ne.symm htb) (by omega) hi
                          have h4t : pm_at w4 t9 = pn_up (pm_at w3 t9) j f9 := by rw [hw4]; exact pm_at_up _ _ _ _
                          have hF3 : pm_fr2 t9 b wk w4 := fun c8 i h1 h2 hi => by rw [hw4, pm_at_ne h1 (by omega) hi, htr c8 i h2 hi, hF2 c8 i h2 hi]; exact hF c8 i h1 h2 hi
                          have hw3t : ∀ i, i < 3200 → pm_at w3 t9 i = pm_at w1 t9 i := fun i hi => by rw [htr t9 i htb hi, hF2 t9 i htb hi]
                          have hfb3 : pm_fig (pm_at w4 b) (mn b + 1) := fun i hi => by rw [h4b i (by omega)]; by_cases y : i < j ∨ j + mn c9 < i; (· rw [ht4 i y, hsm i]; exact hfb i hi); (· have := ht3 (i - j) (by omega); unfold pm_w at this; rw [show j + (i - j) = i by omega] at this; exact this)
                          have hft3 : ∀ i, j ≤ i → i < mn b - mn c9 + 1 → pm_at w4 t9 i < 10000 := fun i h1 h2 => by rw [h4t]; by_cases y : i = j; (· subst y; rw [pn_up_s]; omega); (· rw [pn_up_n y, hw3t i (by omega)]; exact hft i (by omega) h2)
                          have hVj : pm_V (pm_at w4 b) j = pm_V (pm_at w1 b) j := pm_V_congr (fun i hi => by rw [h4b i (by omega), ht4 i (Or.inl hi), hsm i])
                          have hVw : pm_V (pm_w w4 b j) (mn c9) = pm_V (pm_w w1 b j) (mn c9 + 1) % v2 := by rw [← ht2, ← pm_dv_top (f := pm_w w3 b j) (by rw [ht2]; exact Nat.mod_lt _ hv20) hv2n]; exact pm_V_congr (fun i hi => h4b _ (by omega))
                          have hVn : pm_V (pm_at w4 b) (mn c9 + j) = pm_V (pm_at w1 b) j + 10000 ^ j * (pm_V (pm_w w1 b j) (mn c9 + 1) % v2) := by rw [Nat.add_comm, pm_V_add, hVj]; exact congrArg (fun q => pm_V (pm_at w1 b) j + 10000 ^ j * q) hVw
                          have hR3 : pm_V (pm_at w4 b) (mn c9 + j) < v2 * 10000 ^ j := by rw [hVn]; exact pm_dv_low (pm_V_lt (fun i hi => hfb i (by omega))) hv20
                          have hcg : pm_V (fun i => pm_at w4 t9 (j + (i + 1))) (mn b - mn c9 + 1 - (j + 1)) = pm_V (fun i => pm_at w1 t9 (j + 1 + i)) (mn b - mn c9 + 1 - (j + 1)) := pm_V_congr (fun i hi => by show pm_at w4 t9 (j + (i + 1)) = pm_at w1 t9 (j + 1 + i); rw [h4t, pn_up_n (by omega), show j + (i + 1) = j + 1 + i by omega]; exact hw3t _ (by omega))
                          have hhd : pm_V (fun i => pm_at w4 t9 (j + i)) (mn b - mn c9 + 1 - (j + 1) + 1) = f9 + 10000 * pm_V (fun i => pm_at w1 t9 (j + 1 + i)) (mn b - mn c9 + 1 - (j + 1)) := by rw [pm_V_head]; show pm_at w4 t9 (j + 0) + 10000 * pm_V (fun i => pm_at w4 t9 (j + (i + 1))) (mn b - mn c9 + 1 - (j + 1)) = _; rw [hcg, h4t, Nat.add_zero, pn_up_s]
                          have hQ3 : v = pm_V (pm_at w4 b) (mn c9 + j) + v2 * (10000 ^ j * pm_V (fun i => pm_at w4 t9 (j + i)) (mn b - mn c9 + 1 - j)) := by rw [hVn, show mn b - mn c9 + 1 - j = (mn b - mn c9 + 1 - (j + 1)) + 1 by omega, hhd, hfq]; exact pm_dv_eq hQX
                          refine lv_aload_n hx hb d_M_divideBy_293 rfl (lv_at hl 5 rfl) ?_
                          refine pw_get Fx hK hP fld_M 0 rfl 1 (by decide) kw_631 (v := .ref qW) rfl d_M_divideBy_294 ?_
                          refine lv_sipush (v := nI 3200) hx hb d_M_divideBy_297 (by decide) ?_
                          refine lv_iload_n hx hb d_M_divideBy_300 rfl (lv_at hl 6 rfl) ?_
                          refine pw_imul hx hb d_M_divideBy_301 ?_
                          refine lv_iload hx hb d_M_divideBy_302 (lv_at hl 1 rfl) ?_
                          refine pw_iadd hx hb d_M_divideBy_304 ?_
                          refine lv_iload hx hb d_M_divideBy_305 (lv_at hl 0 rfl) ?_
                          refine pw_iastN Fx hK hP hD hS 1 0 (g := w3) rfl rfl (k := 3200 * t9 + j) (by omega) (by decide) (w' := [(oM, .inr (5, [.int (nI cd), .ref qW, .ref qM, .ref qK, .ref qJ, .ref qG, .ref qH, .ref qP, .int (nI pl)])), (qW, .inl (cI, 22400, .inl (fun z9 => nI ((pn_up w3 (3200 * t9 + j) f9) z9)))), (qM, .inl (cI, 7, .inl (fun z9 => nI (mn z9))))]) rfl d_M_divideBy_307 (fun H locs hP hD hS => ?_)
                          rw [← hw4] at hP hD
                          refine lv_iinc (v := pn_I ((j : Int) - 1)) (lv' := [(8, .int (pn_I ((j : Int) - 1))), (11, .int (nI f9)), (6, .long (pn_L ((L9 : Nat) : Int))), (4, .int (nI (mn c9))), (5, .int (nI (mn b))), (0, .ref oM), (1, .int (nI t9)), (2, .int (nI b)), (3, .int (nI c9))]) hx hb d_M_divideBy_308 hl (k := 1) rfl (pn_dec' _) (by decide) rfl (fun ls hl => ?_)
                          refine lv_goto (tgt := 132) hx hb d_M_divideBy_311 (by decide) ?_
                          exact ih132 j _ (by omega) (by omega) hF3 hfb3 hft3 hR3 hQ3 _ _ _ (lv_sub hl [0, 2, 3, 4, 5, 6, 7, 8] rfl) hP hD hS
                        · skip
                          obtain ⟨ht1, ht2⟩ := htf h_284
                          have hlt9 : pm_V (pm_w w1 b j) (mn c9 + 1) / v2 < f9 := (Nat.div_lt_iff_lt_mul hv20).mpr ht1
                          have hf1 : 1 ≤ f9 := Nat.lt_of_le_of_lt (Nat.zero_le _) hlt9
                          refine lv_iinc (v := nI (f9 - 1)) (lv' := [(11, .int (nI (f9 - 1))), (8, .int (nI j)), (6, .long (pn_L ((L9 : Nat) : Int))), (4, .int (nI (mn c9))), (5, .int (nI (mn b))), (0, .ref oM), (1, .int (nI t9)), (2, .int (nI b)), (3, .int (nI c9))]) hx hb d_M_divideBy_287 hl (k := 0) rfl (sb_m1 (by omega)) (by decide) rfl (fun ls hl => ?_)
                          refine lv_goto (tgt := 274) hx hb d_M_divideBy_290 (by decide) ?_
                          exact ih274 (f9 - 1) w3 (by omega) (by omega) (by omega) (fun q => by rw [ht2 q]; exact hsm q) (fun c8 i h1 hi => by rw [htr c8 i h1 hi]; exact hF2 c8 i h1 hi) _ _ _ hl hP hD hS
                    exact loop274 _ (H9 / L9) w1 (Nat.lt_succ_self _) (by omega) (by omega) (fun _ => rfl) pm_fr_refl _ _ _ (lv_sub hl [0, 2, 3, 4, 5, 6, 7, 8, 9] rfl) hP hD hS
                  · skip
                    refine lv_sipush (v := nI 9999) hx hb d_M_divideBy_264 (by decide) ?_
                    refine lv_goto (tgt := 272) hx hb d_M_divideBy_267 (by decide) ?_
                    refine lv_istore (lv' := [(11, .int (nI 9999)), (9, .long (pn_L ((H9 : Nat) : Int))), (8, .int (nI j)), (6, .long (pn_L ((L9 : Nat) : Int))), (4, .int (nI (mn c9))), (5, .int (nI (mn b))), (0, .ref oM), (1, .int (nI t9)), (2, .int (nI b)), (3, .int (nI c9))]) hx hb d_M_divideBy_272 hl (by decide) rfl (fun ls hl => ?_)
                    have loop274 : ∀ (N : Nat) (f9 : Nat) (w2 : Nat → Nat), f9 < N → (pm_V (pm_w w1 b j) (mn c9 + 1) / v2 ≤ f9) → (f9 ≤ 9999) → (∀ q, pm_at w2 b q = pm_at w1 b q) → (pm_fr b w1 w2) → ∀ (H : Heap) (locs : List Loc) (ls : Array Slot), lv_has ls 12 [(11, .int (nI f9)), (8, .int (nI j)), (6, .long (pn_L ((L9 : Nat) : Int))), (4, .int (nI (mn c9))), (5, .int (nI (mn b))), (0, .ref oM), (1, .int (nI t9)), (2, .int (nI b)), (3, .int (nI c9))] → va_P D pn_cl [(oM, .inr (5, [.int (nI cd), .ref qW, .ref qM, .ref qK, .ref qJ, .ref qG, .ref qH, .ref qP, .int (nI pl)])), (qW, .inl (cI, 22400, .inl (fun z9 => nI (w2 z9)))), (qM, .inl (cI, 7, .inl (fun z9 => nI (mn z9))))] H → va_D A [(oM, .inr (5, [.int (nI cd), .ref qW, .ref qM, .ref qK, .ref qJ, .ref qG, .ref qH, .ref qP, .int (nI pl)])), (qW, .inl (cI, 22400, .inl (fun z9 => nI (w2 z9)))), (qM, .inl (cI, 7, .inl (fun z9 => nI (mn z9))))] → va_S A s.heap H locs → W p l e ({ frames := 1, cells := 0, slots := 0, locals := 50 } : Room) s m ([.ref oM, .int (nI t9), .int (nI b), .int (nI c9)] : List Value).toArray below meth c H locs 0 0 Q (F0 m 274 ls []) := by
                      intro N
                      induction N with
                      | zero => intro f9 w2 hM; exact absurd hM (Nat.not_lt_zero _)
                      | succ N ih274 =>
                        intro f9 w2 hM274 hqf9 hf9 hsm hF2 H locs ls hl hP hD hS
                        refine lv_aload_n hx hb d_M_divideBy_274 rfl (lv_at hl 5 rfl) ?_
                        refine lv_iload_n hx hb d_M_divideBy_275 rfl (lv_at hl 7 rfl) ?_
                        refine lv_iload_n hx hb d_M_divideBy_276 rfl (lv_at hl 8 rfl) ?_
                        refine lv_iload hx hb d_M_divideBy_277 (lv_at hl 1 rfl) ?_
                        refine lv_iload hx hb d_M_divideBy_279 (lv_at hl 0 rfl) ?_
                        have hNc2 : pm_N w2 mn c9 v2 := pm_N_congr hN2 rfl (fun i hi => by rw [hF2 c9 i (Ne.symm hbc) (by omega)]; exact hF c9 i (Ne.symm htc) (Ne.symm hbc) (by omega))
                        refine pn_bi (wr := []) [0, 1, 2] [] hP hD hS hA (pn_rV [.int (nI b), .int (nI c9), .int (nI j), .int (nI f9)] [] Fx hK hN hP hD [0, 1, 2] rfl rfl (c_M_takes l D cI cZ cB cJ _ oM qW qM qK qJ qG qH qP cd pl w2 mn b c9 j f9 v2 hb7 hc7 hbc hNc2 (by omega) (by omega) (fun q hq => by have := hfw q hq; unfold pm_w at this ⊢; rw [hsm]; exact this)) kw_781 cal_M_takes inst_M_takes sel_M_takes ⟨by decide, by decide⟩ ⟨rfl, rfl⟩ 0 rfl rfl rfl rfl hl.1 (Nat.le_of_ble_eq_true rfl) d_M_divideBy_281 ⟨Nat.zero_le _, Nat.zero_le _⟩) rfl rfl rfl (by decide) (fun r_281 u_281 H locs hw hP hD hS => ?_)
                        obtain ⟨r9, w3⟩ := u_281
                        obtain ⟨rfl, htt, htf, htr⟩ := hw
                        have hP : va_P D pn_cl [(oM, .inr (5, [.int (nI cd), .ref qW, .ref qM, .ref qK, .ref qJ, .ref qG, .ref qH, .ref qP, .int (nI pl)])), (qW, .inl (cI, 22400, .inl (fun z9 => nI (w3 z9)))), (qM, .inl (cI, 7, .inl (fun z9 => nI (mn z9))))] H := hP
                        have hD : va_D A [(oM, .inr (5, [.int (nI cd), .ref qW, .ref qM, .ref qK, .ref qJ, .ref qG, .ref qH, .ref qP, .int (nI pl)])), (qW, .inl (cI, 22400, .inl (fun z9 => nI (w3 z9)))), (qM, .inl (cI, 7, .inl (fun z9 => nI (mn z9))))] := hD
                        dsimp only at htt htf htr
                        have hXe : pm_V (pm_w w2 b j) (mn c9 + 1) = pm_V (pm_w w1 b j) (mn c9 + 1) := pm_V_congr (fun i _ => by unfold pm_w; exact hsm _)
                        rw [hXe] at htt htf
                        refine pw_ifb_ne (tgt := 293) hx hb d_M_divideBy_284 (by decide) (fun h_284 => ?_) (fun h_284 => ?_)
                        · skip
                          obtain ⟨ht1, ht2, ht3, ht4⟩ := htt h_284
                          have hfq : f9 = pm_V (pm_w w1 b j) (mn c9 + 1) / v2 := Nat.le_antisymm ((Nat.le_div_iff_mul_le hv20).mpr ht1) hqf9
                          have hmod : pm_V (pm_w w1 b j) (mn c9 + 1) - f9 * v2 = pm_V (pm_w w1 b j) (mn c9 + 1) % v2 := by have := Nat.mod_add_div (pm_V (pm_w w1 b j) (mn c9 + 1)) v2; rw [hfq, Nat.mul_comm]; omega
                          rw [hmod] at ht2
                          obtain ⟨w4, hw4⟩ : ∃ q, q = pn_up w3 (3200 * t9 + j) f9 := ⟨_, rfl⟩
                          have h4b : ∀ i, i < 3200 → pm_at w4 b i = pm_at w3 b i := fun i hi => by rw [hw4]; exact pm_at_ne (Ne.symm htb) (by omega) hi
                          have h4t : pm_at w4 t9 = pn_up (pm_at w3 t9) j f9 := by rw [hw4]; exact pm_at_up _ _ _ _
                          have hF3 : pm_fr2 t9 b wk w4 := fun c8 i h1 h2 hi => by rw [hw4, pm_at_ne h1 (by omega) hi, htr c8 i h2 hi, hF2 c8 i h2 hi]; exact hF c8 i h1 h2 hi
                          have hw3t : ∀ i, i < 3200 → pm_at w3 t9 i = pm_at w1 t9 i := fun i hi => by rw [htr t9 i htb hi, hF2 t9 i htb hi]
                          have hfb3 : pm_fig (pm_at w4 b) (mn b + 1) := fun i hi => by rw [h4b i (by omega)]; by_cases y : i < j ∨ j + mn c9 < i; (· rw [ht4 i y, hsm i]; exact hfb i hi); (· have := ht3 (i - j) (by omega); unfold pm_w at this; rw [show j + (i - j) = i by omega] at this; exact this)
                          have hft3 : ∀ i, j ≤ i → i < mn b - mn c9 + 1 → pm_at w4 t9 i < 10000 := fun i h1 h2 => by rw [h4t]; by_cases y : i = j; (· subst y; rw [pn_up_s]; omega); (· rw [pn_up_n y, hw3t i (by omega)]; exact hft i (by omega) h2)
                          have hVj : pm_V (pm_at w4 b) j = pm_V (pm_at w1 b) j := pm_V_congr (fun i hi => by rw [h4b i (by omega), ht4 i (Or.inl hi), hsm i])
                          have hVw : pm_V (pm_w w4 b j) (mn c9) = pm_V (pm_w w1 b j) (mn c9 + 1) % v2 := by rw [← ht2, ← pm_dv_top (f := pm_w w3 b j) (by rw [ht2]; exact Nat.mod_lt _ hv20) hv2n]; exact pm_V_congr (fun i hi => h4b _ (by omega))
                          have hVn : pm_V (pm_at w4 b) (mn c9 + j) = pm_V (pm_at w1 b) j + 10000 ^ j * (pm_V (pm_w w1 b j) (mn c9 + 1) % v2) := by rw [Nat.add_comm, pm_V_add, hVj]; exact congrArg (fun q => pm_V (pm_at w1 b) j + 10000 ^ j * q) hVw
                          have hR3 : pm_V (pm_at w4 b) (mn c9 + j) < v2 * 10000 ^ j := by rw [hVn]; exact pm_dv_low (pm_V_lt (fun i hi => hfb i (by omega))) hv20
                          have hcg : pm_V (fun i => pm_at w4 t9 (j + (i + 1))) (mn b - mn c9 + 1 - (j + 1)) = pm_V (fun i => pm_at w1 t9 (j + 1 + i)) (mn b - mn c9 + 1 - (j + 1)) := pm_V_congr (fun i hi => by show pm_at w4 t9 (j + (i + 1)) = pm_at w1 t9 (j + 1 + i); rw [h4t, pn_up_n (by omega), show j + (i + 1) = j + 1 + i by omega]; exact hw3t _ (by omega))
                          have hhd : pm_V (fun i => pm_at w4 t9 (j + i)) (mn b - mn c9 + 1 - (j + 1) + 1) = f9 + 10000 * pm_V (fun i => pm_at w1 t9 (j + 1 + i)) (mn b - mn c9 + 1 - (j + 1)) := by rw [pm_V_head]; show pm_at w4 t9 (j + 0) + 10000 * pm_V (fun i => pm_at w4 t9 (j + (i + 1))) (mn b - mn c9 + 1 - (j + 1)) = _; rw [hcg, h4t, Nat.add_zero, pn_up_s]
                          have hQ3 : v = pm_V (pm_at w4 b) (mn c9 + j) + v2 * (10000 ^ j * pm_V (fun i => pm_at w4 t9 (j + i)) (mn b - mn c9 + 1 - j)) := by rw [hVn, show mn b - mn c9 + 1 - j = (mn b - mn c9 + 1 - (j + 1)) + 1 by omega, hhd, hfq]; exact pm_dv_eq hQX
                          refine lv_aload_n hx hb d_M_divideBy_293 rfl (lv_at hl 5 rfl) ?_
                          refine pw_get Fx hK hP fld_M 0 rfl 1 (by decide) kw_631 (v := .ref qW) rfl d_M_divideBy_294 ?_
                          refine lv_sipush (v := nI 3200) hx hb d_M_divideBy_297 (by decide) ?_
                          refine lv_iload_n hx hb d_M_divideBy_300 rfl (lv_at hl 6 rfl) ?_
                          refine pw_imul hx hb d_M_divideBy_301 ?_
                          refine lv_iload hx hb d_M_divideBy_302 (lv_at hl 1 rfl) ?_
                          refine pw_iadd hx hb d_M_divideBy_304 ?_
                          refine lv_iload hx hb d_M_divideBy_305 (lv_at hl 0 rfl) ?_
                          refine pw_iastN Fx hK hP hD hS 1 0 (g := w3) rfl rfl (k := 3200 * t9 + j) (by omega) (by decide) (w' := [(oM, .inr (5, [.int (nI cd), .ref qW, .ref qM, .ref qK, .ref qJ, .ref qG, .ref qH, .ref qP, .int (nI pl)])), (qW, .inl (cI, 22400, .inl (fun z9 => nI ((pn_up w3 (3200 * t9 + j) f9) z9)))), (qM, .inl (cI, 7, .inl (fun z9 => nI (mn z9))))]) rfl d_M_divideBy_307 (fun H locs hP hD hS => ?_)
                          rw [← hw4] at hP hD
                          refine lv_iinc (v := pn_I ((j : Int) - 1)) (lv' := [(8, .int (pn_I ((j : Int) - 1))), (11, .int (nI f9)), (6, .long (pn_L ((L9 : Nat) : Int))), (4, .int (nI (mn c9))), (5, .int (nI (mn b))), (0, .ref oM), (1, .int (nI t9)), (2, .int (nI b)), (3, .int (nI c9))]) hx hb d_M_divideBy_308 hl (k := 1) rfl (pn_dec' _) (by decide) rfl (fun ls hl => ?_)
                          refine lv_goto (tgt := 132) hx hb d_M_divideBy_311 (by decide) ?_
                          exact ih132 j _ (by omega) (by omega) hF3 hfb3 hft3 hR3 hQ3 _ _ _ (lv_sub hl [0, 2, 3, 4, 5, 6, 7, 8] rfl) hP hD hS
                        · skip
                          obtain ⟨ht1, ht2⟩ := htf h_284
                          have hlt9 : pm_V (pm_w w1 b j) (mn c9 + 1) / v2 < f9 := (Nat.div_lt_iff_lt_mul hv20).mpr ht1
                          have hf1 : 1 ≤ f9 := Nat.lt_of_le_of_lt (Nat.zero_le _) hlt9
                          refine lv_iinc (v := nI (f9 - 1)) (lv' := [(11, .int (nI (f9 - 1))), (8, .int (nI j)), (6, .long (pn_L ((L9 : Nat) : Int))), (4, .int (nI (mn c9))), (5, .int (nI (mn b))), (0, .ref oM), (1, .int (nI t9)), (2, .int (nI b)), (3, .int (nI c9))]) hx hb d_M_divideBy_287 hl (k := 0) rfl (sb_m1 (by omega)) (by decide) rfl (fun ls hl => ?_)
                          refine lv_goto (tgt := 274) hx hb d_M_divideBy_290 (by decide) ?_
                          exact ih274 (f9 - 1) w3 (by omega) (by omega) (by omega) (fun q => by rw [ht2 q]; exact hsm q) (fun c8 i h1 hi => by rw [htr c8 i h1 hi]; exact hF2 c8 i h1 hi) _ _ _ hl hP hD hS
                    exact loop274 _ 9999 w1 (Nat.lt_succ_self _) (by omega) (by omega) (fun _ => rfl) pm_fr_refl _ _ _ (lv_sub hl [0, 2, 3, 4, 5, 6, 7, 8, 9] rfl) hP hD hS
                · skip
                  exact absurd h_219 (by omega)
              · skip
                exact absurd h_185 (by omega)
        exact loop132 _ (mn b - mn c9 + 1) w0 (Nat.lt_succ_self _) (Nat.le_refl _) (fun c8 i h1 h2 hi => hF0 c8 i h2 hi) hfb0 (fun i h1 h2 => by omega) (by rw [show mn c9 + (mn b - mn c9 + 1) = mn b + 1 by omega, hV0]; exact pm_dv_start (by omega) (pm_N_lt hN1) hlow (by omega)) (by rw [show mn c9 + (mn b - mn c9 + 1) = mn b + 1 by omega, hV0, Nat.sub_self, pm_V_0, Nat.mul_zero, Nat.mul_zero, Nat.add_zero]) _ _ _ (lv_sub hl [0, 1, 3, 2, 4, 5, 6, 7] rfl) hP hD hS
      · skip
        exact absurd h_99 (by omega)
    · skip
      have g2 := m2 (mn c9 - 2) (by omega)
      refine lv_aload_n hx hb d_M_divideBy_71 rfl (lv_at hl 2 rfl) ?_
      refine pw_get Fx hK hP fld_M 0 rfl 1 (by decide) kw_631 (v := .ref qW) rfl d_M_divideBy_72 ?_
      refine lv_sipush (v := nI 3200) hx hb d_M_divideBy_75 (by decide) ?_
      refine lv_iload_n hx hb d_M_divideBy_78 rfl (lv_at hl 5 rfl) ?_
      refine pw_imul hx hb d_M_divideBy_79 ?_
      refine lv_iload hx hb d_M_divideBy_80 (lv_at hl 1 rfl) ?_
      refine pw_iadd hx hb d_M_divideBy_82 ?_
      refine lv_iconst (v := nI 2) hx hb d_M_divideBy_83 (by decide) ?_
      refine pw_isub hx hb d_M_divideBy_84 (by omega) ?_
      refine pw_iald Fx hK hP 1 0 (f := fun z9 => nI (w0 z9)) rfl rfl (k := 3200 * c9 + (mn c9) - 2) (by omega) (by decide) d_M_divideBy_85 ?_
      refine pn_topi (nI (w0 (3200 * c9 + (mn c9) - 2))) rfl ?_
      refine pn_topi (nI (pm_at wk c9 (mn c9 - 2))) (congrArg nI (by rw [show 3200 * c9 + mn c9 - 2 = 3200 * c9 + (mn c9 - 2) by omega]; exact hF0 c9 _ (Ne.symm hbc) (by omega))) ?_
      refine pw_i2lN hx hb d_M_divideBy_86 (by omega) ?_
      refine lv_ldc2 hx hb Fx.2.2.2.1 (Fx.2.2.2.2 _ kw_677) d_M_divideBy_87 ?_
      refine pn_topl (pn_L (10000)) (by decide) ?_
      refine pw_lmul hx hb d_M_divideBy_90 ?_
      refine lv_goto (tgt := 95) hx hb d_M_divideBy_91 (by decide) ?_
      refine pw_ladd hx hb d_M_divideBy_95 ?_
      refine lv_iload hx hb d_M_divideBy_96 (lv_at hl 1 rfl) ?_
      refine lv_iconst (v := nI 2) hx hb d_M_divideBy_98 (by decide) ?_
      refine pw_icmp_le (a := mn c9) (b := 2) (tgt := 121) hx hb d_M_divideBy_99 (by decide) (by omega) (by omega) (fun h_99 => ?_) (fun h_99 => ?_)
      · skip
        obtain ⟨L9, hL9⟩ : ∃ q, q = pm_at wk c9 (mn c9 - 1) * 100000000 + pm_at wk c9 (mn c9 - 2) * 10000 := ⟨_, rfl⟩
        have hLM : L9 * 1 ≤ v2 * 10000 := by have e1 : mn c9 = 2 := (by omega); rw [← m4, hL9, e1, pm_V_s, pm_V_s, pm_V_0, Nat.pow_zero]; simp only [Nat.reduceSub]; omega
        have hLb : 100000000 ≤ L9 ∧ L9 < 1000000000000 := by omega
        refine lv_lconst (v := pn_L 0) hx hb d_M_divideBy_121 (by decide) ?_
        refine pw_ladd hx hb d_M_divideBy_122 ?_
        refine pn_topl (pn_L ((L9 : Nat) : Int)) (congrArg pn_L (by omega)) ?_
        refine lv_lstore (lv' := [(6, .long (pn_L ((L9 : Nat) : Int))), (5, .int (nI (mn b))), (4, .int (nI (mn c9))), (0, .ref oM), (1, .int (nI t9)), (2, .int (nI b)), (3, .int (nI c9))]) hx hb d_M_divideBy_123 hl (by decide) rfl (fun ls hl => ?_)
        refine lv_iload hx hb d_M_divideBy_125 (lv_at hl 1 rfl) ?_
        refine lv_iload hx hb d_M_divideBy_127 (lv_at hl 2 rfl) ?_
        refine lv_isub hx hb d_M_divideBy_129 ?_
        refine pn_topi (pn_I (((mn b - mn c9 + 1 : Nat) : Int) - 1)) (by rw [pk_sub (by omega), ← pn_I_nI]; exact congrArg pn_I (by omega)) ?_
        refine lv_istore (lv' := [(8, .int (pn_I (((mn b - mn c9 + 1 : Nat) : Int) - 1))), (6, .long (pn_L ((L9 : Nat) : Int))), (5, .int (nI (mn b))), (4, .int (nI (mn c9))), (0, .ref oM), (1, .int (nI t9)), (2, .int (nI b)), (3, .int (nI c9))]) hx hb d_M_divideBy_130 hl (by decide) rfl (fun ls hl => ?_)
        have loop132 : ∀ (N : Nat) (kk : Nat) (w1 : Nat → Nat), kk < N → (kk ≤ mn b - mn c9 + 1) → (pm_fr2 t9 b wk w1) → (pm_fig (pm_at w1 b) (mn b + 1)) → (∀ i, kk ≤ i → i < mn b - mn c9 + 1 → pm_at w1 t9 i < 10000) → (pm_V (pm_at w1 b) (mn c9 + kk) < v2 * 10000 ^ kk) → (v = pm_V (pm_at w1 b) (mn c9 + kk) + v2 * (10000 ^ kk * pm_V (fun i => pm_at w1 t9 (kk + i)) (mn b - mn c9 + 1 - kk))) → ∀ (H : Heap) (locs : List Loc) (ls : Array Slot), lv_has ls 12 [(8, .int (pn_I ((kk : Int) - 1))), (6, .long (pn_L ((L9 : Nat) : Int))), (4, .int (nI (mn c9))), (5, .int (nI (mn b))), (0, .ref oM), (1, .int (nI t9)), (2, .int (nI b)), (3, .int (nI c9))] → va_P D pn_cl [(oM, .inr (5, [.int (nI cd), .ref qW, .ref qM, .ref qK, .ref qJ, .ref qG, .ref qH, .ref qP, .int (nI pl)])), (qW, .inl (cI, 22400, .inl (fun z9 => nI (w1 z9)))), (qM, .inl (cI, 7, .inl (fun z9 => nI (mn z9))))] H → va_D A [(oM, .inr (5, [.int (nI cd), .ref qW, .ref qM, .ref qK, .ref qJ, .ref qG, .ref qH, .ref qP, .int (nI pl)])), (qW, .inl (cI, 22400, .inl (fun z9 => nI (w1 z9)))), (qM, .inl (cI, 7, .inl (fun z9 => nI (mn z9))))] → va_S A s.heap H locs → W p l e ({ frames := 1, cells := 0, slots := 0, locals := 50 } : Room) s m ([.ref oM, .int (nI t9), .int (nI b), .int (nI c9)] : List Value).toArray below meth c H locs 0 0 Q (F0 m 132 ls []) := by
          intro N
          induction N with
          | zero => intro kk w1 hM; exact absurd hM (Nat.not_lt_zero _)
          | succ N ih132 =>
            intro kk w1 hM132 hkk hF hfb hft hR hQ9 H locs ls hl hP hD hS
            refine lv_iload hx hb d_M_divideBy_132 (lv_at hl 0 rfl) ?_
            refine lv_if_lt (tgt := 314) hx hb d_M_divideBy_134 (by decide) (fun h_134 => ?_) (fun h_134 => ?_)
            · skip
              have hk0 := pn_dec_0 (by omega) h_134
              subst hk0
              rw [Nat.pow_zero, Nat.mul_one] at hR
              have hfin := pm_dv_fin (v := v) (r := pm_V (pm_at w1 b) (mn c9)) (Q := pm_V (pm_at w1 t9) (mn b - mn c9 + 1)) (by rw [Nat.pow_zero, Nat.one_mul, Nat.sub_zero, pm_V_congr (f := fun i => pm_at w1 t9 (0 + i)) (g := pm_at w1 t9) (fun i _ => by rw [Nat.zero_add])] at hQ9; exact hQ9) hR
              refine lv_aload_n hx hb d_M_divideBy_314 rfl (lv_at hl 4 rfl) ?_
              refine lv_iload_n hx hb d_M_divideBy_315 rfl (lv_at hl 5 rfl) ?_
              refine lv_iload hx hb d_M_divideBy_316 (lv_at hl 3 rfl) ?_
              refine lv_iload hx hb d_M_divideBy_318 (lv_at hl 2 rfl) ?_
              refine pw_isub hx hb d_M_divideBy_320 (by omega) ?_
              refine lv_iconst (v := nI 1) hx hb d_M_divideBy_321 (by decide) ?_
              refine pw_iadd hx hb d_M_divideBy_322 ?_
              refine pn_bv (wr := []) [0, 1, 2] [] hP hD hS hA (pn_rV [.int (nI t9), .int (nI (mn b - (mn c9) + 1))] [] Fx hK hN hP hD [0, 1, 2] rfl rfl (c_M_trim l D cI cZ cB cJ _ oM qW qM qK qJ qG qH qP cd pl w1 mn t9 (mn b - mn c9 + 1) ht7 (by omega) (fun i hi => hft i (Nat.zero_le _) hi)) kw_695 cal_M_trim inst_M_trim sel_M_trim ⟨by decide, by decide⟩ ⟨rfl, rfl⟩ 0 rfl rfl rfl rfl hl.1 (Nat.le_of_ble_eq_true rfl) d_M_divideBy_323 ⟨Nat.zero_le _, Nat.zero_le _⟩) rfl rfl rfl (by decide) (fun u_323 H locs hw hP hD hS => ?_)
              obtain ⟨a1, a2, a3⟩ := hw
              have hP : va_P D pn_cl [(oM, .inr (5, [.int (nI cd), .ref qW, .ref qM, .ref qK, .ref qJ, .ref qG, .ref qH, .ref qP, .int (nI pl)])), (qW, .inl (cI, 22400, .inl (fun z9 => nI (w1 z9)))), (qM, .inl (cI, 7, .inl (fun z9 => nI ((pn_up mn t9 u_323) z9))))] H := hP
              have hD : va_D A [(oM, .inr (5, [.int (nI cd), .ref qW, .ref qM, .ref qK, .ref qJ, .ref qG, .ref qH, .ref qP, .int (nI pl)])), (qW, .inl (cI, 22400, .inl (fun z9 => nI (w1 z9)))), (qM, .inl (cI, 7, .inl (fun z9 => nI ((pn_up mn t9 u_323) z9))))] := hD
              refine lv_aload_n hx hb d_M_divideBy_326 rfl (lv_at hl 4 rfl) ?_
              refine lv_iload_n hx hb d_M_divideBy_327 rfl (lv_at hl 6 rfl) ?_
              refine lv_iload hx hb d_M_divideBy_328 (lv_at hl 2 rfl) ?_
              refine pn_bv (wr := []) [0, 1, 2] [] hP hD hS hA (pn_rV [.int (nI b), .int (nI (mn c9))] [] Fx hK hN hP hD [0, 1, 2] rfl rfl (c_M_trim l D cI cZ cB cJ _ oM qW qM qK qJ qG qH qP cd pl w1 (pn_up mn t9 u_323) b (mn c9) hb7 (by omega) (fun i hi => hfb i (by omega))) kw_695 cal_M_trim inst_M_trim sel_M_trim ⟨by decide, by decide⟩ ⟨rfl, rfl⟩ 0 rfl rfl rfl rfl hl.1 (Nat.le_of_ble_eq_true rfl) d_M_divideBy_330 ⟨Nat.zero_le _, Nat.zero_le _⟩) rfl rfl rfl (by decide) (fun u_330 H locs hw hP hD hS => ?_)
              obtain ⟨b1, b2, b3⟩ := hw
              have hP : va_P D pn_cl [(oM, .inr (5, [.int (nI cd), .ref qW, .ref qM, .ref qK, .ref qJ, .ref qG, .ref qH, .ref qP, .int (nI pl)])), (qW, .inl (cI, 22400, .inl (fun z9 => nI (w1 z9)))), (qM, .inl (cI, 7, .inl (fun z9 => nI ((pn_up (pn_up mn t9 u_323) b u_330) z9))))] H := hP
              have hD : va_D A [(oM, .inr (5, [.int (nI cd), .ref qW, .ref qM, .ref qK, .ref qJ, .ref qG, .ref qH, .ref qP, .int (nI pl)])), (qW, .inl (cI, 22400, .inl (fun z9 => nI (w1 z9)))), (qM, .inl (cI, 7, .inl (fun z9 => nI ((pn_up (pn_up mn t9 u_323) b u_330) z9))))] := hD
              exact pn_retv ((w1, pn_up (pn_up mn t9 u_323) b u_330)) Fx hr hlocks hQ hAe hP hD hS (by (try dsimp only); first | done | exact (⟨pm_N_congr (mn := pn_up mn t9 u_323) (pm_N_of (n := mn b - mn c9 + 1) (by omega) (fun i hi => hft i (Nat.zero_le _) hi) a1 a2 a3 hfin.1) (pn_up_n htb) (fun _ _ => rfl), pm_N_of (n := mn c9) (by omega) (fun i hi => hfb i (by omega)) b1 b2 b3 hfin.2, fun c8 x h1 h2 h3 => pm_N_congr h3 (by rw [pn_up_n h2, pn_up_n h1]) (fun i hi => hF c8 i h1 h2 (by have := h3.1; omega))⟩)) d_M_divideBy_333
            · skip
              obtain ⟨j, rfl⟩ := pn_dec_s h_134
              rw [pn_dec_n] at hl
              have hNx : mn c9 + (j + 1) = j + (mn c9 + 1) := by omega
              rw [hNx, pm_V_add, pm_P_s] at hR hQ9
              have hq9 := pm_dv_x (pm_P j) hR
              have hQX : v = pm_V (pm_at w1 b) j + 10000 ^ j * pm_V (pm_w w1 b j) (mn c9 + 1) + v2 * (10000 ^ j * 10000 * pm_V (fun i => pm_at w1 t9 (j + 1 + i)) (mn b - mn c9 + 1 - (j + 1))) := hQ9
              have hq9 : pm_V (pm_w w1 b j) (mn c9 + 1) / v2 < 10000 := hq9
              have hfw : pm_fig (pm_w w1 b j) (mn c9 + 1) := fun i hi => hfb (j + i) (by omega)
              have ww0 : pm_w w1 b j (mn c9) = w1 (3200 * b + j + mn c9) := congrArg w1 (by omega)
              have fw0 := hfw (mn c9) (by omega)
              rw [ww0] at fw0
              have ww1 : pm_w w1 b j (mn c9 - 1) = w1 (3200 * b + j + mn c9 - 1) := congrArg w1 (by omega)
              have fw1 := hfw (mn c9 - 1) (by omega)
              rw [ww1] at fw1
              have ww2 : pm_w w1 b j (mn c9 - 2) = w1 (3200 * b + j + mn c9 - 2) := congrArg w1 (by omega)
              have fw2 := hfw (mn c9 - 2) (by omega)
              rw [ww2] at fw2
              refine lv_aload_n hx hb d_M_divideBy_137 rfl (lv_at hl 4 rfl) ?_
              refine pw_get Fx hK hP fld_M 0 rfl 1 (by decide) kw_631 (v := .ref qW) rfl d_M_divideBy_138 ?_
              refine lv_sipush (v := nI 3200) hx hb d_M_divideBy_141 (by decide) ?_
              refine lv_iload_n hx hb d_M_divideBy_144 rfl (lv_at hl 6 rfl) ?_
              refine pw_imul hx hb d_M_divideBy_145 ?_
              refine lv_iload hx hb d_M_divideBy_146 (lv_at hl 0 rfl) ?_
              refine pw_iadd hx hb d_M_divideBy_148 ?_
              refine lv_iload hx hb d_M_divideBy_149 (lv_at hl 2 rfl) ?_
              refine pw_iadd hx hb d_M_divideBy_151 ?_
              refine pw_iald Fx hK hP 1 0 (f := fun z9 => nI (w1 z9)) rfl rfl (k := 3200 * b + j + (mn c9)) (by omega) (by decide) d_M_divideBy_152 ?_
              refine pn_topi (nI (w1 (3200 * b + j + (mn c9)))) rfl ?_
              refine pw_i2lN hx hb d_M_divideBy_153 (by omega) ?_
              refine lv_ldc2 hx hb Fx.2.2.2.1 (Fx.2.2.2.2 _ kw_780) d_M_divideBy_154 ?_
              refine pn_topl (pn_L (1000000000000)) (by decide) ?_
              refine pw_lmul hx hb d_M_divideBy_157 ?_
              refine lv_aload_n hx hb d_M_divideBy_158 rfl (lv_at hl 4 rfl) ?_
              refine pw_get Fx hK hP fld_M 0 rfl 1 (by decide) kw_631 (v := .ref qW) rfl d_M_divideBy_159 ?_
              refine lv_sipush (v := nI 3200) hx hb d_M_divideBy_162 (by decide) ?_
              refine lv_iload_n hx hb d_M_divideBy_165 rfl (lv_at hl 6 rfl) ?_
              refine pw_imul hx hb d_M_divideBy_166 ?_
              refine lv_iload hx hb d_M_divideBy_167 (lv_at hl 0 rfl) ?_
              refine pw_iadd hx hb d_M_divideBy_169 ?_
              refine lv_iload hx hb d_M_divideBy_170 (lv_at hl 2 rfl) ?_
              refine pw_iadd hx hb d_M_divideBy_172 ?_
              refine lv_iconst (v := nI 1) hx hb d_M_divideBy_173 (by decide) ?_
              refine pw_isub hx hb d_M_divideBy_174 (by omega) ?_
              refine pw_iald Fx hK hP 1 0 (f := fun z9 => nI (w1 z9)) rfl rfl (k := 3200 * b + j + (mn c9) - 1) (by omega) (by decide) d_M_divideBy_175 ?_
              refine pn_topi (nI (w1 (3200 * b + j + (mn c9) - 1))) rfl ?_
              refine pw_i2lN hx hb d_M_divideBy_176 (by omega) ?_
              refine lv_ldc2 hx hb Fx.2.2.2.1 (Fx.2.2.2.2 _ kw_779) d_M_divideBy_177 ?_
              refine pn_topl (pn_L (100000000)) (by decide) ?_
              refine pw_lmul hx hb d_M_divideBy_180 ?_
              refine pw_ladd hx hb d_M_divideBy_181 ?_
              refine lv_iload hx hb d_M_divideBy_182 (lv_at hl 2 rfl) ?_
              refine lv_iconst (v := nI 1) hx hb d_M_divideBy_184 (by decide) ?_
              refine pw_icmp_le (a := mn c9) (b := 1) (tgt := 214) hx hb d_M_divideBy_185 (by decide) (by omega) (by omega) (fun h_185 => ?_) (fun h_185 => ?_)
              · skip
                exact absurd h_185 (by omega)
              · skip
                refine lv_aload_n hx hb d_M_divideBy_188 rfl (lv_at hl 4 rfl) ?_
                refine pw_get Fx hK hP fld_M 0 rfl 1 (by decide) kw_631 (v := .ref qW) rfl d_M_divideBy_189 ?_
                refine lv_sipush (v := nI 3200) hx hb d_M_divideBy_192 (by decide) ?_
                refine lv_iload_n hx hb d_M_divideBy_195 rfl (lv_at hl 6 rfl) ?_
                refine pw_imul hx hb d_M_divideBy_196 ?_
                refine lv_iload hx hb d_M_divideBy_197 (lv_at hl 0 rfl) ?_
                refine pw_iadd hx hb d_M_divideBy_199 ?_
                refine lv_iload hx hb d_M_divideBy_200 (lv_at hl 2 rfl) ?_
                refine pw_iadd hx hb d_M_divideBy_202 ?_
                refine lv_iconst (v := nI 2) hx hb d_M_divideBy_203 (by decide) ?_
                refine pw_isub hx hb d_M_divideBy_204 (by omega) ?_
                refine pw_iald Fx hK hP 1 0 (f := fun z9 => nI (w1 z9)) rfl rfl (k := 3200 * b + j + (mn c9) - 2) (by omega) (by decide) d_M_divideBy_205 ?_
                refine pn_topi (nI (w1 (3200 * b + j + (mn c9) - 2))) rfl ?_
                refine pw_i2lN hx hb d_M_divideBy_206 (by omega) ?_
                refine lv_ldc2 hx hb Fx.2.2.2.1 (Fx.2.2.2.2 _ kw_677) d_M_divideBy_207 ?_
                refine pn_topl (pn_L (10000)) (by decide) ?_
                refine pw_lmul hx hb d_M_divideBy_210 ?_
                refine lv_goto (tgt := 215) hx hb d_M_divideBy_211 (by decide) ?_
                refine pw_ladd hx hb d_M_divideBy_215 ?_
                refine lv_iload hx hb d_M_divideBy_216 (lv_at hl 2 rfl) ?_
                refine lv_iconst (v := nI 2) hx hb d_M_divideBy_218 (by decide) ?_
                refine pw_icmp_le (a := mn c9) (b := 2) (tgt := 244) hx hb d_M_divideBy_219 (by decide) (by omega) (by omega) (fun h_219 => ?_) (fun h_219 => ?_)
                · skip
                  obtain ⟨H9, hH9⟩ : ∃ q, q = w1 (3200 * b + j + mn c9) * 1000000000000 + w1 (3200 * b + j + mn c9 - 1) * 100000000 + w1 (3200 * b + j + mn c9 - 2) * 10000 := ⟨_, rfl⟩
                  have hHM : (pm_V (pm_w w1 b j) (mn c9 + 1)) * 10000 < (H9 + 1) * 1 := by have e1 : mn c9 = 2 := (by omega); rw [hH9, ← ww0, ← ww1, ← ww2, e1, pm_V_s, pm_V_s, pm_V_s, pm_V_0, Nat.pow_zero]; simp only [Nat.reduceSub]; omega
                  have hqf := pm_est (by omega) hLM hHM
                  have hHb : H9 < 10000000000000000 := by omega
                  have hHL : H9 / L9 < 100000000 := Nat.div_lt_of_lt_mul (Nat.lt_of_lt_of_le hHb (Nat.le_trans (by decide : 10000000000000000 ≤ 100000000 * 100000000) (Nat.mul_le_mul_right _ hLb.1)))
                  refine lv_lconst (v := pn_L 0) hx hb d_M_divideBy_244 (by decide) ?_
                  refine pw_ladd hx hb d_M_divideBy_245 ?_
                  refine pn_topl (pn_L ((H9 : Nat) : Int)) (congrArg pn_L (by omega)) ?_
                  refine lv_lstore (lv' := [(9, .long (pn_L ((H9 : Nat) : Int))), (8, .int (nI j)), (6, .long (pn_L ((L9 : Nat) : Int))), (4, .int (nI (mn c9))), (5, .int (nI (mn b))), (0, .ref oM), (1, .int (nI t9)), (2, .int (nI b)), (3, .int (nI c9))]) hx hb d_M_divideBy_246 hl (by decide) rfl (fun ls hl => ?_)
                  refine lv_lload hx hb d_M_divideBy_248 (lv_at hl 0 rfl) ?_
                  refine lv_lload hx hb d_M_divideBy_250 (lv_at hl 2 rfl) ?_
                  refine pw_ldiv hx hb d_M_divideBy_252 (by omega) (by omega) (by omega) (by omega) ?_
                  refine pw_l2i hx hb d_M_divideBy_253 ?_
                  refine pn_topi (nI (H9 / L9)) (by rw [← pn_I_nI]; rfl) ?_
                  refine lv_istore (lv' := [(11, .int (nI (H9 / L9))), (9, .long (pn_L ((H9 : Nat) : Int))), (8, .int (nI j)), (6, .long (pn_L ((L9 : Nat) : Int))), (4, .int (nI (mn c9))), (5, .int (nI (mn b))), (0, .ref oM), (1, .int (nI t9)), (2, .int (nI b)), (3, .int (nI c9))]) hx hb d_M_divideBy_254 hl (by decide) rfl (fun ls hl => ?_)
                  refine lv_iload hx hb d_M_divideBy_256 (lv_at hl 0 rfl) ?_
                  refine lv_sipush (v := nI 10000) hx hb d_M_divideBy_258 (by decide) ?_
                  refine pw_icmp_lt (a := H9 / L9) (b := 10000) (tgt := 270) hx hb d_M_divideBy_261 (by decide) (by omega) (by omega) (fun h_261 => ?_) (fun h_261 => ?_)
                  · skip
                    refine lv_iload hx hb d_M_divideBy_270 (lv_at hl 0 rfl) ?_
                    refine lv_istore (lv' := [(11, .int (nI (H9 / L9))), (9, .long (pn_L ((H9 : Nat) : Int))), (8, .int (nI j)), (6, .long (pn_L ((L9 : Nat) : Int))), (4, .int (nI (mn c9))), (5, .int (nI (mn b))), (0, .ref oM), (1, .int (nI t9)), (2, .int (nI b)), (3, .int (nI c9))]) hx hb d_M_divideBy_272 hl (by decide) rfl (fun ls hl => ?_)
                    have loop274 : ∀ (N : Nat) (f9 : Nat) (w2 : Nat → Nat), f9 < N → (pm_V (pm_w w1 b j) (mn c9 + 1) / v2 ≤ f9) → (f9 ≤ 9999) → (∀ q, pm_at w2 b q = pm_at w1 b q) → (pm_fr b w1 w2) → ∀ (H : Heap) (locs : List Loc) (ls : Array Slot), lv_has ls 12 [(11, .int (nI f9)), (8, .int (nI j)), (6, .long (pn_L ((L9 : Nat) : Int))), (4, .int (nI (mn c9))), (5, .int (nI (mn b))), (0, .ref oM), (1, .int (nI t9)), (2, .int (nI b)), (3, .int (nI c9))] → va_P D pn_cl [(oM, .inr (5, [.int (nI cd), .ref qW, .ref qM, .ref qK, .ref qJ, .ref qG, .ref qH, .ref qP, .int (nI pl)])), (qW, .inl (cI, 22400, .inl (fun z9 => nI (w2 z9)))), (qM, .inl (cI, 7, .inl (fun z9 => nI (mn z9))))] H → va_D A [(oM, .inr (5, [.int (nI cd), .ref qW, .ref qM, .ref qK, .ref qJ, .ref qG, .ref qH, .ref qP, .int (nI pl)])), (qW, .inl (cI, 22400, .inl (fun z9 => nI (w2 z9)))), (qM, .inl (cI, 7, .inl (fun z9 => nI (mn z9))))] → va_S A s.heap H locs → W p l e ({ frames := 1, cells := 0, slots := 0, locals := 50 } : Room) s m ([.ref oM, .int (nI t9), .int (nI b), .int (nI c9)] : List Value).toArray below meth c H locs 0 0 Q (F0 m 274 ls []) := by
                      intro N
                      induction N with
                      | zero => intro f9 w2 hM; exact absurd hM (Nat.not_lt_zero _)
                      | succ N ih274 =>
                        intro f9 w2 hM274 hqf9 hf9 hsm hF2 H locs ls hl hP hD hS
                        refine lv_aload_n hx hb d_M_divideBy_274 rfl (lv_at hl 5 rfl) ?_
                        refine lv_iload_n hx hb d_M_divideBy_275 rfl (lv_at hl 7 rfl) ?_
                        refine lv_iload_n hx hb d_M_divideBy_276 rfl (lv_at hl 8 rfl) ?_
                        refine lv_iload hx hb d_M_divideBy_277 (lv_at hl 1 rfl) ?_
                        refine lv_iload hx hb d_M_divideBy_279 (lv_at hl 0 rfl) ?_
                        have hNc2 : pm_N w2 mn c9 v2 := pm_N_congr hN2 rfl (fun i hi => by rw [hF2 c9 i (Ne.symm hbc) (by omega)]; exact hF c9 i (Ne.symm htc) (Ne.symm hbc) (by omega))
                        refine pn_bi (wr := []) [0, 1, 2] [] hP hD hS hA (pn_rV [.int (nI b), .int (nI c9), .int (nI j), .int (nI f9)] [] Fx hK hN hP hD [0, 1, 2] rfl rfl (c_M_takes l D cI cZ cB cJ _ oM qW qM qK qJ qG qH qP cd pl w2 mn b c9 j f9 v2 hb7 hc7 hbc hNc2 (by omega) (by omega) (fun q hq => by have := hfw q hq; unfold pm_w at this ⊢; rw [hsm]; exact this)) kw_781 cal_M_takes inst_M_takes sel_M_takes ⟨by decide, by decide⟩ ⟨rfl, rfl⟩ 0 rfl rfl rfl rfl hl.1 (Nat.le_of_ble_eq_true rfl) d_M_divideBy_281 ⟨Nat.zero_le _, Nat.zero_le _⟩) rfl rfl rfl (by decide) (fun r_281 u_281 H locs hw hP hD hS => ?_)
                        obtain ⟨r9, w3⟩ := u_281
                        obtain ⟨rfl, htt, htf, htr⟩ := hw
                        have hP : va_P D pn_cl [(oM, .inr (5, [.int (nI cd), .ref qW, .ref qM, .ref qK, .ref qJ, .ref qG, .ref qH, .ref qP, .int (nI pl)])), (qW, .inl (cI, 22400, .inl (fun z9 => nI (w3 z9)))), (qM, .inl (cI, 7, .inl (fun z9 => nI (mn z9))))] H := hP
                        have hD : va_D A [(oM, .inr (5, [.int (nI cd), .ref qW, .ref qM, .ref qK, .ref qJ, .ref qG, .ref qH, .ref qP, .int (nI pl)])), (qW, .inl (cI, 22400, .inl (fun z9 => nI (w3 z9)))), (qM, .inl (cI, 7, .inl (fun z9 => nI (mn z9))))] := hD
                        dsimp only at htt htf htr
                        have hXe : pm_V (pm_w w2 b j) (mn c9 + 1) = pm_V (pm_w w1 b j) (mn c9 + 1) := pm_V_congr (fun i _ => by unfold pm_w; exact hsm _)
                        rw [hXe] at htt htf
                        refine pw_ifb_ne (tgt := 293) hx hb d_M_divideBy_284 (by decide) (fun h_284 => ?_) (fun h_284 => ?_)
                        · skip
                          obtain ⟨ht1, ht2, ht3, ht4⟩ := htt h_284
                          have hfq : f9 = pm_V (pm_w w1 b j) (mn c9 + 1) / v2 := Nat.le_antisymm ((Nat.le_div_iff_mul_le hv20).mpr ht1) hqf9
                          have hmod : pm_V (pm_w w1 b j) (mn c9 + 1) - f9 * v2 = pm_V (pm_w w1 b j) (mn c9 + 1) % v2 := by have := Nat.mod_add_div (pm_V (pm_w w1 b j) (mn c9 + 1)) v2; rw [hfq, Nat.mul_comm]; omega
                          rw [hmod] at ht2
                          obtain ⟨w4, hw4⟩ : ∃ q, q = pn_up w3 (3200 * t9 + j) f9 := ⟨_, rfl⟩
                          have h4b : ∀ i, i < 3200 → pm_at w4 b i = pm_at w3 b i := fun i hi => by rw [hw4]; exact pm_at_ne (Ne.symm htb) (by omega) hi
                          have h4t : pm_at w4 t9 = pn_up (pm_at w3 t9) j f9 := by rw [hw4]; exact pm_at_up _ _ _ _
                          have hF3 : pm_fr2 t9 b wk w4 := fun c8 i h1 h2 hi => by rw [hw4, pm_at_ne h1 (by omega) hi, htr c8 i h2 hi, hF2 c8 i h2 hi]; exact hF c8 i h1 h2 hi
                          have hw3t : ∀ i, i < 3200 → pm_at w3 t9 i = pm_at w1 t9 i := fun i hi => by rw [htr t9 i htb hi, hF2 t9 i htb hi]
                          have hfb3 : pm_fig (pm_at w4 b) (mn b + 1) := fun i hi => by rw [h4b i (by omega)]; by_cases y : i < j ∨ j + mn c9 < i; (· rw [ht4 i y, hsm i]; exact hfb i hi); (· have := ht3 (i - j) (by omega); unfold pm_w at this; rw [show j + (i - j) = i by omega] at this; exact this)
                          have hft3 : ∀ i, j ≤ i → i < mn b - mn c9 + 1 → pm_at w4 t9 i < 10000 := fun i h1 h2 => by rw [h4t]; by_cases y : i = j; (· subst y; rw [pn_up_s]; omega); (· rw [pn_up_n y, hw3t i (by omega)]; exact hft i (by omega) h2)
                          have hVj : pm_V (pm_at w4 b) j = pm_V (pm_at w1 b) j := pm_V_congr (fun i hi => by rw [h4b i (by omega), ht4 i (Or.inl hi), hsm i])
                          have hVw : pm_V (pm_w w4 b j) (mn c9) = pm_V (pm_w w1 b j) (mn c9 + 1) % v2 := by rw [← ht2, ← pm_dv_top (f := pm_w w3 b j) (by rw [ht2]; exact Nat.mod_lt _ hv20) hv2n]; exact pm_V_congr (fun i hi => h4b _ (by omega))
                          have hVn : pm_V (pm_at w4 b) (mn c9 + j) = pm_V (pm_at w1 b) j + 10000 ^ j * (pm_V (pm_w w1 b j) (mn c9 + 1) % v2) := by rw [Nat.add_comm, pm_V_add, hVj]; exact congrArg (fun q => pm_V (pm_at w1 b) j + 10000 ^ j * q) hVw
                          have hR3 : pm_V (pm_at w4 b) (mn c9 + j) < v2 * 10000 ^ j := by rw [hVn]; exact pm_dv_low (pm_V_lt (fun i hi => hfb i (by omega))) hv20
                          have hcg : pm_V (fun i => pm_at w4 t9 (j + (i + 1))) (mn b - mn c9 + 1 - (j + 1)) = pm_V (fun i => pm_at w1 t9 (j + 1 + i)) (mn b - mn c9 + 1 - (j + 1)) := pm_V_congr (fun i hi => by show pm_at w4 t9 (j + (i + 1)) = pm_at w1 t9 (j + 1 + i); rw [h4t, pn_up_n (by omega), show j + (i + 1) = j + 1 + i by omega]; exact hw3t _ (by omega))
                          have hhd : pm_V (fun i => pm_at w4 t9 (j + i)) (mn b - mn c9 + 1 - (j + 1) + 1) = f9 + 10000 * pm_V (fun i => pm_at w1 t9 (j + 1 + i)) (mn b - mn c9 + 1 - (j + 1)) := by rw [pm_V_head]; show pm_at w4 t9 (j + 0) + 10000 * pm_V (fun i => pm_at w4 t9 (j + (i + 1))) (mn b - mn c9 + 1 - (j + 1)) = _; rw [hcg, h4t, Nat.add_zero, pn_up_s]
                          have hQ3 : v = pm_V (pm_at w4 b) (mn c9 + j) + v2 * (10000 ^ j * pm_V (fun i => pm_at w4 t9 (j + i)) (mn b - mn c9 + 1 - j)) := by rw [hVn, show mn b - mn c9 + 1 - j = (mn b - mn c9 + 1 - (j + 1)) + 1 by omega, hhd, hfq]; exact pm_dv_eq hQX
                          refine lv_aload_n hx hb d_M_divideBy_293 rfl (lv_at hl 5 rfl) ?_
                          refine pw_get Fx hK hP fld_M 0 rfl 1 (by decide) kw_631 (v := .ref qW) rfl d_M_divideBy_294 ?_
                          refine lv_sipush (v := nI 3200) hx hb d_M_divideBy_297 (by decide) ?_
                          refine lv_iload_n hx hb d_M_divideBy_300 rfl (lv_at hl 6 rfl) ?_
                          refine pw_imul hx hb d_M_divideBy_301 ?_
                          refine lv_iload hx hb d_M_divideBy_302 (lv_at hl 1 rfl) ?_
                          refine pw_iadd hx hb d_M_divideBy_304 ?_
                          refine lv_iload hx hb d_M_divideBy_305 (lv_at hl 0 rfl) ?_
                          refine pw_iastN Fx hK hP hD hS 1 0 (g := w3) rfl rfl (k := 3200 * t9 + j) (by omega) (by decide) (w' := [(oM, .inr (5, [.int (nI cd), .ref qW, .ref qM, .ref qK, .ref qJ, .ref qG, .ref qH, .ref qP, .int (nI pl)])), (qW, .inl (cI, 22400, .inl (fun z9 => nI ((pn_up w3 (3200 * t9 + j) f9) z9)))), (qM, .inl (cI, 7, .inl (fun z9 => nI (mn z9))))]) rfl d_M_divideBy_307 (fun H locs hP hD hS => ?_)
                          rw [← hw4] at hP hD
                          refine lv_iinc (v := pn_I ((j : Int) - 1)) (lv' := [(8, .int (pn_I ((j : Int) - 1))), (11, .int (nI f9)), (6, .long (pn_L ((L9 : Nat) : Int))), (4, .int (nI (mn c9))), (5, .int (nI (mn b))), (0, .ref oM), (1, .int (nI t9)), (2, .int (nI b)), (3, .int (nI c9))]) hx hb d_M_divideBy_308 hl (k := 1) rfl (pn_dec' _) (by decide) rfl (fun ls hl => ?_)
                          refine lv_goto (tgt := 132) hx hb d_M_divideBy_311 (by decide) ?_
                          exact ih132 j _ (by omega) (by omega) hF3 hfb3 hft3 hR3 hQ3 _ _ _ (lv_sub hl [0, 2, 3, 4, 5, 6, 7, 8] rfl) hP hD hS
                        · skip
                          obtain ⟨ht1, ht2⟩ := htf h_284
                          have hlt9 : pm_V (pm_w w1 b j) (mn c9 + 1) / v2 < f9 := (Nat.div_lt_iff_lt_mul hv20).mpr ht1
                          have hf1 : 1 ≤ f9 := Nat.lt_of_le_of_lt (Nat.zero_le _) hlt9
                          refine lv_iinc (v := nI (f9 - 1)) (lv' := [(11, .int (nI (f9 - 1))), (8, .int (nI j)), (6, .long (pn_L ((L9 : Nat) : Int))), (4, .int (nI (mn c9))), (5, .int (nI (mn b))), (0, .ref oM), (1, .int (nI t9)), (2, .int (nI b)), (3, .int (nI c9))]) hx hb d_M_divideBy_287 hl (k := 0) rfl (sb_m1 (by omega)) (by decide) rfl (fun ls hl => ?_)
                          refine lv_goto (tgt := 274) hx hb d_M_divideBy_290 (by decide) ?_
                          exact ih274 (f9 - 1) w3 (by omega) (by omega) (by omega) (fun q => by rw [ht2 q]; exact hsm q) (fun c8 i h1 hi => by rw [htr c8 i h1 hi]; exact hF2 c8 i h1 hi) _ _ _ hl hP hD hS
                    exact loop274 _ (H9 / L9) w1 (Nat.lt_succ_self _) (by omega) (by omega) (fun _ => rfl) pm_fr_refl _ _ _ (lv_sub hl [0, 2, 3, 4, 5, 6, 7, 8, 9] rfl) hP hD hS
                  · skip
                    refine lv_sipush (v := nI 9999) hx hb d_M_divideBy_264 (by decide) ?_
                    refine lv_goto (tgt := 272) hx hb d_M_divideBy_267 (by decide) ?_
                    refine lv_istore (lv' := [(11, .int (nI 9999)), (9, .long (pn_L ((H9 : Nat) : Int))), (8, .int (nI j)), (6, .long (pn_L ((L9 : Nat) : Int))), (4, .int (nI (mn c9))), (5, .int (nI (mn b))), (0, .ref oM), (1, .int (nI t9)), (2, .int (nI b)), (3, .int (nI c9))]) hx hb d_M_divideBy_272 hl (by decide) rfl (fun ls hl => ?_)
                    have loop274 : ∀ (N : Nat) (f9 : Nat) (w2 : Nat → Nat), f9 < N → (pm_V (pm_w w1 b j) (mn c9 + 1) / v2 ≤ f9) → (f9 ≤ 9999) → (∀ q, pm_at w2 b q = pm_at w1 b q) → (pm_fr b w1 w2) → ∀ (H : Heap) (locs : List Loc) (ls : Array Slot), lv_has ls 12 [(11, .int (nI f9)), (8, .int (nI j)), (6, .long (pn_L ((L9 : Nat) : Int))), (4, .int (nI (mn c9))), (5, .int (nI (mn b))), (0, .ref oM), (1, .int (nI t9)), (2, .int (nI b)), (3, .int (nI c9))] → va_P D pn_cl [(oM, .inr (5, [.int (nI cd), .ref qW, .ref qM, .ref qK, .ref qJ, .ref qG, .ref qH, .ref qP, .int (nI pl)])), (qW, .inl (cI, 22400, .inl (fun z9 => nI (w2 z9)))), (qM, .inl (cI, 7, .inl (fun z9 => nI (mn z9))))] H → va_D A [(oM, .inr (5, [.int (nI cd), .ref qW, .ref qM, .ref qK, .ref qJ, .ref qG, .ref qH, .ref qP, .int (nI pl)])), (qW, .inl (cI, 22400, .inl (fun z9 => nI (w2 z9)))), (qM, .inl (cI, 7, .inl (fun z9 => nI (mn z9))))] → va_S A s.heap H locs → W p l e ({ frames := 1, cells := 0, slots := 0, locals := 50 } : Room) s m ([.ref oM, .int (nI t9), .int (nI b), .int (nI c9)] : List Value).toArray below meth c H locs 0 0 Q (F0 m 274 ls []) := by
                      intro N
                      induction N with
                      | zero => intro f9 w2 hM; exact absurd hM (Nat.not_lt_zero _)
                      | succ N ih274 =>
                        intro f9 w2 hM274 hqf9 hf9 hsm hF2 H locs ls hl hP hD hS
                        refine lv_aload_n hx hb d_M_divideBy_274 rfl (lv_at hl 5 rfl) ?_
                        refine lv_iload_n hx hb d_M_divideBy_275 rfl (lv_at hl 7 rfl) ?_
                        refine lv_iload_n hx hb d_M_divideBy_276 rfl (lv_at hl 8 rfl) ?_
                        refine lv_iload hx hb d_M_divideBy_277 (lv_at hl 1 rfl) ?_
                        refine lv_iload hx hb d_M_divideBy_279 (lv_at hl 0 rfl) ?_
                        have hNc2 : pm_N w2 mn c9 v2 := pm_N_congr hN2 rfl (fun i hi => by rw [hF2 c9 i (Ne.symm hbc) (by omega)]; exact hF c9 i (Ne.symm htc) (Ne.symm hbc) (by omega))
                        refine pn_bi (wr := []) [0, 1, 2] [] hP hD hS hA (pn_rV [.int (nI b), .int (nI c9), .int (nI j), .int (nI f9)] [] Fx hK hN hP hD [0, 1, 2] rfl rfl (c_M_takes l D cI cZ cB cJ _ oM qW qM qK qJ qG qH qP cd pl w2 mn b c9 j f9 v2 hb7 hc7 hbc hNc2 (by omega) (by omega) (fun q hq => by have := hfw q hq; unfold pm_w at this ⊢; rw [hsm]; exact this)) kw_781 cal_M_takes inst_M_takes sel_M_takes ⟨by decide, by decide⟩ ⟨rfl, rfl⟩ 0 rfl rfl rfl rfl hl.1 (Nat.le_of_ble_eq_true rfl) d_M_divideBy_281 ⟨Nat.zero_le _, Nat.zero_le _⟩) rfl rfl rfl (by decide) (fun r_281 u_281 H locs hw hP hD hS => ?_)
                        obtain ⟨r9, w3⟩ := u_281
                        obtain ⟨rfl, htt, htf, htr⟩ := hw
                        have hP : va_P D pn_cl [(oM, .inr (5, [.int (nI cd), .ref qW, .ref qM, .ref qK, .ref qJ, .ref qG, .ref qH, .ref qP, .int (nI pl)])), (qW, .inl (cI, 22400, .inl (fun z9 => nI (w3 z9)))), (qM, .inl (cI, 7, .inl (fun z9 => nI (mn z9))))] H := hP
                        have hD : va_D A [(oM, .inr (5, [.int (nI cd), .ref qW, .ref qM, .ref qK, .ref qJ, .ref qG, .ref qH, .ref qP, .int (nI pl)])), (qW, .inl (cI, 22400, .inl (fun z9 => nI (w3 z9)))), (qM, .inl (cI, 7, .inl (fun z9 => nI (mn z9))))] := hD
                        dsimp only at htt htf htr
                        have hXe : pm_V (pm_w w2 b j) (mn c9 + 1) = pm_V (pm_w w1 b j) (mn c9 + 1) := pm_V_congr (fun i _ => by unfold pm_w; exact hsm _)
                        rw [hXe] at htt htf
                        refine pw_ifb_ne (tgt := 293) hx hb d_M_divideBy_284 (by decide) (fun h_284 => ?_) (fun h_284 => ?_)
                        · skip
                          obtain ⟨ht1, ht2, ht3, ht4⟩ := htt h_284
                          have hfq : f9 = pm_V (pm_w w1 b j) (mn c9 + 1) / v2 := Nat.le_antisymm ((Nat.le_div_iff_mul_le hv20).mpr ht1) hqf9
                          have hmod : pm_V (pm_w w1 b j) (mn c9 + 1) - f9 * v2 = pm_V (pm_w w1 b j) (mn c9 + 1) % v2 := by have := Nat.mod_add_div (pm_V (pm_w w1 b j) (mn c9 + 1)) v2; rw [hfq, Nat.mul_comm]; omega
                          rw [hmod] at ht2
                          obtain ⟨w4, hw4⟩ : ∃ q, q = pn_up w3 (3200 * t9 + j) f9 := ⟨_, rfl⟩
                          have h4b : ∀ i, i < 3200 → pm_at w4 b i = pm_at w3 b i := fun i hi => by rw [hw4]; exact pm_at_ne (Ne.symm htb) (by omega) hi
                          have h4t : pm_at w4 t9 = pn_up (pm_at w3 t9) j f9 := by rw [hw4]; exact pm_at_up _ _ _ _
                          have hF3 : pm_fr2 t9 b wk w4 := fun c8 i h1 h2 hi => by rw [hw4, pm_at_ne h1 (by omega) hi, htr c8 i h2 hi, hF2 c8 i h2 hi]; exact hF c8 i h1 h2 hi
                          have hw3t : ∀ i, i < 3200 → pm_at w3 t9 i = pm_at w1 t9 i := fun i hi => by rw [htr t9 i htb hi, hF2 t9 i htb hi]
                          have hfb3 : pm_fig (pm_at w4 b) (mn b + 1) := fun i hi => by rw [h4b i (by omega)]; by_cases y : i < j ∨ j + mn c9 < i; (· rw [ht4 i y, hsm i]; exact hfb i hi); (· have := ht3 (i - j) (by omega); unfold pm_w at this; rw [show j + (i - j) = i by omega] at this; exact this)
                          have hft3 : ∀ i, j ≤ i → i < mn b - mn c9 + 1 → pm_at w4 t9 i < 10000 := fun i h1 h2 => by rw [h4t]; by_cases y : i = j; (· subst y; rw [pn_up_s]; omega); (· rw [pn_up_n y, hw3t i (by omega)]; exact hft i (by omega) h2)
                          have hVj : pm_V (pm_at w4 b) j = pm_V (pm_at w1 b) j := pm_V_congr (fun i hi => by rw [h4b i (by omega), ht4 i (Or.inl hi), hsm i])
                          have hVw : pm_V (pm_w w4 b j) (mn c9) = pm_V (pm_w w1 b j) (mn c9 + 1) % v2 := by rw [← ht2, ← pm_dv_top (f := pm_w w3 b j) (by rw [ht2]; exact Nat.mod_lt _ hv20) hv2n]; exact pm_V_congr (fun i hi => h4b _ (by omega))
                          have hVn : pm_V (pm_at w4 b) (mn c9 + j) = pm_V (pm_at w1 b) j + 10000 ^ j * (pm_V (pm_w w1 b j) (mn c9 + 1) % v2) := by rw [Nat.add_comm, pm_V_add, hVj]; exact congrArg (fun q => pm_V (pm_at w1 b) j + 10000 ^ j * q) hVw
                          have hR3 : pm_V (pm_at w4 b) (mn c9 + j) < v2 * 10000 ^ j := by rw [hVn]; exact pm_dv_low (pm_V_lt (fun i hi => hfb i (by omega))) hv20
                          have hcg : pm_V (fun i => pm_at w4 t9 (j + (i + 1))) (mn b - mn c9 + 1 - (j + 1)) = pm_V (fun i => pm_at w1 t9 (j + 1 + i)) (mn b - mn c9 + 1 - (j + 1)) := pm_V_congr (fun i hi => by show pm_at w4 t9 (j + (i + 1)) = pm_at w1 t9 (j + 1 + i); rw [h4t, pn_up_n (by omega), show j + (i + 1) = j + 1 + i by omega]; exact hw3t _ (by omega))
                          have hhd : pm_V (fun i => pm_at w4 t9 (j + i)) (mn b - mn c9 + 1 - (j + 1) + 1) = f9 + 10000 * pm_V (fun i => pm_at w1 t9 (j + 1 + i)) (mn b - mn c9 + 1 - (j + 1)) := by rw [pm_V_head]; show pm_at w4 t9 (j + 0) + 10000 * pm_V (fun i => pm_at w4 t9 (j + (i + 1))) (mn b - mn c9 + 1 - (j + 1)) = _; rw [hcg, h4t, Nat.add_zero, pn_up_s]
                          have hQ3 : v = pm_V (pm_at w4 b) (mn c9 + j) + v2 * (10000 ^ j * pm_V (fun i => pm_at w4 t9 (j + i)) (mn b - mn c9 + 1 - j)) := by rw [hVn, show mn b - mn c9 + 1 - j = (mn b - mn c9 + 1 - (j + 1)) + 1 by omega, hhd, hfq]; exact pm_dv_eq hQX
                          refine lv_aload_n hx hb d_M_divideBy_293 rfl (lv_at hl 5 rfl) ?_
                          refine pw_get Fx hK hP fld_M 0 rfl 1 (by decide) kw_631 (v := .ref qW) rfl d_M_divideBy_294 ?_
                          refine lv_sipush (v := nI 3200) hx hb d_M_divideBy_297 (by decide) ?_
                          refine lv_iload_n hx hb d_M_divideBy_300 rfl (lv_at hl 6 rfl) ?_
                          refine pw_imul hx hb d_M_divideBy_301 ?_
                          refine lv_iload hx hb d_M_divideBy_302 (lv_at hl 1 rfl) ?_
                          refine pw_iadd hx hb d_M_divideBy_304 ?_
                          refine lv_iload hx hb d_M_divideBy_305 (lv_at hl 0 rfl) ?_
                          refine pw_iastN Fx hK hP hD hS 1 0 (g := w3) rfl rfl (k := 3200 * t9 + j) (by omega) (by decide) (w' := [(oM, .inr (5, [.int (nI cd), .ref qW, .ref qM, .ref qK, .ref qJ, .ref qG, .ref qH, .ref qP, .int (nI pl)])), (qW, .inl (cI, 22400, .inl (fun z9 => nI ((pn_up w3 (3200 * t9 + j) f9) z9)))), (qM, .inl (cI, 7, .inl (fun z9 => nI (mn z9))))]) rfl d_M_divideBy_307 (fun H locs hP hD hS => ?_)
                          rw [← hw4] at hP hD
                          refine lv_iinc (v := pn_I ((j : Int) - 1)) (lv' := [(8, .int (pn_I ((j : Int) - 1))), (11, .int (nI f9)), (6, .long (pn_L ((L9 : Nat) : Int))), (4, .int (nI (mn c9))), (5, .int (nI (mn b))), (0, .ref oM), (1, .int (nI t9)), (2, .int (nI b)), (3, .int (nI c9))]) hx hb d_M_divideBy_308 hl (k := 1) rfl (pn_dec' _) (by decide) rfl (fun ls hl => ?_)
                          refine lv_goto (tgt := 132) hx hb d_M_divideBy_311 (by decide) ?_
                          exact ih132 j _ (by omega) (by omega) hF3 hfb3 hft3 hR3 hQ3 _ _ _ (lv_sub hl [0, 2, 3, 4, 5, 6, 7, 8] rfl) hP hD hS
                        · skip
                          obtain ⟨ht1, ht2⟩ := htf h_284
                          have hlt9 : pm_V (pm_w w1 b j) (mn c9 + 1) / v2 < f9 := (Nat.div_lt_iff_lt_mul hv20).mpr ht1
                          have hf1 : 1 ≤ f9 := Nat.lt_of_le_of_lt (Nat.zero_le _) hlt9
                          refine lv_iinc (v := nI (f9 - 1)) (lv' := [(11, .int (nI (f9 - 1))), (8, .int (nI j)), (6, .long (pn_L ((L9 : Nat) : Int))), (4, .int (nI (mn c9))), (5, .int (nI (mn b))), (0, .ref oM), (1, .int (nI t9)), (2, .int (nI b)), (3, .int (nI c9))]) hx hb d_M_divideBy_287 hl (k := 0) rfl (sb_m1 (by omega)) (by decide) rfl (fun ls hl => ?_)
                          refine lv_goto (tgt := 274) hx hb d_M_divideBy_290 (by decide) ?_
                          exact ih274 (f9 - 1) w3 (by omega) (by omega) (by omega) (fun q => by rw [ht2 q]; exact hsm q) (fun c8 i h1 hi => by rw [htr c8 i h1 hi]; exact hF2 c8 i h1 hi) _ _ _ hl hP hD hS
                    exact loop274 _ 9999 w1 (Nat.lt_succ_self _) (by omega) (by omega) (fun _ => rfl) pm_fr_refl _ _ _ (lv_sub hl [0, 2, 3, 4, 5, 6, 7, 8, 9] rfl) hP hD hS
                · skip
                  exact absurd h_219 (by omega)
        exact loop132 _ (mn b - mn c9 + 1) w0 (Nat.lt_succ_self _) (Nat.le_refl _) (fun c8 i h1 h2 hi => hF0 c8 i h2 hi) hfb0 (fun i h1 h2 => by omega) (by rw [show mn c9 + (mn b - mn c9 + 1) = mn b + 1 by omega, hV0]; exact pm_dv_start (by omega) (pm_N_lt hN1) hlow (by omega)) (by rw [show mn c9 + (mn b - mn c9 + 1) = mn b + 1 by omega, hV0, Nat.sub_self, pm_V_0, Nat.mul_zero, Nat.mul_zero, Nat.add_zero]) _ _ _ (lv_sub hl [0, 1, 3, 2, 4, 5, 6, 7] rfl) hP hD hS
      · skip
        have g3 := m2 (mn c9 - 3) (by omega)
        obtain ⟨L9, hL9⟩ : ∃ q, q = pm_at wk c9 (mn c9 - 1) * 100000000 + pm_at wk c9 (mn c9 - 2) * 10000 + pm_at wk c9 (mn c9 - 3) := ⟨_, rfl⟩
        have hLM : L9 * 10000 ^ (mn c9 - 3) ≤ v2 * 1 := by rw [← m4, pm_top3 _ _ (show 3 ≤ mn c9 by omega), hL9]; omega
        have hLb : 100000000 ≤ L9 ∧ L9 < 1000000000000 := by omega
        refine lv_aload_n hx hb d_M_divideBy_102 rfl (lv_at hl 2 rfl) ?_
        refine pw_get Fx hK hP fld_M 0 rfl 1 (by decide) kw_631 (v := .ref qW) rfl d_M_divideBy_103 ?_
        refine lv_sipush (v := nI 3200) hx hb d_M_divideBy_106 (by decide) ?_
        refine lv_iload_n hx hb d_M_divideBy_109 rfl (lv_at hl 5 rfl) ?_
        refine pw_imul hx hb d_M_divideBy_110 ?_
        refine lv_iload hx hb d_M_divideBy_111 (lv_at hl 1 rfl) ?_
        refine pw_iadd hx hb d_M_divideBy_113 ?_
        refine lv_iconst (v := nI 3) hx hb d_M_divideBy_114 (by decide) ?_
        refine pw_isub hx hb d_M_divideBy_115 (by omega) ?_
        refine pw_iald Fx hK hP 1 0 (f := fun z9 => nI (w0 z9)) rfl rfl (k := 3200 * c9 + (mn c9) - 3) (by omega) (by decide) d_M_divideBy_116 ?_
        refine pn_topi (nI (w0 (3200 * c9 + (mn c9) - 3))) rfl ?_
        refine pn_topi (nI (pm_at wk c9 (mn c9 - 3))) (congrArg nI (by rw [show 3200 * c9 + mn c9 - 3 = 3200 * c9 + (mn c9 - 3) by omega]; exact hF0 c9 _ (Ne.symm hbc) (by omega))) ?_
        refine pw_i2lN hx hb d_M_divideBy_117 (by omega) ?_
        refine lv_goto (tgt := 122) hx hb d_M_divideBy_118 (by decide) ?_
        refine pw_ladd hx hb d_M_divideBy_122 ?_
        refine pn_topl (pn_L ((L9 : Nat) : Int)) (congrArg pn_L (by omega)) ?_
        refine lv_lstore (lv' := [(6, .long (pn_L ((L9 : Nat) : Int))), (5, .int (nI (mn b))), (4, .int (nI (mn c9))), (0, .ref oM), (1, .int (nI t9)), (2, .int (nI b)), (3, .int (nI c9))]) hx hb d_M_divideBy_123 hl (by decide) rfl (fun ls hl => ?_)
        refine lv_iload hx hb d_M_divideBy_125 (lv_at hl 1 rfl) ?_
        refine lv_iload hx hb d_M_divideBy_127 (lv_at hl 2 rfl) ?_
        refine lv_isub hx hb d_M_divideBy_129 ?_
        refine pn_topi (pn_I (((mn b - mn c9 + 1 : Nat) : Int) - 1)) (by rw [pk_sub (by omega), ← pn_I_nI]; exact congrArg pn_I (by omega)) ?_
        refine lv_istore (lv' := [(8, .int (pn_I (((mn b - mn c9 + 1 : Nat) : Int) - 1))), (6, .long (pn_L ((L9 : Nat) : Int))), (5, .int (nI (mn b))), (4, .int (nI (mn c9))), (0, .ref oM), (1, .int (nI t9)), (2, .int (nI b)), (3, .int (nI c9))]) hx hb d_M_divideBy_130 hl (by decide) rfl (fun ls hl => ?_)
        have loop132 : ∀ (N : Nat) (kk : Nat) (w1 : Nat → Nat), kk < N → (kk ≤ mn b - mn c9 + 1) → (pm_fr2 t9 b wk w1) → (pm_fig (pm_at w1 b) (mn b + 1)) → (∀ i, kk ≤ i → i < mn b - mn c9 + 1 → pm_at w1 t9 i < 10000) → (pm_V (pm_at w1 b) (mn c9 + kk) < v2 * 10000 ^ kk) → (v = pm_V (pm_at w1 b) (mn c9 + kk) + v2 * (10000 ^ kk * pm_V (fun i => pm_at w1 t9 (kk + i)) (mn b - mn c9 + 1 - kk))) → ∀ (H : Heap) (locs : List Loc) (ls : Array Slot), lv_has ls 12 [(8, .int (pn_I ((kk : Int) - 1))), (6, .long (pn_L ((L9 : Nat) : Int))), (4, .int (nI (mn c9))), (5, .int (nI (mn b))), (0, .ref oM), (1, .int (nI t9)), (2, .int (nI b)), (3, .int (nI c9))] → va_P D pn_cl [(oM, .inr (5, [.int (nI cd), .ref qW, .ref qM, .ref qK, .ref qJ, .ref qG, .ref qH, .ref qP, .int (nI pl)])), (qW, .inl (cI, 22400, .inl (fun z9 => nI (w1 z9)))), (qM, .inl (cI, 7, .inl (fun z9 => nI (mn z9))))] H → va_D A [(oM, .inr (5, [.int (nI cd), .ref qW, .ref qM, .ref qK, .ref qJ, .ref qG, .ref qH, .ref qP, .int (nI pl)])), (qW, .inl (cI, 22400, .inl (fun z9 => nI (w1 z9)))), (qM, .inl (cI, 7, .inl (fun z9 => nI (mn z9))))] → va_S A s.heap H locs → W p l e ({ frames := 1, cells := 0, slots := 0, locals := 50 } : Room) s m ([.ref oM, .int (nI t9), .int (nI b), .int (nI c9)] : List Value).toArray below meth c H locs 0 0 Q (F0 m 132 ls []) := by
          intro N
          induction N with
          | zero => intro kk w1 hM; exact absurd hM (Nat.not_lt_zero _)
          | succ N ih132 =>
            intro kk w1 hM132 hkk hF hfb hft hR hQ9 H locs ls hl hP hD hS
            refine lv_iload hx hb d_M_divideBy_132 (lv_at hl 0 rfl) ?_
            refine lv_if_lt (tgt := 314) hx hb d_M_divideBy_134 (by decide) (fun h_134 => ?_) (fun h_134 => ?_)
            · skip
              have hk0 := pn_dec_0 (by omega) h_134
              subst hk0
              rw [Nat.pow_zero, Nat.mul_one] at hR
              have hfin := pm_dv_fin (v := v) (r := pm_V (pm_at w1 b) (mn c9)) (Q := pm_V (pm_at w1 t9) (mn b - mn c9 + 1)) (by rw [Nat.pow_zero, Nat.one_mul, Nat.sub_zero, pm_V_congr (f := fun i => pm_at w1 t9 (0 + i)) (g := pm_at w1 t9) (fun i _ => by rw [Nat.zero_add])] at hQ9; exact hQ9) hR
              refine lv_aload_n hx hb d_M_divideBy_314 rfl (lv_at hl 4 rfl) ?_
              refine lv_iload_n hx hb d_M_divideBy_315 rfl (lv_at hl 5 rfl) ?_
              refine lv_iload hx hb d_M_divideBy_316 (lv_at hl 3 rfl) ?_
              refine lv_iload hx hb d_M_divideBy_318 (lv_at hl 2 rfl) ?_
              refine pw_isub hx hb d_M_divideBy_320 (by omega) ?_
              refine lv_iconst (v := nI 1) hx hb d_M_divideBy_321 (by decide) ?_
              refine pw_iadd hx hb d_M_divideBy_322 ?_
              refine pn_bv (wr := []) [0, 1, 2] [] hP hD hS hA (pn_rV [.int (nI t9), .int (nI (mn b - (mn c9) + 1))] [] Fx hK hN hP hD [0, 1, 2] rfl rfl (c_M_trim l D cI cZ cB cJ _ oM qW qM qK qJ qG qH qP cd pl w1 mn t9 (mn b - mn c9 + 1) ht7 (by omega) (fun i hi => hft i (Nat.zero_le _) hi)) kw_695 cal_M_trim inst_M_trim sel_M_trim ⟨by decide, by decide⟩ ⟨rfl, rfl⟩ 0 rfl rfl rfl rfl hl.1 (Nat.le_of_ble_eq_true rfl) d_M_divideBy_323 ⟨Nat.zero_le _, Nat.zero_le _⟩) rfl rfl rfl (by decide) (fun u_323 H locs hw hP hD hS => ?_)
              obtain ⟨a1, a2, a3⟩ := hw
              have hP : va_P D pn_cl [(oM, .inr (5, [.int (nI cd), .ref qW, .ref qM, .ref qK, .ref qJ, .ref qG, .ref qH, .ref qP, .int (nI pl)])), (qW, .inl (cI, 22400, .inl (fun z9 => nI (w1 z9)))), (qM, .inl (cI, 7, .inl (fun z9 => nI ((pn_up mn t9 u_323) z9))))] H := hP
              have hD : va_D A [(oM, .inr (5, [.int (nI cd), .ref qW, .ref qM, .ref qK, .ref qJ, .ref qG, .ref qH, .ref qP, .int (nI pl)])), (qW, .inl (cI, 22400, .inl (fun z9 => nI (w1 z9)))), (qM, .inl (cI, 7, .inl (fun z9 => nI ((pn_up mn t9 u_323) z9))))] := hD
              refine lv_aload_n hx hb d_M_divideBy_326 rfl (lv_at hl 4 rfl) ?_
              refine lv_iload_n hx hb d_M_divideBy_327 rfl (lv_at hl 6 rfl) ?_
              refine lv_iload hx hb d_M_divideBy_328 (lv_at hl 2 rfl) ?_
              refine pn_bv (wr := []) [0, 1, 2] [] hP hD hS hA (pn_rV [.int (nI b), .int (nI (mn c9))] [] Fx hK hN hP hD [0, 1, 2] rfl rfl (c_M_trim l D cI cZ cB cJ _ oM qW qM qK qJ qG qH qP cd pl w1 (pn_up mn t9 u_323) b (mn c9) hb7 (by omega) (fun i hi => hfb i (by omega))) kw_695 cal_M_trim inst_M_trim sel_M_trim ⟨by decide, by decide⟩ ⟨rfl, rfl⟩ 0 rfl rfl rfl rfl hl.1 (Nat.le_of_ble_eq_true rfl) d_M_divideBy_330 ⟨Nat.zero_le _, Nat.zero_le _⟩) rfl rfl rfl (by decide) (fun u_330 H locs hw hP hD hS => ?_)
              obtain ⟨b1, b2, b3⟩ := hw
              have hP : va_P D pn_cl [(oM, .inr (5, [.int (nI cd), .ref qW, .ref qM, .ref qK, .ref qJ, .ref qG, .ref qH, .ref qP, .int (nI pl)])), (qW, .inl (cI, 22400, .inl (fun z9 => nI (w1 z9)))), (qM, .inl (cI, 7, .inl (fun z9 => nI ((pn_up (pn_up mn t9 u_323) b u_330) z9))))] H := hP
              have hD : va_D A [(oM, .inr (5, [.int (nI cd), .ref qW, .ref qM, .ref qK, .ref qJ, .ref qG, .ref qH, .ref qP, .int (nI pl)])), (qW, .inl (cI, 22400, .inl (fun z9 => nI (w1 z9)))), (qM, .inl (cI, 7, .inl (fun z9 => nI ((pn_up (pn_up mn t9 u_323) b u_330) z9))))] := hD
              exact pn_retv ((w1, pn_up (pn_up mn t9 u_323) b u_330)) Fx hr hlocks hQ hAe hP hD hS (by (try dsimp only); first | done | exact (⟨pm_N_congr (mn := pn_up mn t9 u_323) (pm_N_of (n := mn b - mn c9 + 1) (by omega) (fun i hi => hft i (Nat.zero_le _) hi) a1 a2 a3 hfin.1) (pn_up_n htb) (fun _ _ => rfl), pm_N_of (n := mn c9) (by omega) (fun i hi => hfb i (by omega)) b1 b2 b3 hfin.2, fun c8 x h1 h2 h3 => pm_N_congr h3 (by rw [pn_up_n h2, pn_up_n h1]) (fun i hi => hF c8 i h1 h2 (by have := h3.1; omega))⟩)) d_M_divideBy_333
            · skip
              obtain ⟨j, rfl⟩ := pn_dec_s h_134
              rw [pn_dec_n] at hl
              have hNx : mn c9 + (j + 1) = j + (mn c9 + 1) := by omega
              rw [hNx, pm_V_add, pm_P_s] at hR hQ9
              have hq9 := pm_dv_x (pm_P j) hR
              have hQX : v = pm_V (pm_at w1 b) j + 10000 ^ j * pm_V (pm_w w1 b j) (mn c9 + 1) + v2 * (10000 ^ j * 10000 * pm_V (fun i => pm_at w1 t9 (j + 1 + i)) (mn b - mn c9 + 1 - (j + 1))) := hQ9
              have hq9 : pm_V (pm_w w1 b j) (mn c9 + 1) / v2 < 10000 := hq9
              have hfw : pm_fig (pm_w w1 b j) (mn c9 + 1) := fun i hi => hfb (j + i) (by omega)
              have ww0 : pm_w w1 b j (mn c9) = w1 (3200 * b + j + mn c9) := congrArg w1 (by omega)
              have fw0 := hfw (mn c9) (by omega)
              rw [ww0] at fw0
              have ww1 : pm_w w1 b j (mn c9 - 1) = w1 (3200 * b + j + mn c9 - 1) := congrArg w1 (by omega)
              have fw1 := hfw (mn c9 - 1) (by omega)
              rw [ww1] at fw1
              have ww2 : pm_w w1 b j (mn c9 - 2) = w1 (3200 * b + j + mn c9 - 2) := congrArg w1 (by omega)
              have fw2 := hfw (mn c9 - 2) (by omega)
              rw [ww2] at fw2
              have ww3 : pm_w w1 b j (mn c9 - 3) = w1 (3200 * b + j + mn c9 - 3) := congrArg w1 (by omega)
              have fw3 := hfw (mn c9 - 3) (by omega)
              rw [ww3] at fw3
              refine lv_aload_n hx hb d_M_divideBy_137 rfl (lv_at hl 4 rfl) ?_
              refine pw_get Fx hK hP fld_M 0 rfl 1 (by decide) kw_631 (v := .ref qW) rfl d_M_divideBy_138 ?_
              refine lv_sipush (v := nI 3200) hx hb d_M_divideBy_141 (by decide) ?_
              refine lv_iload_n hx hb d_M_divideBy_144 rfl (lv_at hl 6 rfl) ?_
              refine pw_imul hx hb d_M_divideBy_145 ?_
              refine lv_iload hx hb d_M_divideBy_146 (lv_at hl 0 rfl) ?_
              refine pw_iadd hx hb d_M_divideBy_148 ?_
              refine lv_iload hx hb d_M_divideBy_149 (lv_at hl 2 rfl) ?_
              refine pw_iadd hx hb d_M_divideBy_151 ?_
              refine pw_iald Fx hK hP 1 0 (f := fun z9 => nI (w1 z9)) rfl rfl (k := 3200 * b + j + (mn c9)) (by omega) (by decide) d_M_divideBy_152 ?_
              refine pn_topi (nI (w1 (3200 * b + j + (mn c9)))) rfl ?_
              refine pw_i2lN hx hb d_M_divideBy_153 (by omega) ?_
              refine lv_ldc2 hx hb Fx.2.2.2.1 (Fx.2.2.2.2 _ kw_780) d_M_divideBy_154 ?_
              refine pn_topl (pn_L (1000000000000)) (by decide) ?_
              refine pw_lmul hx hb d_M_divideBy_157 ?_
              refine lv_aload_n hx hb d_M_divideBy_158 rfl (lv_at hl 4 rfl) ?_
              refine pw_get Fx hK hP fld_M 0 rfl 1 (by decide) kw_631 (v := .ref qW) rfl d_M_divideBy_159 ?_
              refine lv_sipush (v := nI 3200) hx hb d_M_divideBy_162 (by decide) ?_
              refine lv_iload_n hx hb d_M_divideBy_165 rfl (lv_at hl 6 rfl) ?_
              refine pw_imul hx hb d_M_divideBy_166 ?_
              refine lv_iload hx hb d_M_divideBy_167 (lv_at hl 0 rfl) ?_
              refine pw_iadd hx hb d_M_divideBy_169 ?_
              refine lv_iload hx hb d_M_divideBy_170 (lv_at hl 2 rfl) ?_
              refine pw_iadd hx hb d_M_divideBy_172 ?_
              refine lv_iconst (v := nI 1) hx hb d_M_divideBy_173 (by decide) ?_
              refine pw_isub hx hb d_M_divideBy_174 (by omega) ?_
              refine pw_iald Fx hK hP 1 0 (f := fun z9 => nI (w1 z9)) rfl rfl (k := 3200 * b + j + (mn c9) - 1) (by omega) (by decide) d_M_divideBy_175 ?_
              refine pn_topi (nI (w1 (3200 * b + j + (mn c9) - 1))) rfl ?_
              refine pw_i2lN hx hb d_M_divideBy_176 (by omega) ?_
              refine lv_ldc2 hx hb Fx.2.2.2.1 (Fx.2.2.2.2 _ kw_779) d_M_divideBy_177 ?_
              refine pn_topl (pn_L (100000000)) (by decide) ?_
              refine pw_lmul hx hb d_M_divideBy_180 ?_
              refine pw_ladd hx hb d_M_divideBy_181 ?_
              refine lv_iload hx hb d_M_divideBy_182 (lv_at hl 2 rfl) ?_
              refine lv_iconst (v := nI 1) hx hb d_M_divideBy_184 (by decide) ?_
              refine pw_icmp_le (a := mn c9) (b := 1) (tgt := 214) hx hb d_M_divideBy_185 (by decide) (by omega) (by omega) (fun h_185 => ?_) (fun h_185 => ?_)
              · skip
                exact absurd h_185 (by omega)
              · skip
                refine lv_aload_n hx hb d_M_divideBy_188 rfl (lv_at hl 4 rfl) ?_
                refine pw_get Fx hK hP fld_M 0 rfl 1 (by decide) kw_631 (v := .ref qW) rfl d_M_divideBy_189 ?_
                refine lv_sipush (v := nI 3200) hx hb d_M_divideBy_192 (by decide) ?_
                refine lv_iload_n hx hb d_M_divideBy_195 rfl (lv_at hl 6 rfl) ?_
                refine pw_imul hx hb d_M_divideBy_196 ?_
                refine lv_iload hx hb d_M_divideBy_197 (lv_at hl 0 rfl) ?_
                refine pw_iadd hx hb d_M_divideBy_199 ?_
                refine lv_iload hx hb d_M_divideBy_200 (lv_at hl 2 rfl) ?_
                refine pw_iadd hx hb d_M_divideBy_202 ?_
                refine lv_iconst (v := nI 2) hx hb d_M_divideBy_203 (by decide) ?_
                refine pw_isub hx hb d_M_divideBy_204 (by omega) ?_
                refine pw_iald Fx hK hP 1 0 (f := fun z9 => nI (w1 z9)) rfl rfl (k := 3200 * b + j + (mn c9) - 2) (by omega) (by decide) d_M_divideBy_205 ?_
                refine pn_topi (nI (w1 (3200 * b + j + (mn c9) - 2))) rfl ?_
                refine pw_i2lN hx hb d_M_divideBy_206 (by omega) ?_
                refine lv_ldc2 hx hb Fx.2.2.2.1 (Fx.2.2.2.2 _ kw_677) d_M_divideBy_207 ?_
                refine pn_topl (pn_L (10000)) (by decide) ?_
                refine pw_lmul hx hb d_M_divideBy_210 ?_
                refine lv_goto (tgt := 215) hx hb d_M_divideBy_211 (by decide) ?_
                refine pw_ladd hx hb d_M_divideBy_215 ?_
                refine lv_iload hx hb d_M_divideBy_216 (lv_at hl 2 rfl) ?_
                refine lv_iconst (v := nI 2) hx hb d_M_divideBy_218 (by decide) ?_
                refine pw_icmp_le (a := mn c9) (b := 2) (tgt := 244) hx hb d_M_divideBy_219 (by decide) (by omega) (by omega) (fun h_219 => ?_) (fun h_219 => ?_)
                · skip
                  exact absurd h_219 (by omega)
                · skip
                  obtain ⟨H9, hH9⟩ : ∃ q, q = w1 (3200 * b + j + mn c9) * 1000000000000 + w1 (3200 * b + j + mn c9 - 1) * 100000000 + w1 (3200 * b + j + mn c9 - 2) * 10000 + w1 (3200 * b + j + mn c9 - 3) := ⟨_, rfl⟩
                  have hHM : (pm_V (pm_w w1 b j) (mn c9 + 1)) * 1 < (H9 + 1) * 10000 ^ (mn c9 - 3) := by have hlo := pm_V_lt (f := pm_w w1 b j) (n := mn c9 - 3) (fun q hq => hfw q (by omega)); rw [hH9, ← ww0, ← ww1, ← ww2, ← ww3, pm_top4 _ _ (show 3 ≤ mn c9 by omega), Nat.add_mul _ 1, Nat.one_mul, Nat.mul_one]; omega
                  have hqf := pm_est (by omega) hLM hHM
                  have hHb : H9 < 10000000000000000 := by omega
                  have hHL : H9 / L9 < 100000000 := Nat.div_lt_of_lt_mul (Nat.lt_of_lt_of_le hHb (Nat.le_trans (by decide : 10000000000000000 ≤ 100000000 * 100000000) (Nat.mul_le_mul_right _ hLb.1)))
                  refine lv_aload_n hx hb d_M_divideBy_222 rfl (lv_at hl 4 rfl) ?_
                  refine pw_get Fx hK hP fld_M 0 rfl 1 (by decide) kw_631 (v := .ref qW) rfl d_M_divideBy_223 ?_
                  refine lv_sipush (v := nI 3200) hx hb d_M_divideBy_226 (by decide) ?_
                  refine lv_iload_n hx hb d_M_divideBy_229 rfl (lv_at hl 6 rfl) ?_
                  refine pw_imul hx hb d_M_divideBy_230 ?_
                  refine lv_iload hx hb d_M_divideBy_231 (lv_at hl 0 rfl) ?_
                  refine pw_iadd hx hb d_M_divideBy_233 ?_
                  refine lv_iload hx hb d_M_divideBy_234 (lv_at hl 2 rfl) ?_
                  refine pw_iadd hx hb d_M_divideBy_236 ?_
                  refine lv_iconst (v := nI 3) hx hb d_M_divideBy_237 (by decide) ?_
                  refine pw_isub hx hb d_M_divideBy_238 (by omega) ?_
                  refine pw_iald Fx hK hP 1 0 (f := fun z9 => nI (w1 z9)) rfl rfl (k := 3200 * b + j + (mn c9) - 3) (by omega) (by decide) d_M_divideBy_239 ?_
                  refine pn_topi (nI (w1 (3200 * b + j + (mn c9) - 3))) rfl ?_
                  refine pw_i2lN hx hb d_M_divideBy_240 (by omega) ?_
                  refine lv_goto (tgt := 245) hx hb d_M_divideBy_241 (by decide) ?_
                  refine pw_ladd hx hb d_M_divideBy_245 ?_
                  refine pn_topl (pn_L ((H9 : Nat) : Int)) (congrArg pn_L (by omega)) ?_
                  refine lv_lstore (lv' := [(9, .long (pn_L ((H9 : Nat) : Int))), (8, .int (nI j)), (6, .long (pn_L ((L9 : Nat) : Int))), (4, .int (nI (mn c9))), (5, .int (nI (mn b))), (0, .ref oM), (1, .int (nI t9)), (2, .int (nI b)), (3, .int (nI c9))]) hx hb d_M_divideBy_246 hl (by decide) rfl (fun ls hl => ?_)
                  refine lv_lload hx hb d_M_divideBy_248 (lv_at hl 0 rfl) ?_
                  refine lv_lload hx hb d_M_divideBy_250 (lv_at hl 2 rfl) ?_
                  refine pw_ldiv hx hb d_M_divideBy_252 (by omega) (by omega) (by omega) (by omega) ?_
                  refine pw_l2i hx hb d_M_divideBy_253 ?_
                  refine pn_topi (nI (H9 / L9)) (by rw [← pn_I_nI]; rfl) ?_
                  refine lv_istore (lv' := [(11, .int (nI (H9 / L9))), (9, .long (pn_L ((H9 : Nat) : Int))), (8, .int (nI j)), (6, .long (pn_L ((L9 : Nat) : Int))), (4, .int (nI (mn c9))), (5, .int (nI (mn b))), (0, .ref oM), (1, .int (nI t9)), (2, .int (nI b)), (3, .int (nI c9))]) hx hb d_M_divideBy_254 hl (by decide) rfl (fun ls hl => ?_)
                  refine lv_iload hx hb d_M_divideBy_256 (lv_at hl 0 rfl) ?_
                  refine lv_sipush (v := nI 10000) hx hb d_M_divideBy_258 (by decide) ?_
                  refine pw_icmp_lt (a := H9 / L9) (b := 10000) (tgt := 270) hx hb d_M_divideBy_261 (by decide) (by omega) (by omega) (fun h_261 => ?_) (fun h_261 => ?_)
                  · skip
                    refine lv_iload hx hb d_M_divideBy_270 (lv_at hl 0 rfl) ?_
                    refine lv_istore (lv' := [(11, .int (nI (H9 / L9))), (9, .long (pn_L ((H9 : Nat) : Int))), (8, .int (nI j)), (6, .long (pn_L ((L9 : Nat) : Int))), (4, .int (nI (mn c9))), (5, .int (nI (mn b))), (0, .ref oM), (1, .int (nI t9)), (2, .int (nI b)), (3, .int (nI c9))]) hx hb d_M_divideBy_272 hl (by decide) rfl (fun ls hl => ?_)
                    have loop274 : ∀ (N : Nat) (f9 : Nat) (w2 : Nat → Nat), f9 < N → (pm_V (pm_w w1 b j) (mn c9 + 1) / v2 ≤ f9) → (f9 ≤ 9999) → (∀ q, pm_at w2 b q = pm_at w1 b q) → (pm_fr b w1 w2) → ∀ (H : Heap) (locs : List Loc) (ls : Array Slot), lv_has ls 12 [(11, .int (nI f9)), (8, .int (nI j)), (6, .long (pn_L ((L9 : Nat) : Int))), (4, .int (nI (mn c9))), (5, .int (nI (mn b))), (0, .ref oM), (1, .int (nI t9)), (2, .int (nI b)), (3, .int (nI c9))] → va_P D pn_cl [(oM, .inr (5, [.int (nI cd), .ref qW, .ref qM, .ref qK, .ref qJ, .ref qG, .ref qH, .ref qP, .int (nI pl)])), (qW, .inl (cI, 22400, .inl (fun z9 => nI (w2 z9)))), (qM, .inl (cI, 7, .inl (fun z9 => nI (mn z9))))] H → va_D A [(oM, .inr (5, [.int (nI cd), .ref qW, .ref qM, .ref qK, .ref qJ, .ref qG, .ref qH, .ref qP, .int (nI pl)])), (qW, .inl (cI, 22400, .inl (fun z9 => nI (w2 z9)))), (qM, .inl (cI, 7, .inl (fun z9 => nI (mn z9))))] → va_S A s.heap H locs → W p l e ({ frames := 1, cells := 0, slots := 0, locals := 50 } : Room) s m ([.ref oM, .int (nI t9), .int (nI b), .int (nI c9)] : List Value).toArray below meth c H locs 0 0 Q (F0 m 274 ls []) := by
                      intro N
                      induction N with
                      | zero => intro f9 w2 hM; exact absurd hM (Nat.not_lt_zero _)
                      | succ N ih274 =>
                        intro f9 w2 hM274 hqf9 hf9 hsm hF2 H locs ls hl hP hD hS
                        refine lv_aload_n hx hb d_M_divideBy_274 rfl (lv_at hl 5 rfl) ?_
                        refine lv_iload_n hx hb d_M_divideBy_275 rfl (lv_at hl 7 rfl) ?_
                        refine lv_iload_n hx hb d_M_divideBy_276 rfl (lv_at hl 8 rfl) ?_
                        refine lv_iload hx hb d_M_divideBy_277 (lv_at hl 1 rfl) ?_
                        refine lv_iload hx hb d_M_divideBy_279 (lv_at hl 0 rfl) ?_
                        have hNc2 : pm_N w2 mn c9 v2 := pm_N_congr hN2 rfl (fun i hi => by rw [hF2 c9 i (Ne.symm hbc) (by omega)]; exact hF c9 i (Ne.symm htc) (Ne.symm hbc) (by omega))
                        refine pn_bi (wr := []) [0, 1, 2] [] hP hD hS hA (pn_rV [.int (nI b), .int (nI c9), .int (nI j), .int (nI f9)] [] Fx hK hN hP hD [0, 1, 2] rfl rfl (c_M_takes l D cI cZ cB cJ _ oM qW qM qK qJ qG qH qP cd pl w2 mn b c9 j f9 v2 hb7 hc7 hbc hNc2 (by omega) (by omega) (fun q hq => by have := hfw q hq; unfold pm_w at this ⊢; rw [hsm]; exact this)) kw_781 cal_M_takes inst_M_takes sel_M_takes ⟨by decide, by decide⟩ ⟨rfl, rfl⟩ 0 rfl rfl rfl rfl hl.1 (Nat.le_of_ble_eq_true rfl) d_M_divideBy_281 ⟨Nat.zero_le _, Nat.zero_le _⟩) rfl rfl rfl (by decide) (fun r_281 u_281 H locs hw hP hD hS => ?_)
                        obtain ⟨r9, w3⟩ := u_281
                        obtain ⟨rfl, htt, htf, htr⟩ := hw
                        have hP : va_P D pn_cl [(oM, .inr (5, [.int (nI cd), .ref qW, .ref qM, .ref qK, .ref qJ, .ref qG, .ref qH, .ref qP, .int (nI pl)])), (qW, .inl (cI, 22400, .inl (fun z9 => nI (w3 z9)))), (qM, .inl (cI, 7, .inl (fun z9 => nI (mn z9))))] H := hP
                        have hD : va_D A [(oM, .inr (5, [.int (nI cd), .ref qW, .ref qM, .ref qK, .ref qJ, .ref qG, .ref qH, .ref qP, .int (nI pl)])), (qW, .inl (cI, 22400, .inl (fun z9 => nI (w3 z9)))), (qM, .inl (cI, 7, .inl (fun z9 => nI (mn z9))))] := hD
                        dsimp only at htt htf htr
                        have hXe : pm_V (pm_w w2 b j) (mn c9 + 1) = pm_V (pm_w w1 b j) (mn c9 + 1) := pm_V_congr (fun i _ => by unfold pm_w; exact hsm _)
                        rw [hXe] at htt htf
                        refine pw_ifb_ne (tgt := 293) hx hb d_M_divideBy_284 (by decide) (fun h_284 => ?_) (fun h_284 => ?_)
                        · skip
                          obtain ⟨ht1, ht2, ht3, ht4⟩ := htt h_284
                          have hfq : f9 = pm_V (pm_w w1 b j) (mn c9 + 1) / v2 := Nat.le_antisymm ((Nat.le_div_iff_mul_le hv20).mpr ht1) hqf9
                          have hmod : pm_V (pm_w w1 b j) (mn c9 + 1) - f9 * v2 = pm_V (pm_w w1 b j) (mn c9 + 1) % v2 := by have := Nat.mod_add_div (pm_V (pm_w w1 b j) (mn c9 + 1)) v2; rw [hfq, Nat.mul_comm]; omega
                          rw [hmod] at ht2
                          obtain ⟨w4, hw4⟩ : ∃ q, q = pn_up w3 (3200 * t9 + j) f9 := ⟨_, rfl⟩
                          have h4b : ∀ i, i < 3200 → pm_at w4 b i = pm_at w3 b i := fun i hi => by rw [hw4]; exact pm_at_ne (Ne.symm htb) (by omega) hi
                          have h4t : pm_at w4 t9 = pn_up (pm_at w3 t9) j f9 := by rw [hw4]; exact pm_at_up _ _ _ _
                          have hF3 : pm_fr2 t9 b wk w4 := fun c8 i h1 h2 hi => by rw [hw4, pm_at_ne h1 (by omega) hi, htr c8 i h2 hi, hF2 c8 i h2 hi]; exact hF c8 i h1 h2 hi
                          have hw3t : ∀ i, i < 3200 → pm_at w3 t9 i = pm_at w1 t9 i := fun i hi => by rw [htr t9 i htb hi, hF2 t9 i htb hi]
                          have hfb3 : pm_fig (pm_at w4 b) (mn b + 1) := fun i hi => by rw [h4b i (by omega)]; by_cases y : i < j ∨ j + mn c9 < i; (· rw [ht4 i y, hsm i]; exact hfb i hi); (· have := ht3 (i - j) (by omega); unfold pm_w at this; rw [show j + (i - j) = i by omega] at this; exact this)
                          have hft3 : ∀ i, j ≤ i → i < mn b - mn c9 + 1 → pm_at w4 t9 i < 10000 := fun i h1 h2 => by rw [h4t]; by_cases y : i = j; (· subst y; rw [pn_up_s]; omega); (· rw [pn_up_n y, hw3t i (by omega)]; exact hft i (by omega) h2)
                          have hVj : pm_V (pm_at w4 b) j = pm_V (pm_at w1 b) j := pm_V_congr (fun i hi => by rw [h4b i (by omega), ht4 i (Or.inl hi), hsm i])
                          have hVw : pm_V (pm_w w4 b j) (mn c9) = pm_V (pm_w w1 b j) (mn c9 + 1) % v2 := by rw [← ht2, ← pm_dv_top (f := pm_w w3 b j) (by rw [ht2]; exact Nat.mod_lt _ hv20) hv2n]; exact pm_V_congr (fun i hi => h4b _ (by omega))
                          have hVn : pm_V (pm_at w4 b) (mn c9 + j) = pm_V (pm_at w1 b) j + 10000 ^ j * (pm_V (pm_w w1 b j) (mn c9 + 1) % v2) := by rw [Nat.add_comm, pm_V_add, hVj]; exact congrArg (fun q => pm_V (pm_at w1 b) j + 10000 ^ j * q) hVw
                          have hR3 : pm_V (pm_at w4 b) (mn c9 + j) < v2 * 10000 ^ j := by rw [hVn]; exact pm_dv_low (pm_V_lt (fun i hi => hfb i (by omega))) hv20
                          have hcg : pm_V (fun i => pm_at w4 t9 (j + (i + 1))) (mn b - mn c9 + 1 - (j + 1)) = pm_V (fun i => pm_at w1 t9 (j + 1 + i)) (mn b - mn c9 + 1 - (j + 1)) := pm_V_congr (fun i hi => by show pm_at w4 t9 (j + (i + 1)) = pm_at w1 t9 (j + 1 + i); rw [h4t, pn_up_n (by omega), show j + (i + 1) = j + 1 + i by omega]; exact hw3t _ (by omega))
                          have hhd : pm_V (fun i => pm_at w4 t9 (j + i)) (mn b - mn c9 + 1 - (j + 1) + 1) = f9 + 10000 * pm_V (fun i => pm_at w1 t9 (j + 1 + i)) (mn b - mn c9 + 1 - (j + 1)) := by rw [pm_V_head]; show pm_at w4 t9 (j + 0) + 10000 * pm_V (fun i => pm_at w4 t9 (j + (i + 1))) (mn b - mn c9 + 1 - (j + 1)) = _; rw [hcg, h4t, Nat.add_zero, pn_up_s]
                          have hQ3 : v = pm_V (pm_at w4 b) (mn c9 + j) + v2 * (10000 ^ j * pm_V (fun i => pm_at w4 t9 (j + i)) (mn b - mn c9 + 1 - j)) := by rw [hVn, show mn b - mn c9 + 1 - j = (mn b - mn c9 + 1 - (j + 1)) + 1 by omega, hhd, hfq]; exact pm_dv_eq hQX
                          refine lv_aload_n hx hb d_M_divideBy_293 rfl (lv_at hl 5 rfl) ?_
                          refine pw_get Fx hK hP fld_M 0 rfl 1 (by decide) kw_631 (v := .ref qW) rfl d_M_divideBy_294 ?_
                          refine lv_sipush (v := nI 3200) hx hb d_M_divideBy_297 (by decide) ?_
                          refine lv_iload_n hx hb d_M_divideBy_300 rfl (lv_at hl 6 rfl) ?_
                          refine pw_imul hx hb d_M_divideBy_301 ?_
                          refine lv_iload hx hb d_M_divideBy_302 (lv_at hl 1 rfl) ?_
                          refine pw_iadd hx hb d_M_divideBy_304 ?_
                          refine lv_iload hx hb d_M_divideBy_305 (lv_at hl 0 rfl) ?_
                          refine pw_iastN Fx hK hP hD hS 1 0 (g := w3) rfl rfl (k := 3200 * t9 + j) (by omega) (by decide) (w' := [(oM, .inr (5, [.int (nI cd), .ref qW, .ref qM, .ref qK, .ref qJ, .ref qG, .ref qH, .ref qP, .int (nI pl)])), (qW, .inl (cI, 22400, .inl (fun z9 => nI ((pn_up w3 (3200 * t9 + j) f9) z9)))), (qM, .inl (cI, 7, .inl (fun z9 => nI (mn z9))))]) rfl d_M_divideBy_307 (fun H locs hP hD hS => ?_)
                          rw [← hw4] at hP hD
                          refine lv_iinc (v := pn_I ((j : Int) - 1)) (lv' := [(8, .int (pn_I ((j : Int) - 1))), (11, .int (nI f9)), (6, .long (pn_L ((L9 : Nat) : Int))), (4, .int (nI (mn c9))), (5, .int (nI (mn b))), (0, .ref oM), (1, .int (nI t9)), (2, .int (nI b)), (3, .int (nI c9))]) hx hb d_M_divideBy_308 hl (k := 1) rfl (pn_dec' _) (by decide) rfl (fun ls hl => ?_)
                          refine lv_goto (tgt := 132) hx hb d_M_divideBy_311 (by decide) ?_
                          exact ih132 j _ (by omega) (by omega) hF3 hfb3 hft3 hR3 hQ3 _ _ _ (lv_sub hl [0, 2, 3, 4, 5, 6, 7, 8] rfl) hP hD hS
                        · skip
                          obtain ⟨ht1, ht2⟩ := htf h_284
                          have hlt9 : pm_V (pm_w w1 b j) (mn c9 + 1) / v2 < f9 := (Nat.div_lt_iff_lt_mul hv20).mpr ht1
                          have hf1 : 1 ≤ f9 := Nat.lt_of_le_of_lt (Nat.zero_le _) hlt9
                          refine lv_iinc (v := nI (f9 - 1)) (lv' := [(11, .int (nI (f9 - 1))), (8, .int (nI j)), (6, .long (pn_L ((L9 : Nat) : Int))), (4, .int (nI (mn c9))), (5, .int (nI (mn b))), (0, .ref oM), (1, .int (nI t9)), (2, .int (nI b)), (3, .int (nI c9))]) hx hb d_M_divideBy_287 hl (k := 0) rfl (sb_m1 (by omega)) (by decide) rfl (fun ls hl => ?_)
                          refine lv_goto (tgt := 274) hx hb d_M_divideBy_290 (by decide) ?_
                          exact ih274 (f9 - 1) w3 (by omega) (by omega) (by omega) (fun q => by rw [ht2 q]; exact hsm q) (fun c8 i h1 hi => by rw [htr c8 i h1 hi]; exact hF2 c8 i h1 hi) _ _ _ hl hP hD hS
                    exact loop274 _ (H9 / L9) w1 (Nat.lt_succ_self _) (by omega) (by omega) (fun _ => rfl) pm_fr_refl _ _ _ (lv_sub hl [0, 2, 3, 4, 5, 6, 7, 8, 9] rfl) hP hD hS
                  · skip
                    refine lv_sipush (v := nI 9999) hx hb d_M_divideBy_264 (by decide) ?_
                    refine lv_goto (tgt := 272) hx hb d_M_divideBy_267 (by decide) ?_
                    refine lv_istore (lv' := [(11, .int (nI 9999)), (9, .long (pn_L ((H9 : Nat) : Int))), (8, .int (nI j)), (6, .long (pn_L ((L9 : Nat) : Int))), (4, .int (nI (mn c9))), (5, .int (nI (mn b))), (0, .ref oM), (1, .int (nI t9)), (2, .int (nI b)), (3, .int (nI c9))]) hx hb d_M_divideBy_272 hl (by decide) rfl (fun ls hl => ?_)
                    have loop274 : ∀ (N : Nat) (f9 : Nat) (w2 : Nat → Nat), f9 < N → (pm_V (pm_w w1 b j) (mn c9 + 1) / v2 ≤ f9) → (f9 ≤ 9999) → (∀ q, pm_at w2 b q = pm_at w1 b q) → (pm_fr b w1 w2) → ∀ (H : Heap) (locs : List Loc) (ls : Array Slot), lv_has ls 12 [(11, .int (nI f9)), (8, .int (nI j)), (6, .long (pn_L ((L9 : Nat) : Int))), (4, .int (nI (mn c9))), (5, .int (nI (mn b))), (0, .ref oM), (1, .int (nI t9)), (2, .int (nI b)), (3, .int (nI c9))] → va_P D pn_cl [(oM, .inr (5, [.int (nI cd), .ref qW, .ref qM, .ref qK, .ref qJ, .ref qG, .ref qH, .ref qP, .int (nI pl)])), (qW, .inl (cI, 22400, .inl (fun z9 => nI (w2 z9)))), (qM, .inl (cI, 7, .inl (fun z9 => nI (mn z9))))] H → va_D A [(oM, .inr (5, [.int (nI cd), .ref qW, .ref qM, .ref qK, .ref qJ, .ref qG, .ref qH, .ref qP, .int (nI pl)])), (qW, .inl (cI, 22400, .inl (fun z9 => nI (w2 z9)))), (qM, .inl (cI, 7, .inl (fun z9 => nI (mn z9))))] → va_S A s.heap H locs → W p l e ({ frames := 1, cells := 0, slots := 0, locals := 50 } : Room) s m ([.ref oM, .int (nI t9), .int (nI b), .int (nI c9)] : List Value).toArray below meth c H locs 0 0 Q (F0 m 274 ls []) := by
                      intro N
                      induction N with
                      | zero => intro f9 w2 hM; exact absurd hM (Nat.not_lt_zero _)
                      | succ N ih274 =>
                        intro f9 w2 hM274 hqf9 hf9 hsm hF2 H locs ls hl hP hD hS
                        refine lv_aload_n hx hb d_M_divideBy_274 rfl (lv_at hl 5 rfl) ?_
                        refine lv_iload_n hx hb d_M_divideBy_275 rfl (lv_at hl 7 rfl) ?_
                        refine lv_iload_n hx hb d_M_divideBy_276 rfl (lv_at hl 8 rfl) ?_
                        refine lv_iload hx hb d_M_divideBy_277 (lv_at hl 1 rfl) ?_
                        refine lv_iload hx hb d_M_divideBy_279 (lv_at hl 0 rfl) ?_
                        have hNc2 : pm_N w2 mn c9 v2 := pm_N_congr hN2 rfl (fun i hi => by rw [hF2 c9 i (Ne.symm hbc) (by omega)]; exact hF c9 i (Ne.symm htc) (Ne.symm hbc) (by omega))
                        refine pn_bi (wr := []) [0, 1, 2] [] hP hD hS hA (pn_rV [.int (nI b), .int (nI c9), .int (nI j), .int (nI f9)] [] Fx hK hN hP hD [0, 1, 2] rfl rfl (c_M_takes l D cI cZ cB cJ _ oM qW qM qK qJ qG qH qP cd pl w2 mn b c9 j f9 v2 hb7 hc7 hbc hNc2 (by omega) (by omega) (fun q hq => by have := hfw q hq; unfold pm_w at this ⊢; rw [hsm]; exact this)) kw_781 cal_M_takes inst_M_takes sel_M_takes ⟨by decide, by decide⟩ ⟨rfl, rfl⟩ 0 rfl rfl rfl rfl hl.1 (Nat.le_of_ble_eq_true rfl) d_M_divideBy_281 ⟨Nat.zero_le _, Nat.zero_le _⟩) rfl rfl rfl (by decide) (fun r_281 u_281 H locs hw hP hD hS => ?_)
                        obtain ⟨r9, w3⟩ := u_281
                        obtain ⟨rfl, htt, htf, htr⟩ := hw
                        have hP : va_P D pn_cl [(oM, .inr (5, [.int (nI cd), .ref qW, .ref qM, .ref qK, .ref qJ, .ref qG, .ref qH, .ref qP, .int (nI pl)])), (qW, .inl (cI, 22400, .inl (fun z9 => nI (w3 z9)))), (qM, .inl (cI, 7, .inl (fun z9 => nI (mn z9))))] H := hP
                        have hD : va_D A [(oM, .inr (5, [.int (nI cd), .ref qW, .ref qM, .ref qK, .ref qJ, .ref qG, .ref qH, .ref qP, .int (nI pl)])), (qW, .inl (cI, 22400, .inl (fun z9 => nI (w3 z9)))), (qM, .inl (cI, 7, .inl (fun z9 => nI (mn z9))))] := hD
                        dsimp only at htt htf htr
                        have hXe : pm_V (pm_w w2 b j) (mn c9 + 1) = pm_V (pm_w w1 b j) (mn c9 + 1) := pm_V_congr (fun i _ => by unfold pm_w; exact hsm _)
                        rw [hXe] at htt htf
                        refine pw_ifb_ne (tgt := 293) hx hb d_M_divideBy_284 (by decide) (fun h_284 => ?_) (fun h_284 => ?_)
                        · skip
                          obtain ⟨ht1, ht2, ht3, ht4⟩ := htt h_284
                          have hfq : f9 = pm_V (pm_w w1 b j) (mn c9 + 1) / v2 := Nat.le_antisymm ((Nat.le_div_iff_mul_le hv20).mpr ht1) hqf9
                          have hmod : pm_V (pm_w w1 b j) (mn c9 + 1) - f9 * v2 = pm_V (pm_w w1 b j) (mn c9 + 1) % v2 := by have := Nat.mod_add_div (pm_V (pm_w w1 b j) (mn c9 + 1)) v2; rw [hfq, Nat.mul_comm]; omega
                          rw [hmod] at ht2
                          obtain ⟨w4, hw4⟩ : ∃ q, q = pn_up w3 (3200 * t9 + j) f9 := ⟨_, rfl⟩
                          have h4b : ∀ i, i < 3200 → pm_at w4 b i = pm_at w3 b i := fun i hi => by rw [hw4]; exact pm_at_ne (Ne.symm htb) (by omega) hi
                          have h4t : pm_at w4 t9 = pn_up (pm_at w3 t9) j f9 := by rw [hw4]; exact pm_at_up _ _ _ _
                          have hF3 : pm_fr2 t9 b wk w4 := fun c8 i h1 h2 hi => by rw [hw4, pm_at_ne h1 (by omega) hi, htr c8 i h2 hi, hF2 c8 i h2 hi]; exact hF c8 i h1 h2 hi
                          have hw3t : ∀ i, i < 3200 → pm_at w3 t9 i = pm_at w1 t9 i := fun i hi => by rw [htr t9 i htb hi, hF2 t9 i htb hi]
                          have hfb3 : pm_fig (pm_at w4 b) (mn b + 1) := fun i hi => by rw [h4b i (by omega)]; by_cases y : i < j ∨ j + mn c9 < i; (· rw [ht4 i y, hsm i]; exact hfb i hi); (· have := ht3 (i - j) (by omega); unfold pm_w at this; rw [show j + (i - j) = i by omega] at this; exact this)
                          have hft3 : ∀ i, j ≤ i → i < mn b - mn c9 + 1 → pm_at w4 t9 i < 10000 := fun i h1 h2 => by rw [h4t]; by_cases y : i = j; (· subst y; rw [pn_up_s]; omega); (· rw [pn_up_n y, hw3t i (by omega)]; exact hft i (by omega) h2)
                          have hVj : pm_V (pm_at w4 b) j = pm_V (pm_at w1 b) j := pm_V_congr (fun i hi => by rw [h4b i (by omega), ht4 i (Or.inl hi), hsm i])
                          have hVw : pm_V (pm_w w4 b j) (mn c9) = pm_V (pm_w w1 b j) (mn c9 + 1) % v2 := by rw [← ht2, ← pm_dv_top (f := pm_w w3 b j) (by rw [ht2]; exact Nat.mod_lt _ hv20) hv2n]; exact pm_V_congr (fun i hi => h4b _ (by omega))
                          have hVn : pm_V (pm_at w4 b) (mn c9 + j) = pm_V (pm_at w1 b) j + 10000 ^ j * (pm_V (pm_w w1 b j) (mn c9 + 1) % v2) := by rw [Nat.add_comm, pm_V_add, hVj]; exact congrArg (fun q => pm_V (pm_at w1 b) j + 10000 ^ j * q) hVw
                          have hR3 : pm_V (pm_at w4 b) (mn c9 + j) < v2 * 10000 ^ j := by rw [hVn]; exact pm_dv_low (pm_V_lt (fun i hi => hfb i (by omega))) hv20
                          have hcg : pm_V (fun i => pm_at w4 t9 (j + (i + 1))) (mn b - mn c9 + 1 - (j + 1)) = pm_V (fun i => pm_at w1 t9 (j + 1 + i)) (mn b - mn c9 + 1 - (j + 1)) := pm_V_congr (fun i hi => by show pm_at w4 t9 (j + (i + 1)) = pm_at w1 t9 (j + 1 + i); rw [h4t, pn_up_n (by omega), show j + (i + 1) = j + 1 + i by omega]; exact hw3t _ (by omega))
                          have hhd : pm_V (fun i => pm_at w4 t9 (j + i)) (mn b - mn c9 + 1 - (j + 1) + 1) = f9 + 10000 * pm_V (fun i => pm_at w1 t9 (j + 1 + i)) (mn b - mn c9 + 1 - (j + 1)) := by rw [pm_V_head]; show pm_at w4 t9 (j + 0) + 10000 * pm_V (fun i => pm_at w4 t9 (j + (i + 1))) (mn b - mn c9 + 1 - (j + 1)) = _; rw [hcg, h4t, Nat.add_zero, pn_up_s]
                          have hQ3 : v = pm_V (pm_at w4 b) (mn c9 + j) + v2 * (10000 ^ j * pm_V (fun i => pm_at w4 t9 (j + i)) (mn b - mn c9 + 1 - j)) := by rw [hVn, show mn b - mn c9 + 1 - j = (mn b - mn c9 + 1 - (j + 1)) + 1 by omega, hhd, hfq]; exact pm_dv_eq hQX
                          refine lv_aload_n hx hb d_M_divideBy_293 rfl (lv_at hl 5 rfl) ?_
                          refine pw_get Fx hK hP fld_M 0 rfl 1 (by decide) kw_631 (v := .ref qW) rfl d_M_divideBy_294 ?_
                          refine lv_sipush (v := nI 3200) hx hb d_M_divideBy_297 (by decide) ?_
                          refine lv_iload_n hx hb d_M_divideBy_300 rfl (lv_at hl 6 rfl) ?_
                          refine pw_imul hx hb d_M_divideBy_301 ?_
                          refine lv_iload hx hb d_M_divideBy_302 (lv_at hl 1 rfl) ?_
                          refine pw_iadd hx hb d_M_divideBy_304 ?_
                          refine lv_iload hx hb d_M_divideBy_305 (lv_at hl 0 rfl) ?_
                          refine pw_iastN Fx hK hP hD hS 1 0 (g := w3) rfl rfl (k := 3200 * t9 + j) (by omega) (by decide) (w' := [(oM, .inr (5, [.int (nI cd), .ref qW, .ref qM, .ref qK, .ref qJ, .ref qG, .ref qH, .ref qP, .int (nI pl)])), (qW, .inl (cI, 22400, .inl (fun z9 => nI ((pn_up w3 (3200 * t9 + j) f9) z9)))), (qM, .inl (cI, 7, .inl (fun z9 => nI (mn z9))))]) rfl d_M_divideBy_307 (fun H locs hP hD hS => ?_)
                          rw [← hw4] at hP hD
                          refine lv_iinc (v := pn_I ((j : Int) - 1)) (lv' := [(8, .int (pn_I ((j : Int) - 1))), (11, .int (nI f9)), (6, .long (pn_L ((L9 : Nat) : Int))), (4, .int (nI (mn c9))), (5, .int (nI (mn b))), (0, .ref oM), (1, .int (nI t9)), (2, .int (nI b)), (3, .int (nI c9))]) hx hb d_M_divideBy_308 hl (k := 1) rfl (pn_dec' _) (by decide) rfl (fun ls hl => ?_)
                          refine lv_goto (tgt := 132) hx hb d_M_divideBy_311 (by decide) ?_
                          exact ih132 j _ (by omega) (by omega) hF3 hfb3 hft3 hR3 hQ3 _ _ _ (lv_sub hl [0, 2, 3, 4, 5, 6, 7, 8] rfl) hP hD hS
                        · skip
                          obtain ⟨ht1, ht2⟩ := htf h_284
                          have hlt9 : pm_V (pm_w w1 b j) (mn c9 + 1) / v2 < f9 := (Nat.div_lt_iff_lt_mul hv20).mpr ht1
                          have hf1 : 1 ≤ f9 := Nat.lt_of_le_of_lt (Nat.zero_le _) hlt9
                          refine lv_iinc (v := nI (f9 - 1)) (lv' := [(11, .int (nI (f9 - 1))), (8, .int (nI j)), (6, .long (pn_L ((L9 : Nat) : Int))), (4, .int (nI (mn c9))), (5, .int (nI (mn b))), (0, .ref oM), (1, .int (nI t9)), (2, .int (nI b)), (3, .int (nI c9))]) hx hb d_M_divideBy_287 hl (k := 0) rfl (sb_m1 (by omega)) (by decide) rfl (fun ls hl => ?_)
                          refine lv_goto (tgt := 274) hx hb d_M_divideBy_290 (by decide) ?_
                          exact ih274 (f9 - 1) w3 (by omega) (by omega) (by omega) (fun q => by rw [ht2 q]; exact hsm q) (fun c8 i h1 hi => by rw [htr c8 i h1 hi]; exact hF2 c8 i h1 hi) _ _ _ hl hP hD hS
                    exact loop274 _ 9999 w1 (Nat.lt_succ_self _) (by omega) (by omega) (fun _ => rfl) pm_fr_refl _ _ _ (lv_sub hl [0, 2, 3, 4, 5, 6, 7, 8, 9] rfl) hP hD hS
        exact loop132 _ (mn b - mn c9 + 1) w0 (Nat.lt_succ_self _) (Nat.le_refl _) (fun c8 i h1 h2 hi => hF0 c8 i h2 hi) hfb0 (fun i h1 h2 => by omega) (by rw [show mn c9 + (mn b - mn c9 + 1) = mn b + 1 by omega, hV0]; exact pm_dv_start (by omega) (pm_N_lt hN1) hlow (by omega)) (by rw [show mn c9 + (mn b - mn c9 + 1) = mn b + 1 by omega, hV0, Nat.sub_self, pm_V_0, Nat.mul_zero, Nat.mul_zero, Nat.add_zero]) _ _ _ (lv_sub hl [0, 1, 3, 2, 4, 5, 6, 7] rfl) hP hD hS
  · skip
    have hvl : v < v2 := by rw [← n4, ← m4]; exact pm_V_fewer n2 m3 h_20
    refine lv_aload_n hx hb d_M_divideBy_23 rfl (lv_at hl 2 rfl) ?_
    refine pw_get Fx hK hP fld_M 0 rfl 2 (by decide) kw_632 (v := .ref qM) rfl d_M_divideBy_24 ?_
    refine lv_iload_n hx hb d_M_divideBy_27 rfl (lv_at hl 3 rfl) ?_
    refine lv_iconst (v := nI 0) hx hb d_M_divideBy_28 (by decide) ?_
    refine pw_iastN Fx hK hP hD hS 2 0 (g := mn) rfl rfl (k := t9) (by omega) (by decide) (w' := [(oM, .inr (5, [.int (nI cd), .ref qW, .ref qM, .ref qK, .ref qJ, .ref qG, .ref qH, .ref qP, .int (nI pl)])), (qW, .inl (cI, 22400, .inl (fun z9 => nI (wk z9)))), (qM, .inl (cI, 7, .inl (fun z9 => nI ((pn_up mn t9 0) z9))))]) rfl d_M_divideBy_29 (fun H locs hP hD hS => ?_)
    exact pn_retv ((wk, pn_up mn t9 0)) Fx hr hlocks hQ hAe hP hD hS (by (try dsimp only); first | done | exact (⟨by rw [Nat.div_eq_of_lt hvl]; exact ⟨by rw [pn_up_s]; omega, by rw [pn_up_s]; exact fun i hi => by omega, by rw [pn_up_s]; exact fun i hi => by omega, by rw [pn_up_s, pm_V_0]⟩, by rw [Nat.mod_eq_of_lt hvl]; exact pm_N_congr hN1 (pn_up_n (Ne.symm htb)) (fun _ _ => rfl), fun c8 x h1 h2 h3 => pm_N_congr h3 (pn_up_n h1) (fun _ _ => rfl)⟩)) d_M_divideBy_30
