theorem pm_10k (j : Nat) : 10000 ^ j = 10 ^ (4 * j) := by rw [Nat.pow_mul]
theorem pm_figv {f : Nat → Nat} {n j : Nat} (hf : pm_fig f n) (hj : j < n) : pm_V f n / 10000 ^ j % 10000 = f j := by
  obtain ⟨m, rfl⟩ : ∃ m, n = j + 1 + m := ⟨n - (j + 1), by omega⟩
  rw [pm_V_add, pm_V_s, pm_P_s]
  have e : ∀ W : Nat, pm_V f j + f j * 10000 ^ j + 10000 ^ j * 10000 * W = pm_V f j + 10000 ^ j * (f j + 10000 * W) := fun W => by rw [Nat.mul_add, Nat.mul_comm (10000 ^ j) (f j), Nat.mul_assoc, Nat.add_assoc]
  rw [e, Nat.add_mul_div_left _ _ (pm_P j), Nat.div_eq_of_lt (pm_V_lt (fun i hi => hf i (by omega))), Nat.zero_add, Nat.add_mul_mod_self_left, Nat.mod_eq_of_lt (hf j (by omega))]
theorem pm_dig4 {w i : Nat} (hi : i < 4) : w % 10000 / 10 ^ i % 10 = w / 10 ^ i % 10 := by
  have e : (10000 : Nat) = 10 ^ i * 10 ^ (4 - i) := by rw [← Nat.pow_add, show i + (4 - i) = 4 by omega]
  have e2 : 10 ^ (4 - i) = 10 * 10 ^ (3 - i) := by rw [← Nat.pow_succ', Nat.succ_eq_add_one, show 3 - i + 1 = 4 - i by omega]
  rw [e, Nat.mod_mul_right_div_self, e2, Nat.mod_mul_right_mod]
theorem pm_digv {f : Nat → Nat} {n j i v : Nat} (hf : pm_fig f n) (hj : j < n) (hv : pm_V f n = v) (hi : i < 4) : f j / 10 ^ i % 10 = v / 10 ^ (4 * j + i) % 10 := by
  rw [← pm_figv hf hj, pm_dig4 hi, hv, pm_10k, pn_dd]
theorem pm_digits {f : Nat} (h0 : f ≠ 0) (h : f < 10000) : ∃ d, 1 ≤ d ∧ d ≤ 4 ∧ f < 10 ^ d ∧ 10 ^ (d - 1) ≤ f ∧ ∀ e, 1 ≤ e → e ≤ 4 → (10 ^ (e - 1) ≤ f ↔ e ≤ d) := by
  have key : ∀ d : Nat, 1 ≤ d → f < 10 ^ d → 10 ^ (d - 1) ≤ f → ∀ e, 1 ≤ e → e ≤ 4 → (10 ^ (e - 1) ≤ f ↔ e ≤ d) := fun d hd h1 h2 e he1 he4 => by
    constructor
    · intro q
      refine Nat.le_of_not_lt (fun z => ?_)
      have : 10 ^ d ≤ 10 ^ (e - 1) := Nat.pow_le_pow_right (by decide) (by omega)
      omega
    · intro q
      exact Nat.le_trans (Nat.pow_le_pow_right (by decide) (by omega)) h2
  rcases Nat.lt_or_ge f 10 with a | a
  · exact ⟨1, by decide, by decide, a, by show 1 ≤ f; omega, key 1 (by decide) a (by show 1 ≤ f; omega)⟩
  · rcases Nat.lt_or_ge f 100 with b | b
    · exact ⟨2, by decide, by decide, b, a, key 2 (by decide) b a⟩
    · rcases Nat.lt_or_ge f 1000 with c | c
      · exact ⟨3, by decide, by decide, c, b, key 3 (by decide) c b⟩
      · exact ⟨4, by decide, by decide, h, c, key 4 (by decide) h c⟩
theorem pm_isD {f : Nat → Nat} {n v : Nat} (hf : pm_fig f n) (hz : pm_nz f n) (hv : pm_V f n = v) : ∃ D, pn_isD v D ∧ (n = 0 → D = 1) ∧ (0 < n → 4 * (n - 1) < D ∧ D ≤ 4 * n ∧ ∀ e, 1 ≤ e → e ≤ 4 → (10 ^ (e - 1) ≤ f (n - 1) ↔ 4 * (n - 1) + e ≤ D)) := by
  rcases Nat.eq_zero_or_pos n with z | z
  · subst z
    rw [pm_V_0] at hv; subst hv
    exact ⟨1, ⟨by decide, by decide, Or.inl rfl⟩, fun _ => rfl, fun q => by omega⟩
  · obtain ⟨m, rfl⟩ : ∃ m, n = m + 1 := ⟨n - 1, by omega⟩
    rw [Nat.add_sub_cancel]
    obtain ⟨d, d1, d2, d3, d4, d5⟩ := pm_digits (hz m rfl) (hf m (by omega))
    have lo := pm_V_lt (f := f) (n := m) (fun i hi => hf i (by omega))
    rw [pm_V_s] at hv
    have u : (f m + 1) * 10000 ^ m ≤ 10 ^ d * 10000 ^ m := Nat.mul_le_mul_right _ d3
    have l : 10 ^ (d - 1) * 10000 ^ m ≤ f m * 10000 ^ m := Nat.mul_le_mul_right _ d4
    rw [Nat.add_mul, Nat.one_mul] at u
    rw [pm_10k, ← Nat.pow_add] at u l
    rw [pm_10k] at lo hv
    refine ⟨4 * m + d, ⟨by omega, ?_, Or.inr ?_⟩, fun q => by omega, fun _ => ⟨by omega, by omega, fun e e1 e2 => ?_⟩⟩
    · rw [show 4 * m + d = d + 4 * m by omega]; omega
    · rw [show 4 * m + d - 1 = d - 1 + 4 * m by omega]; omega
    · rw [d5 e e1 e2]; omega
theorem pm_unit {e : Nat} (h1 : 1 ≤ e) (h4 : e ≤ 4) : 10 ^ e / 10 = 10 ^ (e - 1) ∧ 1 ≤ 10 ^ (e - 1) ∧ 10 ^ (e - 1) ≤ 1000 := by
  rcases (show e = 1 ∨ e = 2 ∨ e = 3 ∨ e = 4 by omega) with rfl | rfl | rfl | rfl <;> decide
theorem pm_chr_end {v : Int} {D sO : Nat} {pr : Nat → Nat} (hs : (v < 0 ∧ sO = 1) ∨ (¬ v < 0 ∧ sO = 0)) (hc : ∀ i, i < D → pr (sO + i) = 48 + v.natAbs / 10 ^ (D - 1 - i) % 10) (hn : v < 0 → pr 0 = 45) : ∀ i, i < pn_tl v D → pr i = pn_chr v D i := by
  intro i hi
  unfold pn_tl at hi
  unfold pn_chr
  rcases hs with ⟨h, rfl⟩ | ⟨h, rfl⟩
  · rw [if_pos h] at hi ⊢
    by_cases z : i = 0
    · rw [if_pos z, z]; exact hn h
    · rw [if_neg z]
      have := hc (i - 1) (by omega)
      rw [show 1 + (i - 1) = i by omega, show D - 1 - (i - 1) = D - i by omega] at this; exact this
  · rw [if_neg h] at hi ⊢
    have := hc i (by omega)
    rw [Nat.zero_add] at this; exact this

set_option maxHeartbeats 4000000 in
set_option maxRecDepth 100000 in
theorem c_M_print (l : Launch) (D : va_G) (cI cZ cB cJ : ClassId) (sz : Nat) (oM qW qM qK qJ qG qH qP cd pl : Nat) (kp km pr : Nat → Nat) (sg : Nat → Int32) (ρ : Nat → Int) (x : Int32) (hρ : pm_regs kp km sg ρ) : pn_Ci l D (pn_ty cI cZ cB cJ) y_M_print w_M_print ({ frames := 2, cells := 0, slots := 0, locals := 80 } : Room) [.ref oM, .int x] [(oM, .inr (5, [.int (nI cd), .ref qW, .ref qM, .ref qK, .ref qJ, .ref qG, .ref qH, .ref qP, .int (nI pl)])), (qK, .inl (cI, 36480, .inl (fun z9 => nI (kp z9)))), (qJ, .inl (cI, 24, .inl (fun z9 => nI (km z9)))), (qG, .inl (cI, 24, .inl sg)), (qP, .inl (cI, 6100, .inl (fun z9 => nI (pr z9))))] sz (S := Nat × Nat × (Nat → Nat)) (fun r u => (u.1 = 1 ∧ ¬ pn_isR x ∧ u.2.1 = pl ∧ u.2.2 = pr) ∨ (∃ k D, k < 24 ∧ x = nI k ∧ pn_isD (ρ k).natAbs D ∧ D ≤ 6030 ∧ r = nI (pn_tl (ρ k) D) ∧ u.1 = 0 ∧ u.2.1 = pn_tl (ρ k) D ∧ ∀ i, i < pn_tl (ρ k) D → u.2.2 i = pn_chr (ρ k) D i)) (fun u => [(oM, .inr (5, [.int (nI u.1), .ref qW, .ref qM, .ref qK, .ref qJ, .ref qG, .ref qH, .ref qP, .int (nI u.2.1)])), (qK, .inl (cI, 36480, .inl (fun z9 => nI (kp z9)))), (qJ, .inl (cI, 24, .inl (fun z9 => nI (km z9)))), (qG, .inl (cI, 24, .inl sg)), (qP, .inl (cI, 6100, .inl (fun z9 => nI (u.2.2 z9))))]) := by
  refine pn_start (by decide) (Nat.le_of_ble_eq_true rfl) ?_
  intro p e s m below meth c A Q ls hQ hAe Fx hr hlocks hN hK hP hD hS hA hl
  have hx := Fx.1
  have hb := Fx.2.1
  have hl : lv_has ls 5 [(0, .ref oM), (1, .int x)] := hl
  refine lv_aload_n hx hb d_M_print_0 rfl (lv_at hl 0 rfl) ?_
  refine lv_iload_n hx hb d_M_print_1 rfl (lv_at hl 1 rfl) ?_
  refine pn_bi (wr := [(oM, .inr (5, [.int (nI cd), .ref qW, .ref qM, .ref qK, .ref qJ, .ref qG, .ref qH, .ref qP, .int (nI pl)])), (qK, .inl (cI, 36480, .inl (fun z9 => nI (kp z9)))), (qJ, .inl (cI, 24, .inl (fun z9 => nI (km z9)))), (qG, .inl (cI, 24, .inl sg)), (qP, .inl (cI, 6100, .inl (fun z9 => nI (pr z9))))]) [] [0, 1, 2, 3, 4] hP hD hS hA (pn_rS [.int x] [.ref oM] Fx hK hN hP hD [] rfl rfl (c_M_isRegister l D cI cZ cB cJ _ x) kw_666 cal_M_isRegister stat_M_isRegister ⟨by decide, by decide⟩ ⟨rfl, rfl⟩ rfl hl.1 (Nat.le_of_ble_eq_true rfl) d_M_print_2 ⟨Nat.zero_le _, Nat.zero_le _⟩) rfl rfl rfl (by decide) (fun r_2 u_2 H locs hw hP hD hS => ?_)
  obtain ⟨rfl, h2⟩ := hw
  have hP : va_P D pn_cl [(oM, .inr (5, [.int (nI cd), .ref qW, .ref qM, .ref qK, .ref qJ, .ref qG, .ref qH, .ref qP, .int (nI pl)])), (qK, .inl (cI, 36480, .inl (fun z9 => nI (kp z9)))), (qJ, .inl (cI, 24, .inl (fun z9 => nI (km z9)))), (qG, .inl (cI, 24, .inl sg)), (qP, .inl (cI, 6100, .inl (fun z9 => nI (pr z9))))] H := hP
  have hD : va_D A [(oM, .inr (5, [.int (nI cd), .ref qW, .ref qM, .ref qK, .ref qJ, .ref qG, .ref qH, .ref qP, .int (nI pl)])), (qK, .inl (cI, 36480, .inl (fun z9 => nI (kp z9)))), (qJ, .inl (cI, 24, .inl (fun z9 => nI (km z9)))), (qG, .inl (cI, 24, .inl sg)), (qP, .inl (cI, 6100, .inl (fun z9 => nI (pr z9))))] := hD
  refine pw_ifb_eq (tgt := 12) hx hb d_M_print_5 (by decide) (fun h_5 => ?_) (fun h_5 => ?_)
  · skip
    have hno : ¬ pn_isR x := fun q => absurd (h2.mpr q) (by rw [h_5]; decide)
    refine lv_iconst (v := nI 1) hx hb d_M_print_12 (by decide) ?_
    refine pn_bi (wr := [(qK, .inl (cI, 36480, .inl (fun z9 => nI (kp z9)))), (qJ, .inl (cI, 24, .inl (fun z9 => nI (km z9)))), (qG, .inl (cI, 24, .inl sg)), (qP, .inl (cI, 6100, .inl (fun z9 => nI (pr z9))))]) [0] [1, 2, 3, 4] hP hD hS hA (pn_rV [.int (nI 1)] [] Fx hK hN hP hD [0] rfl rfl (c_M_refuses l D cI cZ cB cJ _ oM qW qM qK qJ qG qH qP cd pl 1 (by omega)) kw_669 cal_M_refuses inst_M_refuses sel_M_refuses ⟨by decide, by decide⟩ ⟨rfl, rfl⟩ 0 rfl rfl rfl rfl hl.1 (Nat.le_of_ble_eq_true rfl) d_M_print_13 ⟨Nat.zero_le _, Nat.zero_le _⟩) rfl rfl rfl (by decide) (fun r_13 u_13 H locs hw hP hD hS => ?_)
    obtain ⟨rfl, hrf13⟩ := hw
    have hP : va_P D pn_cl [(qK, .inl (cI, 36480, .inl (fun z9 => nI (kp z9)))), (qJ, .inl (cI, 24, .inl (fun z9 => nI (km z9)))), (qG, .inl (cI, 24, .inl sg)), (qP, .inl (cI, 6100, .inl (fun z9 => nI (pr z9)))), (oM, .inr (5, [.int (nI 1), .ref qW, .ref qM, .ref qK, .ref qJ, .ref qG, .ref qH, .ref qP, .int (nI pl)]))] H := hP
    have hD : va_D A [(qK, .inl (cI, 36480, .inl (fun z9 => nI (kp z9)))), (qJ, .inl (cI, 24, .inl (fun z9 => nI (km z9)))), (qG, .inl (cI, 24, .inl sg)), (qP, .inl (cI, 6100, .inl (fun z9 => nI (pr z9)))), (oM, .inr (5, [.int (nI 1), .ref qW, .ref qM, .ref qK, .ref qJ, .ref qG, .ref qH, .ref qP, .int (nI pl)]))] := hD
    refine pw_ifb_eq (tgt := 21) hx hb d_M_print_16 (by decide) (fun h_16 => ?_) (fun h_16 => ?_)
    · skip
      rw [hrf13] at h_16
      exact absurd h_16 (by decide)
    · skip
      refine lv_iconst (v := nI 0) hx hb d_M_print_19 (by decide) ?_
      exact pn_reti ((1, pl, pr)) Fx hr hlocks hQ hAe (hP.sub [4, 0, 1, 2, 3] rfl) (hD.sub [4, 0, 1, 2, 3] (by decide) rfl) hS (by (try dsimp only); first | done | exact (Or.inl ⟨rfl, hno, rfl, rfl⟩)) d_M_print_20
  · skip
    obtain ⟨k, hk, rfl⟩ := h2.mp h_5
    obtain ⟨⟨r1, r2, r3, r4⟩, r5, r6⟩ := hρ k hk
    obtain ⟨D9, hD1, hD2, hD3⟩ := pm_isD r2 r3 r4
    have hD6 := pn_isD_le hD1 (pn_lim r6)
    have hD0 := hD1.1
    refine lv_iconst (v := nI 0) hx hb d_M_print_8 (by decide) ?_
    refine lv_goto (tgt := 13) hx hb d_M_print_9 (by decide) ?_
    refine pn_bi (wr := [(qK, .inl (cI, 36480, .inl (fun z9 => nI (kp z9)))), (qJ, .inl (cI, 24, .inl (fun z9 => nI (km z9)))), (qG, .inl (cI, 24, .inl sg)), (qP, .inl (cI, 6100, .inl (fun z9 => nI (pr z9))))]) [0] [1, 2, 3, 4] hP hD hS hA (pn_rV [.int (nI 0)] [] Fx hK hN hP hD [0] rfl rfl (c_M_refuses l D cI cZ cB cJ _ oM qW qM qK qJ qG qH qP cd pl 0 (by omega)) kw_669 cal_M_refuses inst_M_refuses sel_M_refuses ⟨by decide, by decide⟩ ⟨rfl, rfl⟩ 0 rfl rfl rfl rfl hl.1 (Nat.le_of_ble_eq_true rfl) d_M_print_13 ⟨Nat.zero_le _, Nat.zero_le _⟩) rfl rfl rfl (by decide) (fun r_13 u_13 H locs hw hP hD hS => ?_)
    obtain ⟨rfl, hrf13⟩ := hw
    have hP : va_P D pn_cl [(qK, .inl (cI, 36480, .inl (fun z9 => nI (kp z9)))), (qJ, .inl (cI, 24, .inl (fun z9 => nI (km z9)))), (qG, .inl (cI, 24, .inl sg)), (qP, .inl (cI, 6100, .inl (fun z9 => nI (pr z9)))), (oM, .inr (5, [.int (nI 0), .ref qW, .ref qM, .ref qK, .ref qJ, .ref qG, .ref qH, .ref qP, .int (nI pl)]))] H := hP
    have hD : va_D A [(qK, .inl (cI, 36480, .inl (fun z9 => nI (kp z9)))), (qJ, .inl (cI, 24, .inl (fun z9 => nI (km z9)))), (qG, .inl (cI, 24, .inl sg)), (qP, .inl (cI, 6100, .inl (fun z9 => nI (pr z9)))), (oM, .inr (5, [.int (nI 0), .ref qW, .ref qM, .ref qK, .ref qJ, .ref qG, .ref qH, .ref qP, .int (nI pl)]))] := hD
    refine pw_ifb_eq (tgt := 21) hx hb d_M_print_16 (by decide) (fun h_16 => ?_) (fun h_16 => ?_)
    · skip
      refine lv_aload_n hx hb d_M_print_21 rfl (lv_at hl 0 rfl) ?_
      refine lv_iconst (v := nI 0) hx hb d_M_print_22 (by decide) ?_
      refine pw_put Fx hK hP hD hS fld_M 4 rfl 8 (by decide) kw_638 rfl rfl rfl (Nat.le_of_ble_eq_true rfl) (w' := [(qK, .inl (cI, 36480, .inl (fun z9 => nI (kp z9)))), (qJ, .inl (cI, 24, .inl (fun z9 => nI (km z9)))), (qG, .inl (cI, 24, .inl sg)), (qP, .inl (cI, 6100, .inl (fun z9 => nI (pr z9)))), (oM, .inr (5, [.int (nI 0), .ref qW, .ref qM, .ref qK, .ref qJ, .ref qG, .ref qH, .ref qP, .int (nI 0)]))]) rfl d_M_print_23 (fun H locs hP hD hS => ?_)
      refine lv_aload_n hx hb d_M_print_26 rfl (lv_at hl 0 rfl) ?_
      refine pw_get Fx hK hP fld_M 4 rfl 5 (by decide) kw_635 (v := .ref qG) rfl d_M_print_27 ?_
      refine lv_iload_n hx hb d_M_print_30 rfl (lv_at hl 1 rfl) ?_
      refine pw_iald Fx hK hP 2 0 (f := sg) rfl rfl (k := k) (by omega) (by decide) d_M_print_31 ?_
      refine lv_if_ge (tgt := 48) hx hb d_M_print_32 (by decide) (fun h_32 => ?_) (fun h_32 => ?_)
      · skip
        have hneg : ¬ ρ k < 0 := fun g => by rw [r5, pn_cmp_lt g] at h_32; exact absurd h_32 (by decide)
        obtain ⟨sO, hsO⟩ : ∃ z, z = 0 := ⟨_, rfl⟩
        have hsg : (ρ k < 0 ∧ sO = 1) ∨ (¬ ρ k < 0 ∧ sO = 0) := Or.inr ⟨hneg, hsO⟩
        refine lv_aload_n hx hb d_M_print_48 rfl (lv_at hl 0 rfl) ?_
        refine pw_get Fx hK hP fld_M 4 rfl 4 (by decide) kw_634 (v := .ref qJ) rfl d_M_print_49 ?_
        refine lv_iload_n hx hb d_M_print_52 rfl (lv_at hl 1 rfl) ?_
        refine pw_iald Fx hK hP 1 0 (f := fun z9 => nI (km z9)) rfl rfl (k := k) (by omega) (by decide) d_M_print_53 ?_
        refine pn_topi (nI (km k)) rfl ?_
        refine pw_if_ne (a := km k) (tgt := 70) hx hb d_M_print_54 (by decide) (by omega) (fun h_54 => ?_) (fun h_54 => ?_)
        · skip
          refine lv_aload_n hx hb d_M_print_70 rfl (lv_at hl 0 rfl) ?_
          refine pw_get Fx hK hP fld_M 4 rfl 4 (by decide) kw_634 (v := .ref qJ) rfl d_M_print_71 ?_
          refine lv_iload_n hx hb d_M_print_74 rfl (lv_at hl 1 rfl) ?_
          refine pw_iald Fx hK hP 1 0 (f := fun z9 => nI (km z9)) rfl rfl (k := k) (by omega) (by decide) d_M_print_75 ?_
          refine pn_topi (nI (km k)) rfl ?_
          refine lv_iconst (v := nI 1) hx hb d_M_print_76 (by decide) ?_
          refine lv_isub hx hb d_M_print_77 ?_
          refine pn_topi (pn_I ((km k : Int) - 1)) (pn_dec _) ?_
          refine lv_istore_n (lv' := [(2, .int (pn_I ((km k : Int) - 1))), (0, .ref oM), (1, .int (nI k))]) hx hb d_M_print_78 rfl hl (by decide) rfl (fun ls hl => ?_)
          have loop79 : ∀ (N : Nat) (q : Nat) (pl1 : Nat) (pr1 : Nat → Nat), q < N → (q ≤ km k) → (pl1 = sO + (D9 - 4 * q)) → (∀ i, i < D9 - 4 * q → pr1 (sO + i) = 48 + (ρ k).natAbs / 10 ^ (D9 - 1 - i) % 10) → (ρ k < 0 → pr1 0 = 45) → ∀ (H : Heap) (locs : List Loc) (ls : Array Slot), lv_has ls 5 [(2, .int (pn_I ((q : Int) - 1))), (0, .ref oM), (1, .int (nI k))] → va_P D pn_cl [(oM, .inr (5, [.int (nI 0), .ref qW, .ref qM, .ref qK, .ref qJ, .ref qG, .ref qH, .ref qP, .int (nI pl1)])), (qK, .inl (cI, 36480, .inl (fun z9 => nI (kp z9)))), (qJ, .inl (cI, 24, .inl (fun z9 => nI (km z9)))), (qG, .inl (cI, 24, .inl sg)), (qP, .inl (cI, 6100, .inl (fun z9 => nI (pr1 z9))))] H → va_D A [(oM, .inr (5, [.int (nI 0), .ref qW, .ref qM, .ref qK, .ref qJ, .ref qG, .ref qH, .ref qP, .int (nI pl1)])), (qK, .inl (cI, 36480, .inl (fun z9 => nI (kp z9)))), (qJ, .inl (cI, 24, .inl (fun z9 => nI (km z9)))), (qG, .inl (cI, 24, .inl sg)), (qP, .inl (cI, 6100, .inl (fun z9 => nI (pr1 z9))))] → va_S A s.heap H locs → W p l e ({ frames := 2, cells := 0, slots := 0, locals := 80 } : Room) s m ([.ref oM, .int (nI k)] : List Value).toArray below meth c H locs 0 0 Q (F0 m 79 ls []) := by
            intro N
            induction N with
            | zero => intro q pl1 pr1 hM; exact absurd hM (Nat.not_lt_zero _)
            | succ N ih79 =>
              intro q pl1 pr1 hM79 hq hpl hch hsn H locs ls hl hP hD hS
              refine lv_iload_n hx hb d_M_print_79 rfl (lv_at hl 0 rfl) ?_
              refine lv_if_lt (tgt := 169) hx hb d_M_print_80 (by decide) (fun h_80 => ?_) (fun h_80 => ?_)
              · skip
                have hk0 := pn_dec_0 (by omega) h_80
                subst hk0
                have hplt : pl1 = pn_tl (ρ k) D9 := by unfold pn_tl; rcases hsg with ⟨y1, y2⟩ | ⟨y1, y2⟩; (· rw [if_pos y1]; omega); (· rw [if_neg y1]; omega)
                refine lv_aload_n hx hb d_M_print_169 rfl (lv_at hl 1 rfl) ?_
                refine pw_get Fx hK hP fld_M 0 rfl 8 (by decide) kw_638 (v := .int (nI pl1)) rfl d_M_print_170 ?_
                exact pn_reti ((0, pl1, pr1)) Fx hr hlocks hQ hAe hP hD hS (by (try dsimp only); first | done | exact (Or.inr ⟨k, D9, hk, rfl, hD1, hD6, by rw [hplt], rfl, hplt, pm_chr_end hsg (by rw [Nat.mul_zero, Nat.sub_zero] at hch; exact hch) hsn⟩)) d_M_print_173
              · skip
                obtain ⟨j, rfl⟩ := pn_dec_s h_80
                rw [pn_dec_n] at hl
                have hjn : j < km k := by omega
                have f1 := r2 j hjn
                dsimp only at f1
                obtain ⟨g1, g2, g3⟩ := hD3 (by omega)
                refine lv_aload_n hx hb d_M_print_83 rfl (lv_at hl 1 rfl) ?_
                refine pw_get Fx hK hP fld_M 0 rfl 3 (by decide) kw_633 (v := .ref qK) rfl d_M_print_84 ?_
                refine lv_sipush (v := nI 1520) hx hb d_M_print_87 (by decide) ?_
                refine lv_iload_n hx hb d_M_print_90 rfl (lv_at hl 2 rfl) ?_
                refine pw_imul hx hb d_M_print_91 ?_
                refine lv_iload_n hx hb d_M_print_92 rfl (lv_at hl 0 rfl) ?_
                refine pw_iadd hx hb d_M_print_93 ?_
                refine pw_iald Fx hK hP 1 0 (f := fun z9 => nI (kp z9)) rfl rfl (k := 1520 * k + j) (by omega) (by decide) d_M_print_94 ?_
                refine pn_topi (nI (kp (1520 * k + j))) rfl ?_
                refine lv_istore_n (lv' := [(3, .int (nI (kp (1520 * k + j)))), (2, .int (nI j)), (0, .ref oM), (1, .int (nI k))]) hx hb d_M_print_95 rfl hl (by decide) rfl (fun ls hl => ?_)
                refine lv_sipush (v := nI 1000) hx hb d_M_print_96 (by decide) ?_
                refine lv_istore (lv' := [(4, .int (nI 1000)), (3, .int (nI (kp (1520 * k + j)))), (2, .int (nI j)), (0, .ref oM), (1, .int (nI k))]) hx hb d_M_print_99 hl (by decide) rfl (fun ls hl => ?_)
                have loop101 : ∀ (N : Nat) (e9 : Nat) (pl2 : Nat) (pr2 : Nat → Nat), e9 < N → (e9 ≤ 4) → (pl2 = sO + (D9 - (4 * j + e9))) → (∀ i, i < D9 - (4 * j + e9) → pr2 (sO + i) = 48 + (ρ k).natAbs / 10 ^ (D9 - 1 - i) % 10) → (ρ k < 0 → pr2 0 = 45) → ∀ (H : Heap) (locs : List Loc) (ls : Array Slot), lv_has ls 5 [(4, .int (nI (10 ^ e9 / 10))), (3, .int (nI (kp (1520 * k + j)))), (2, .int (nI j)), (0, .ref oM), (1, .int (nI k))] → va_P D pn_cl [(oM, .inr (5, [.int (nI 0), .ref qW, .ref qM, .ref qK, .ref qJ, .ref qG, .ref qH, .ref qP, .int (nI pl2)])), (qK, .inl (cI, 36480, .inl (fun z9 => nI (kp z9)))), (qJ, .inl (cI, 24, .inl (fun z9 => nI (km z9)))), (qG, .inl (cI, 24, .inl sg)), (qP, .inl (cI, 6100, .inl (fun z9 => nI (pr2 z9))))] H → va_D A [(oM, .inr (5, [.int (nI 0), .ref qW, .ref qM, .ref qK, .ref qJ, .ref qG, .ref qH, .ref qP, .int (nI pl2)])), (qK, .inl (cI, 36480, .inl (fun z9 => nI (kp z9)))), (qJ, .inl (cI, 24, .inl (fun z9 => nI (km z9)))), (qG, .inl (cI, 24, .inl sg)), (qP, .inl (cI, 6100, .inl (fun z9 => nI (pr2 z9))))] → va_S A s.heap H locs → W p l e ({ frames := 2, cells := 0, slots := 0, locals := 80 } : Room) s m ([.ref oM, .int (nI k)] : List Value).toArray below meth c H locs 0 0 Q (F0 m 101 ls []) := by
                  intro N
                  induction N with
                  | zero => intro e9 pl2 pr2 hM; exact absurd hM (Nat.not_lt_zero _)
                  | succ N ih101 =>
                    intro e9 pl2 pr2 hM101 he hpl2 hch2 hsn2 H locs ls hl hP hD hS
                    have hub : 10 ^ e9 / 10 ≤ 1000 := by rcases Nat.eq_zero_or_pos e9 with y | y; (· rw [y]; decide); (· have := pm_unit y he; omega)
                    refine lv_iload hx hb d_M_print_101 (lv_at hl 0 rfl) ?_
                    refine pw_if_le (a := 10 ^ e9 / 10) (tgt := 163) hx hb d_M_print_103 (by decide) (by omega) (fun h_103 => ?_) (fun h_103 => ?_)
                    · skip
                      have he0 : e9 = 0 := by rcases Nat.eq_zero_or_pos e9 with y | y; (· exact y); (· have := pm_unit y he; omega)
                      refine lv_iinc (v := pn_I ((j : Int) - 1)) (lv' := [(2, .int (pn_I ((j : Int) - 1))), (4, .int (nI (10 ^ e9 / 10))), (3, .int (nI (kp (1520 * k + j)))), (0, .ref oM), (1, .int (nI k))]) hx hb d_M_print_163 hl (k := 2) rfl (pn_dec' _) (by decide) rfl (fun ls hl => ?_)
                      refine lv_goto (tgt := 79) hx hb d_M_print_166 (by decide) ?_
                      exact ih79 j pl2 pr2 (by omega) (by omega) (by rw [hpl2, he0]; rfl) (by rw [he0] at hch2; exact hch2) hsn2 _ _ _ (lv_sub hl [0, 3, 4] rfl) hP hD hS
                    · skip
                      have he1 : 1 ≤ e9 := by rcases Nat.eq_zero_or_pos e9 with y | y; (· rw [y] at h_103; exact absurd h_103 (by decide)); (· exact y)
                      have hun := pm_unit he1 he
                      have hdl := Nat.div_le_self (kp (1520 * k + j)) (10 ^ e9 / 10)
                      refine lv_iload_n hx hb d_M_print_106 rfl (lv_at hl 2 rfl) ?_
                      refine lv_aload_n hx hb d_M_print_107 rfl (lv_at hl 3 rfl) ?_
                      refine pw_get Fx hK hP fld_M 0 rfl 4 (by decide) kw_634 (v := .ref qJ) rfl d_M_print_108 ?_
                      refine lv_iload_n hx hb d_M_print_111 rfl (lv_at hl 4 rfl) ?_
                      refine pw_iald Fx hK hP 2 0 (f := fun z9 => nI (km z9)) rfl rfl (k := k) (by omega) (by decide) d_M_print_112 ?_
                      refine pn_topi (nI (km k)) rfl ?_
                      refine lv_iconst (v := nI 1) hx hb d_M_print_113 (by decide) ?_
                      refine pw_isub hx hb d_M_print_114 (by omega) ?_
                      refine pw_icmp_lt (a := j) (b := km k - 1) (tgt := 124) hx hb d_M_print_115 (by decide) (by omega) (by omega) (fun h_115 => ?_) (fun h_115 => ?_)
                      · skip
                        have hpr : 4 * j + e9 ≤ D9 := by omega
                        refine lv_aload_n hx hb d_M_print_124 rfl (lv_at hl 3 rfl) ?_
                        refine pw_get Fx hK hP fld_M 0 rfl 7 (by decide) kw_637 (v := .ref qP) rfl d_M_print_125 ?_
                        refine lv_aload_n hx hb d_M_print_128 rfl (lv_at hl 3 rfl) ?_
                        refine pw_get Fx hK hP fld_M 0 rfl 8 (by decide) kw_638 (v := .int (nI pl2)) rfl d_M_print_129 ?_
                        refine lv_bipush (v := nI 48) hx hb d_M_print_132 (by decide) ?_
                        refine lv_iload_n hx hb d_M_print_134 rfl (lv_at hl 1 rfl) ?_
                        refine lv_iload hx hb d_M_print_135 (lv_at hl 0 rfl) ?_
                        refine pw_idiv hx hb d_M_print_137 (by omega) (by omega) (by omega) ?_
                        refine lv_bipush (v := nI 10) hx hb d_M_print_138 (by decide) ?_
                        refine pw_irem hx hb d_M_print_140 (by omega) (by omega) (by omega) ?_
                        refine pw_iadd hx hb d_M_print_141 ?_
                        refine pw_iastN Fx hK hP hD hS 4 0 (g := pr2) rfl rfl (k := pl2) (by omega) (by decide) (w' := [(oM, .inr (5, [.int (nI 0), .ref qW, .ref qM, .ref qK, .ref qJ, .ref qG, .ref qH, .ref qP, .int (nI pl2)])), (qK, .inl (cI, 36480, .inl (fun z9 => nI (kp z9)))), (qJ, .inl (cI, 24, .inl (fun z9 => nI (km z9)))), (qG, .inl (cI, 24, .inl sg)), (qP, .inl (cI, 6100, .inl (fun z9 => nI ((pn_up pr2 pl2 (48 + (((kp (1520 * k + j)) / (10 ^ e9 / 10)) % 10))) z9))))]) rfl d_M_print_142 (fun H locs hP hD hS => ?_)
                        refine lv_aload_n hx hb d_M_print_143 rfl (lv_at hl 3 rfl) ?_
                        refine lv_dup hx hb d_M_print_144 rfl ?_
                        refine pw_get Fx hK hP fld_M 0 rfl 8 (by decide) kw_638 (v := .int (nI pl2)) rfl d_M_print_145 ?_
                        refine lv_iconst (v := nI 1) hx hb d_M_print_148 (by decide) ?_
                        refine pw_iadd hx hb d_M_print_149 ?_
                        refine pw_put Fx hK hP hD hS fld_M 0 rfl 8 (by decide) kw_638 rfl rfl rfl (Nat.le_of_ble_eq_true rfl) (w' := [(oM, .inr (5, [.int (nI 0), .ref qW, .ref qM, .ref qK, .ref qJ, .ref qG, .ref qH, .ref qP, .int (nI (pl2 + 1))])), (qK, .inl (cI, 36480, .inl (fun z9 => nI (kp z9)))), (qJ, .inl (cI, 24, .inl (fun z9 => nI (km z9)))), (qG, .inl (cI, 24, .inl sg)), (qP, .inl (cI, 6100, .inl (fun z9 => nI ((pn_up pr2 pl2 (48 + (((kp (1520 * k + j)) / (10 ^ e9 / 10)) % 10))) z9))))]) rfl d_M_print_150 (fun H locs hP hD hS => ?_)
                        refine lv_iload hx hb d_M_print_153 (lv_at hl 0 rfl) ?_
                        refine lv_bipush (v := nI 10) hx hb d_M_print_155 (by decide) ?_
                        refine lv_idiv hx hb d_M_print_157 (by decide) ?_
                        refine pn_topi (nI (10 ^ (e9 - 1) / 10)) (by rw [hun.1, pk_div (by omega) (by decide) (by decide)]) ?_
                        refine lv_istore (lv' := [(4, .int (nI (10 ^ (e9 - 1) / 10))), (3, .int (nI (kp (1520 * k + j)))), (2, .int (nI j)), (0, .ref oM), (1, .int (nI k))]) hx hb d_M_print_158 hl (by decide) rfl (fun ls hl => ?_)
                        refine lv_goto (tgt := 101) hx hb d_M_print_160 (by decide) ?_
                        exact ih101 (e9 - 1) (pl2 + 1) _ (by omega) (by omega) (by omega) (fun i hi => by by_cases y : sO + i = pl2; (· rw [y, pn_up_s, hun.1, pm_digv r2 (by omega) r4 (by omega)]; congr 4; omega); (· rw [pn_up_n y]; exact hch2 i (by omega))) (fun y => by rw [pn_up_n (by omega)]; exact hsn2 y) _ _ _ hl hP hD hS
                      · skip
                        have hjl : j = km k - 1 := by omega
                        have hg3 := g3 e9 he1 he
                        have hgf : kp (1520 * k + (km k - 1)) = kp (1520 * k + j) := by rw [hjl]
                        try dsimp only at hg3
                        rw [hgf] at hg3
                        refine lv_iload_n hx hb d_M_print_118 rfl (lv_at hl 1 rfl) ?_
                        refine lv_iload hx hb d_M_print_119 (lv_at hl 0 rfl) ?_
                        refine pw_icmp_lt (a := kp (1520 * k + j)) (b := 10 ^ e9 / 10) (tgt := 153) hx hb d_M_print_121 (by decide) (by omega) (by omega) (fun h_121 => ?_) (fun h_121 => ?_)
                        · skip
                          have hpr : ¬ 4 * j + e9 ≤ D9 := fun y => by have := hg3.mpr (by omega); omega
                          refine lv_iload hx hb d_M_print_153 (lv_at hl 0 rfl) ?_
                          refine lv_bipush (v := nI 10) hx hb d_M_print_155 (by decide) ?_
                          refine lv_idiv hx hb d_M_print_157 (by decide) ?_
                          refine pn_topi (nI (10 ^ (e9 - 1) / 10)) (by rw [hun.1, pk_div (by omega) (by decide) (by decide)]) ?_
                          refine lv_istore (lv' := [(4, .int (nI (10 ^ (e9 - 1) / 10))), (3, .int (nI (kp (1520 * k + j)))), (2, .int (nI j)), (0, .ref oM), (1, .int (nI k))]) hx hb d_M_print_158 hl (by decide) rfl (fun ls hl => ?_)
                          refine lv_goto (tgt := 101) hx hb d_M_print_160 (by decide) ?_
                          exact ih101 (e9 - 1) pl2 _ (by omega) (by omega) (by omega) (fun i hi => hch2 i (by omega)) hsn2 _ _ _ hl hP hD hS
                        · skip
                          have hpr : 4 * j + e9 ≤ D9 := by have := hg3.mp (by omega); omega
                          refine lv_aload_n hx hb d_M_print_124 rfl (lv_at hl 3 rfl) ?_
                          refine pw_get Fx hK hP fld_M 0 rfl 7 (by decide) kw_637 (v := .ref qP) rfl d_M_print_125 ?_
                          refine lv_aload_n hx hb d_M_print_128 rfl (lv_at hl 3 rfl) ?_
                          refine pw_get Fx hK hP fld_M 0 rfl 8 (by decide) kw_638 (v := .int (nI pl2)) rfl d_M_print_129 ?_
                          refine lv_bipush (v := nI 48) hx hb d_M_print_132 (by decide) ?_
                          refine lv_iload_n hx hb d_M_print_134 rfl (lv_at hl 1 rfl) ?_
                          refine lv_iload hx hb d_M_print_135 (lv_at hl 0 rfl) ?_
                          refine pw_idiv hx hb d_M_print_137 (by omega) (by omega) (by omega) ?_
                          refine lv_bipush (v := nI 10) hx hb d_M_print_138 (by decide) ?_
                          refine pw_irem hx hb d_M_print_140 (by omega) (by omega) (by omega) ?_
                          refine pw_iadd hx hb d_M_print_141 ?_
                          refine pw_iastN Fx hK hP hD hS 4 0 (g := pr2) rfl rfl (k := pl2) (by omega) (by decide) (w' := [(oM, .inr (5, [.int (nI 0), .ref qW, .ref qM, .ref qK, .ref qJ, .ref qG, .ref qH, .ref qP, .int (nI pl2)])), (qK, .inl (cI, 36480, .inl (fun z9 => nI (kp z9)))), (qJ, .inl (cI, 24, .inl (fun z9 => nI (km z9)))), (qG, .inl (cI, 24, .inl sg)), (qP, .inl (cI, 6100, .inl (fun z9 => nI ((pn_up pr2 pl2 (48 + (((kp (1520 * k + j)) / (10 ^ e9 / 10)) % 10))) z9))))]) rfl d_M_print_142 (fun H locs hP hD hS => ?_)
                          refine lv_aload_n hx hb d_M_print_143 rfl (lv_at hl 3 rfl) ?_
                          refine lv_dup hx hb d_M_print_144 rfl ?_
                          refine pw_get Fx hK hP fld_M 0 rfl 8 (by decide) kw_638 (v := .int (nI pl2)) rfl d_M_print_145 ?_
                          refine lv_iconst (v := nI 1) hx hb d_M_print_148 (by decide) ?_
                          refine pw_iadd hx hb d_M_print_149 ?_
                          refine pw_put Fx hK hP hD hS fld_M 0 rfl 8 (by decide) kw_638 rfl rfl rfl (Nat.le_of_ble_eq_true rfl) (w' := [(oM, .inr (5, [.int (nI 0), .ref qW, .ref qM, .ref qK, .ref qJ, .ref qG, .ref qH, .ref qP, .int (nI (pl2 + 1))])), (qK, .inl (cI, 36480, .inl (fun z9 => nI (kp z9)))), (qJ, .inl (cI, 24, .inl (fun z9 => nI (km z9)))), (qG, .inl (cI, 24, .inl sg)), (qP, .inl (cI, 6100, .inl (fun z9 => nI ((pn_up pr2 pl2 (48 + (((kp (1520 * k + j)) / (10 ^ e9 / 10)) % 10))) z9))))]) rfl d_M_print_150 (fun H locs hP hD hS => ?_)
                          refine lv_iload hx hb d_M_print_153 (lv_at hl 0 rfl) ?_
                          refine lv_bipush (v := nI 10) hx hb d_M_print_155 (by decide) ?_
                          refine lv_idiv hx hb d_M_print_157 (by decide) ?_
                          refine pn_topi (nI (10 ^ (e9 - 1) / 10)) (by rw [hun.1, pk_div (by omega) (by decide) (by decide)]) ?_
                          refine lv_istore (lv' := [(4, .int (nI (10 ^ (e9 - 1) / 10))), (3, .int (nI (kp (1520 * k + j)))), (2, .int (nI j)), (0, .ref oM), (1, .int (nI k))]) hx hb d_M_print_158 hl (by decide) rfl (fun ls hl => ?_)
                          refine lv_goto (tgt := 101) hx hb d_M_print_160 (by decide) ?_
                          exact ih101 (e9 - 1) (pl2 + 1) _ (by omega) (by omega) (by omega) (fun i hi => by by_cases y : sO + i = pl2; (· rw [y, pn_up_s, hun.1, pm_digv r2 (by omega) r4 (by omega)]; congr 4; omega); (· rw [pn_up_n y]; exact hch2 i (by omega))) (fun y => by rw [pn_up_n (by omega)]; exact hsn2 y) _ _ _ hl hP hD hS
                exact loop101 _ 4 pl1 pr1 (Nat.lt_succ_self _) (by decide) hpl hch hsn _ _ _ hl hP hD hS
          exact loop79 _ (km k) 0 pr (Nat.lt_succ_self _) (Nat.le_refl _) (by have := (hD3 (by omega)).2.1; omega) (fun i hi => by have := (hD3 (by omega)).2.1; omega) (fun q => absurd q hneg) _ _ _ hl (hP.sub [4, 0, 1, 2, 3] rfl) (hD.sub [4, 0, 1, 2, 3] (by decide) rfl) hS
        · skip
          have hkz := h_54
          refine lv_aload_n hx hb d_M_print_57 rfl (lv_at hl 0 rfl) ?_
          refine pw_get Fx hK hP fld_M 4 rfl 7 (by decide) kw_637 (v := .ref qP) rfl d_M_print_58 ?_
          refine lv_iconst (v := nI 0) hx hb d_M_print_61 (by decide) ?_
          refine lv_bipush (v := nI 48) hx hb d_M_print_62 (by decide) ?_
          refine pw_iastN Fx hK hP hD hS 3 0 (g := pr) rfl rfl (k := 0) (by omega) (by decide) (w' := [(qK, .inl (cI, 36480, .inl (fun z9 => nI (kp z9)))), (qJ, .inl (cI, 24, .inl (fun z9 => nI (km z9)))), (qG, .inl (cI, 24, .inl sg)), (qP, .inl (cI, 6100, .inl (fun z9 => nI ((pn_up pr 0 48) z9)))), (oM, .inr (5, [.int (nI 0), .ref qW, .ref qM, .ref qK, .ref qJ, .ref qG, .ref qH, .ref qP, .int (nI 0)]))]) rfl d_M_print_64 (fun H locs hP hD hS => ?_)
          refine lv_aload_n hx hb d_M_print_65 rfl (lv_at hl 0 rfl) ?_
          refine lv_iconst (v := nI 1) hx hb d_M_print_66 (by decide) ?_
          refine pw_put Fx hK hP hD hS fld_M 4 rfl 8 (by decide) kw_638 rfl rfl rfl (Nat.le_of_ble_eq_true rfl) (w' := [(qK, .inl (cI, 36480, .inl (fun z9 => nI (kp z9)))), (qJ, .inl (cI, 24, .inl (fun z9 => nI (km z9)))), (qG, .inl (cI, 24, .inl sg)), (qP, .inl (cI, 6100, .inl (fun z9 => nI ((pn_up pr 0 48) z9)))), (oM, .inr (5, [.int (nI 0), .ref qW, .ref qM, .ref qK, .ref qJ, .ref qG, .ref qH, .ref qP, .int (nI 1)]))]) rfl d_M_print_67 (fun H locs hP hD hS => ?_)
          refine lv_aload_n hx hb d_M_print_70 rfl (lv_at hl 0 rfl) ?_
          refine pw_get Fx hK hP fld_M 4 rfl 4 (by decide) kw_634 (v := .ref qJ) rfl d_M_print_71 ?_
          refine lv_iload_n hx hb d_M_print_74 rfl (lv_at hl 1 rfl) ?_
          refine pw_iald Fx hK hP 1 0 (f := fun z9 => nI (km z9)) rfl rfl (k := k) (by omega) (by decide) d_M_print_75 ?_
          refine pn_topi (nI (km k)) rfl ?_
          refine lv_iconst (v := nI 1) hx hb d_M_print_76 (by decide) ?_
          refine lv_isub hx hb d_M_print_77 ?_
          refine pn_topi (pn_I ((km k : Int) - 1)) (pn_dec _) ?_
          refine lv_istore_n (lv' := [(2, .int (pn_I ((km k : Int) - 1))), (0, .ref oM), (1, .int (nI k))]) hx hb d_M_print_78 rfl hl (by decide) rfl (fun ls hl => ?_)
          have loop79 : ∀ (N : Nat) (q : Nat) (pl1 : Nat) (pr1 : Nat → Nat), q < N → (q ≤ km k) → (pl1 = sO + (D9 - 4 * q)) → (∀ i, i < D9 - 4 * q → pr1 (sO + i) = 48 + (ρ k).natAbs / 10 ^ (D9 - 1 - i) % 10) → (ρ k < 0 → pr1 0 = 45) → ∀ (H : Heap) (locs : List Loc) (ls : Array Slot), lv_has ls 5 [(2, .int (pn_I ((q : Int) - 1))), (0, .ref oM), (1, .int (nI k))] → va_P D pn_cl [(oM, .inr (5, [.int (nI 0), .ref qW, .ref qM, .ref qK, .ref qJ, .ref qG, .ref qH, .ref qP, .int (nI pl1)])), (qK, .inl (cI, 36480, .inl (fun z9 => nI (kp z9)))), (qJ, .inl (cI, 24, .inl (fun z9 => nI (km z9)))), (qG, .inl (cI, 24, .inl sg)), (qP, .inl (cI, 6100, .inl (fun z9 => nI (pr1 z9))))] H → va_D A [(oM, .inr (5, [.int (nI 0), .ref qW, .ref qM, .ref qK, .ref qJ, .ref qG, .ref qH, .ref qP, .int (nI pl1)])), (qK, .inl (cI, 36480, .inl (fun z9 => nI (kp z9)))), (qJ, .inl (cI, 24, .inl (fun z9 => nI (km z9)))), (qG, .inl (cI, 24, .inl sg)), (qP, .inl (cI, 6100, .inl (fun z9 => nI (pr1 z9))))] → va_S A s.heap H locs → W p l e ({ frames := 2, cells := 0, slots := 0, locals := 80 } : Room) s m ([.ref oM, .int (nI k)] : List Value).toArray below meth c H locs 0 0 Q (F0 m 79 ls []) := by
            intro N
            induction N with
            | zero => intro q pl1 pr1 hM; exact absurd hM (Nat.not_lt_zero _)
            | succ N ih79 =>
              intro q pl1 pr1 hM79 hq hpl hch hsn H locs ls hl hP hD hS
              refine lv_iload_n hx hb d_M_print_79 rfl (lv_at hl 0 rfl) ?_
              refine lv_if_lt (tgt := 169) hx hb d_M_print_80 (by decide) (fun h_80 => ?_) (fun h_80 => ?_)
              · skip
                have hk0 := pn_dec_0 (by omega) h_80
                subst hk0
                have hplt : pl1 = pn_tl (ρ k) D9 := by unfold pn_tl; rcases hsg with ⟨y1, y2⟩ | ⟨y1, y2⟩; (· rw [if_pos y1]; omega); (· rw [if_neg y1]; omega)
                refine lv_aload_n hx hb d_M_print_169 rfl (lv_at hl 1 rfl) ?_
                refine pw_get Fx hK hP fld_M 0 rfl 8 (by decide) kw_638 (v := .int (nI pl1)) rfl d_M_print_170 ?_
                exact pn_reti ((0, pl1, pr1)) Fx hr hlocks hQ hAe hP hD hS (by (try dsimp only); first | done | exact (Or.inr ⟨k, D9, hk, rfl, hD1, hD6, by rw [hplt], rfl, hplt, pm_chr_end hsg (by rw [Nat.mul_zero, Nat.sub_zero] at hch; exact hch) hsn⟩)) d_M_print_173
              · skip
                obtain ⟨j, rfl⟩ := pn_dec_s h_80
                rw [pn_dec_n] at hl
                have hjn : j < km k := by omega
                have f1 := r2 j hjn
                dsimp only at f1
                obtain ⟨g1, g2, g3⟩ := hD3 (by omega)
                refine lv_aload_n hx hb d_M_print_83 rfl (lv_at hl 1 rfl) ?_
                refine pw_get Fx hK hP fld_M 0 rfl 3 (by decide) kw_633 (v := .ref qK) rfl d_M_print_84 ?_
                refine lv_sipush (v := nI 1520) hx hb d_M_print_87 (by decide) ?_
                refine lv_iload_n hx hb d_M_print_90 rfl (lv_at hl 2 rfl) ?_
                refine pw_imul hx hb d_M_print_91 ?_
                refine lv_iload_n hx hb d_M_print_92 rfl (lv_at hl 0 rfl) ?_
                refine pw_iadd hx hb d_M_print_93 ?_
                refine pw_iald Fx hK hP 1 0 (f := fun z9 => nI (kp z9)) rfl rfl (k := 1520 * k + j) (by omega) (by decide) d_M_print_94 ?_
                refine pn_topi (nI (kp (1520 * k + j))) rfl ?_
                refine lv_istore_n (lv' := [(3, .int (nI (kp (1520 * k + j)))), (2, .int (nI j)), (0, .ref oM), (1, .int (nI k))]) hx hb d_M_print_95 rfl hl (by decide) rfl (fun ls hl => ?_)
                refine lv_sipush (v := nI 1000) hx hb d_M_print_96 (by decide) ?_
                refine lv_istore (lv' := [(4, .int (nI 1000)), (3, .int (nI (kp (1520 * k + j)))), (2, .int (nI j)), (0, .ref oM), (1, .int (nI k))]) hx hb d_M_print_99 hl (by decide) rfl (fun ls hl => ?_)
                have loop101 : ∀ (N : Nat) (e9 : Nat) (pl2 : Nat) (pr2 : Nat → Nat), e9 < N → (e9 ≤ 4) → (pl2 = sO + (D9 - (4 * j + e9))) → (∀ i, i < D9 - (4 * j + e9) → pr2 (sO + i) = 48 + (ρ k).natAbs / 10 ^ (D9 - 1 - i) % 10) → (ρ k < 0 → pr2 0 = 45) → ∀ (H : Heap) (locs : List Loc) (ls : Array Slot), lv_has ls 5 [(4, .int (nI (10 ^ e9 / 10))), (3, .int (nI (kp (1520 * k + j)))), (2, .int (nI j)), (0, .ref oM), (1, .int (nI k))] → va_P D pn_cl [(oM, .inr (5, [.int (nI 0), .ref qW, .ref qM, .ref qK, .ref qJ, .ref qG, .ref qH, .ref qP, .int (nI pl2)])), (qK, .inl (cI, 36480, .inl (fun z9 => nI (kp z9)))), (qJ, .inl (cI, 24, .inl (fun z9 => nI (km z9)))), (qG, .inl (cI, 24, .inl sg)), (qP, .inl (cI, 6100, .inl (fun z9 => nI (pr2 z9))))] H → va_D A [(oM, .inr (5, [.int (nI 0), .ref qW, .ref qM, .ref qK, .ref qJ, .ref qG, .ref qH, .ref qP, .int (nI pl2)])), (qK, .inl (cI, 36480, .inl (fun z9 => nI (kp z9)))), (qJ, .inl (cI, 24, .inl (fun z9 => nI (km z9)))), (qG, .inl (cI, 24, .inl sg)), (qP, .inl (cI, 6100, .inl (fun z9 => nI (pr2 z9))))] → va_S A s.heap H locs → W p l e ({ frames := 2, cells := 0, slots := 0, locals := 80 } : Room) s m ([.ref oM, .int (nI k)] : List Value).toArray below meth c H locs 0 0 Q (F0 m 101 ls []) := by
                  intro N
                  induction N with
                  | zero => intro e9 pl2 pr2 hM; exact absurd hM (Nat.not_lt_zero _)
                  | succ N ih101 =>
                    intro e9 pl2 pr2 hM101 he hpl2 hch2 hsn2 H locs ls hl hP hD hS
                    have hub : 10 ^ e9 / 10 ≤ 1000 := by rcases Nat.eq_zero_or_pos e9 with y | y; (· rw [y]; decide); (· have := pm_unit y he; omega)
                    refine lv_iload hx hb d_M_print_101 (lv_at hl 0 rfl) ?_
                    refine pw_if_le (a := 10 ^ e9 / 10) (tgt := 163) hx hb d_M_print_103 (by decide) (by omega) (fun h_103 => ?_) (fun h_103 => ?_)
                    · skip
                      have he0 : e9 = 0 := by rcases Nat.eq_zero_or_pos e9 with y | y; (· exact y); (· have := pm_unit y he; omega)
                      refine lv_iinc (v := pn_I ((j : Int) - 1)) (lv' := [(2, .int (pn_I ((j : Int) - 1))), (4, .int (nI (10 ^ e9 / 10))), (3, .int (nI (kp (1520 * k + j)))), (0, .ref oM), (1, .int (nI k))]) hx hb d_M_print_163 hl (k := 2) rfl (pn_dec' _) (by decide) rfl (fun ls hl => ?_)
                      refine lv_goto (tgt := 79) hx hb d_M_print_166 (by decide) ?_
                      exact ih79 j pl2 pr2 (by omega) (by omega) (by rw [hpl2, he0]; rfl) (by rw [he0] at hch2; exact hch2) hsn2 _ _ _ (lv_sub hl [0, 3, 4] rfl) hP hD hS
                    · skip
                      have he1 : 1 ≤ e9 := by rcases Nat.eq_zero_or_pos e9 with y | y; (· rw [y] at h_103; exact absurd h_103 (by decide)); (· exact y)
                      have hun := pm_unit he1 he
                      have hdl := Nat.div_le_self (kp (1520 * k + j)) (10 ^ e9 / 10)
                      refine lv_iload_n hx hb d_M_print_106 rfl (lv_at hl 2 rfl) ?_
                      refine lv_aload_n hx hb d_M_print_107 rfl (lv_at hl 3 rfl) ?_
                      refine pw_get Fx hK hP fld_M 0 rfl 4 (by decide) kw_634 (v := .ref qJ) rfl d_M_print_108 ?_
                      refine lv_iload_n hx hb d_M_print_111 rfl (lv_at hl 4 rfl) ?_
                      refine pw_iald Fx hK hP 2 0 (f := fun z9 => nI (km z9)) rfl rfl (k := k) (by omega) (by decide) d_M_print_112 ?_
                      refine pn_topi (nI (km k)) rfl ?_
                      refine lv_iconst (v := nI 1) hx hb d_M_print_113 (by decide) ?_
                      refine pw_isub hx hb d_M_print_114 (by omega) ?_
                      refine pw_icmp_lt (a := j) (b := km k - 1) (tgt := 124) hx hb d_M_print_115 (by decide) (by omega) (by omega) (fun h_115 => ?_) (fun h_115 => ?_)
                      · skip
                        have hpr : 4 * j + e9 ≤ D9 := by omega
                        refine lv_aload_n hx hb d_M_print_124 rfl (lv_at hl 3 rfl) ?_
                        refine pw_get Fx hK hP fld_M 0 rfl 7 (by decide) kw_637 (v := .ref qP) rfl d_M_print_125 ?_
                        refine lv_aload_n hx hb d_M_print_128 rfl (lv_at hl 3 rfl) ?_
                        refine pw_get Fx hK hP fld_M 0 rfl 8 (by decide) kw_638 (v := .int (nI pl2)) rfl d_M_print_129 ?_
                        refine lv_bipush (v := nI 48) hx hb d_M_print_132 (by decide) ?_
                        refine lv_iload_n hx hb d_M_print_134 rfl (lv_at hl 1 rfl) ?_
                        refine lv_iload hx hb d_M_print_135 (lv_at hl 0 rfl) ?_
                        refine pw_idiv hx hb d_M_print_137 (by omega) (by omega) (by omega) ?_
                        refine lv_bipush (v := nI 10) hx hb d_M_print_138 (by decide) ?_
                        refine pw_irem hx hb d_M_print_140 (by omega) (by omega) (by omega) ?_
                        refine pw_iadd hx hb d_M_print_141 ?_
                        refine pw_iastN Fx hK hP hD hS 4 0 (g := pr2) rfl rfl (k := pl2) (by omega) (by decide) (w' := [(oM, .inr (5, [.int (nI 0), .ref qW, .ref qM, .ref qK, .ref qJ, .ref qG, .ref qH, .ref qP, .int (nI pl2)])), (qK, .inl (cI, 36480, .inl (fun z9 => nI (kp z9)))), (qJ, .inl (cI, 24, .inl (fun z9 => nI (km z9)))), (qG, .inl (cI, 24, .inl sg)), (qP, .inl (cI, 6100, .inl (fun z9 => nI ((pn_up pr2 pl2 (48 + (((kp (1520 * k + j)) / (10 ^ e9 / 10)) % 10))) z9))))]) rfl d_M_print_142 (fun H locs hP hD hS => ?_)
                        refine lv_aload_n hx hb d_M_print_143 rfl (lv_at hl 3 rfl) ?_
                        refine lv_dup hx hb d_M_print_144 rfl ?_
                        refine pw_get Fx hK hP fld_M 0 rfl 8 (by decide) kw_638 (v := .int (nI pl2)) rfl d_M_print_145 ?_
                        refine lv_iconst (v := nI 1) hx hb d_M_print_148 (by decide) ?_
                        refine pw_iadd hx hb d_M_print_149 ?_
                        refine pw_put Fx hK hP hD hS fld_M 0 rfl 8 (by decide) kw_638 rfl rfl rfl (Nat.le_of_ble_eq_true rfl) (w' := [(oM, .inr (5, [.int (nI 0), .ref qW, .ref qM, .ref qK, .ref qJ, .ref qG, .ref qH, .ref qP, .int (nI (pl2 + 1))])), (qK, .inl (cI, 36480, .inl (fun z9 => nI (kp z9)))), (qJ, .inl (cI, 24, .inl (fun z9 => nI (km z9)))), (qG, .inl (cI, 24, .inl sg)), (qP, .inl (cI, 6100, .inl (fun z9 => nI ((pn_up pr2 pl2 (48 + (((kp (1520 * k + j)) / (10 ^ e9 / 10)) % 10))) z9))))]) rfl d_M_print_150 (fun H locs hP hD hS => ?_)
                        refine lv_iload hx hb d_M_print_153 (lv_at hl 0 rfl) ?_
                        refine lv_bipush (v := nI 10) hx hb d_M_print_155 (by decide) ?_
                        refine lv_idiv hx hb d_M_print_157 (by decide) ?_
                        refine pn_topi (nI (10 ^ (e9 - 1) / 10)) (by rw [hun.1, pk_div (by omega) (by decide) (by decide)]) ?_
                        refine lv_istore (lv' := [(4, .int (nI (10 ^ (e9 - 1) / 10))), (3, .int (nI (kp (1520 * k + j)))), (2, .int (nI j)), (0, .ref oM), (1, .int (nI k))]) hx hb d_M_print_158 hl (by decide) rfl (fun ls hl => ?_)
                        refine lv_goto (tgt := 101) hx hb d_M_print_160 (by decide) ?_
                        exact ih101 (e9 - 1) (pl2 + 1) _ (by omega) (by omega) (by omega) (fun i hi => by by_cases y : sO + i = pl2; (· rw [y, pn_up_s, hun.1, pm_digv r2 (by omega) r4 (by omega)]; congr 4; omega); (· rw [pn_up_n y]; exact hch2 i (by omega))) (fun y => by rw [pn_up_n (by omega)]; exact hsn2 y) _ _ _ hl hP hD hS
                      · skip
                        have hjl : j = km k - 1 := by omega
                        have hg3 := g3 e9 he1 he
                        have hgf : kp (1520 * k + (km k - 1)) = kp (1520 * k + j) := by rw [hjl]
                        try dsimp only at hg3
                        rw [hgf] at hg3
                        refine lv_iload_n hx hb d_M_print_118 rfl (lv_at hl 1 rfl) ?_
                        refine lv_iload hx hb d_M_print_119 (lv_at hl 0 rfl) ?_
                        refine pw_icmp_lt (a := kp (1520 * k + j)) (b := 10 ^ e9 / 10) (tgt := 153) hx hb d_M_print_121 (by decide) (by omega) (by omega) (fun h_121 => ?_) (fun h_121 => ?_)
                        · skip
                          have hpr : ¬ 4 * j + e9 ≤ D9 := fun y => by have := hg3.mpr (by omega); omega
                          refine lv_iload hx hb d_M_print_153 (lv_at hl 0 rfl) ?_
                          refine lv_bipush (v := nI 10) hx hb d_M_print_155 (by decide) ?_
                          refine lv_idiv hx hb d_M_print_157 (by decide) ?_
                          refine pn_topi (nI (10 ^ (e9 - 1) / 10)) (by rw [hun.1, pk_div (by omega) (by decide) (by decide)]) ?_
                          refine lv_istore (lv' := [(4, .int (nI (10 ^ (e9 - 1) / 10))), (3, .int (nI (kp (1520 * k + j)))), (2, .int (nI j)), (0, .ref oM), (1, .int (nI k))]) hx hb d_M_print_158 hl (by decide) rfl (fun ls hl => ?_)
                          refine lv_goto (tgt := 101) hx hb d_M_print_160 (by decide) ?_
                          exact ih101 (e9 - 1) pl2 _ (by omega) (by omega) (by omega) (fun i hi => hch2 i (by omega)) hsn2 _ _ _ hl hP hD hS
                        · skip
                          have hpr : 4 * j + e9 ≤ D9 := by have := hg3.mp (by omega); omega
                          refine lv_aload_n hx hb d_M_print_124 rfl (lv_at hl 3 rfl) ?_
                          refine pw_get Fx hK hP fld_M 0 rfl 7 (by decide) kw_637 (v := .ref qP) rfl d_M_print_125 ?_
                          refine lv_aload_n hx hb d_M_print_128 rfl (lv_at hl 3 rfl) ?_
                          refine pw_get Fx hK hP fld_M 0 rfl 8 (by decide) kw_638 (v := .int (nI pl2)) rfl d_M_print_129 ?_
                          refine lv_bipush (v := nI 48) hx hb d_M_print_132 (by decide) ?_
                          refine lv_iload_n hx hb d_M_print_134 rfl (lv_at hl 1 rfl) ?_
                          refine lv_iload hx hb d_M_print_135 (lv_at hl 0 rfl) ?_
                          refine pw_idiv hx hb d_M_print_137 (by omega) (by omega) (by omega) ?_
                          refine lv_bipush (v := nI 10) hx hb d_M_print_138 (by decide) ?_
                          refine pw_irem hx hb d_M_print_140 (by omega) (by omega) (by omega) ?_
                          refine pw_iadd hx hb d_M_print_141 ?_
                          refine pw_iastN Fx hK hP hD hS 4 0 (g := pr2) rfl rfl (k := pl2) (by omega) (by decide) (w' := [(oM, .inr (5, [.int (nI 0), .ref qW, .ref qM, .ref qK, .ref qJ, .ref qG, .ref qH, .ref qP, .int (nI pl2)])), (qK, .inl (cI, 36480, .inl (fun z9 => nI (kp z9)))), (qJ, .inl (cI, 24, .inl (fun z9 => nI (km z9)))), (qG, .inl (cI, 24, .inl sg)), (qP, .inl (cI, 6100, .inl (fun z9 => nI ((pn_up pr2 pl2 (48 + (((kp (1520 * k + j)) / (10 ^ e9 / 10)) % 10))) z9))))]) rfl d_M_print_142 (fun H locs hP hD hS => ?_)
                          refine lv_aload_n hx hb d_M_print_143 rfl (lv_at hl 3 rfl) ?_
                          refine lv_dup hx hb d_M_print_144 rfl ?_
                          refine pw_get Fx hK hP fld_M 0 rfl 8 (by decide) kw_638 (v := .int (nI pl2)) rfl d_M_print_145 ?_
                          refine lv_iconst (v := nI 1) hx hb d_M_print_148 (by decide) ?_
                          refine pw_iadd hx hb d_M_print_149 ?_
                          refine pw_put Fx hK hP hD hS fld_M 0 rfl 8 (by decide) kw_638 rfl rfl rfl (Nat.le_of_ble_eq_true rfl) (w' := [(oM, .inr (5, [.int (nI 0), .ref qW, .ref qM, .ref qK, .ref qJ, .ref qG, .ref qH, .ref qP, .int (nI (pl2 + 1))])), (qK, .inl (cI, 36480, .inl (fun z9 => nI (kp z9)))), (qJ, .inl (cI, 24, .inl (fun z9 => nI (km z9)))), (qG, .inl (cI, 24, .inl sg)), (qP, .inl (cI, 6100, .inl (fun z9 => nI ((pn_up pr2 pl2 (48 + (((kp (1520 * k + j)) / (10 ^ e9 / 10)) % 10))) z9))))]) rfl d_M_print_150 (fun H locs hP hD hS => ?_)
                          refine lv_iload hx hb d_M_print_153 (lv_at hl 0 rfl) ?_
                          refine lv_bipush (v := nI 10) hx hb d_M_print_155 (by decide) ?_
                          refine lv_idiv hx hb d_M_print_157 (by decide) ?_
                          refine pn_topi (nI (10 ^ (e9 - 1) / 10)) (by rw [hun.1, pk_div (by omega) (by decide) (by decide)]) ?_
                          refine lv_istore (lv' := [(4, .int (nI (10 ^ (e9 - 1) / 10))), (3, .int (nI (kp (1520 * k + j)))), (2, .int (nI j)), (0, .ref oM), (1, .int (nI k))]) hx hb d_M_print_158 hl (by decide) rfl (fun ls hl => ?_)
                          refine lv_goto (tgt := 101) hx hb d_M_print_160 (by decide) ?_
                          exact ih101 (e9 - 1) (pl2 + 1) _ (by omega) (by omega) (by omega) (fun i hi => by by_cases y : sO + i = pl2; (· rw [y, pn_up_s, hun.1, pm_digv r2 (by omega) r4 (by omega)]; congr 4; omega); (· rw [pn_up_n y]; exact hch2 i (by omega))) (fun y => by rw [pn_up_n (by omega)]; exact hsn2 y) _ _ _ hl hP hD hS
                exact loop101 _ 4 pl1 pr1 (Nat.lt_succ_self _) (by decide) hpl hch hsn _ _ _ hl hP hD hS
          exact loop79 _ (km k) 1 (pn_up pr 0 48) (Nat.lt_succ_self _) (Nat.le_refl _) (by have := hD2 hkz; omega) (fun i hi => by have hD1 := hD2 hkz; have hv0 : (ρ k).natAbs = 0 := (by rw [← r4, hkz]; rfl); rw [show sO + i = 0 by omega, pn_up_s, hv0, Nat.zero_div]) (fun q => absurd q hneg) _ _ _ hl (hP.sub [4, 0, 1, 2, 3] rfl) (hD.sub [4, 0, 1, 2, 3] (by decide) rfl) hS
      · skip
        have hneg : ρ k < 0 := pn_cmp_neg.mp (by rw [← r5]; exact Int32.not_le.mp h_32)
        obtain ⟨sO, hsO⟩ : ∃ z, z = 1 := ⟨_, rfl⟩
        have hsg : (ρ k < 0 ∧ sO = 1) ∨ (¬ ρ k < 0 ∧ sO = 0) := Or.inl ⟨hneg, hsO⟩
        refine lv_aload_n hx hb d_M_print_35 rfl (lv_at hl 0 rfl) ?_
        refine pw_get Fx hK hP fld_M 4 rfl 7 (by decide) kw_637 (v := .ref qP) rfl d_M_print_36 ?_
        refine lv_iconst (v := nI 0) hx hb d_M_print_39 (by decide) ?_
        refine lv_bipush (v := nI 45) hx hb d_M_print_40 (by decide) ?_
        refine pw_iastN Fx hK hP hD hS 3 0 (g := pr) rfl rfl (k := 0) (by omega) (by decide) (w' := [(qK, .inl (cI, 36480, .inl (fun z9 => nI (kp z9)))), (qJ, .inl (cI, 24, .inl (fun z9 => nI (km z9)))), (qG, .inl (cI, 24, .inl sg)), (qP, .inl (cI, 6100, .inl (fun z9 => nI ((pn_up pr 0 45) z9)))), (oM, .inr (5, [.int (nI 0), .ref qW, .ref qM, .ref qK, .ref qJ, .ref qG, .ref qH, .ref qP, .int (nI 0)]))]) rfl d_M_print_42 (fun H locs hP hD hS => ?_)
        refine lv_aload_n hx hb d_M_print_43 rfl (lv_at hl 0 rfl) ?_
        refine lv_iconst (v := nI 1) hx hb d_M_print_44 (by decide) ?_
        refine pw_put Fx hK hP hD hS fld_M 4 rfl 8 (by decide) kw_638 rfl rfl rfl (Nat.le_of_ble_eq_true rfl) (w' := [(qK, .inl (cI, 36480, .inl (fun z9 => nI (kp z9)))), (qJ, .inl (cI, 24, .inl (fun z9 => nI (km z9)))), (qG, .inl (cI, 24, .inl sg)), (qP, .inl (cI, 6100, .inl (fun z9 => nI ((pn_up pr 0 45) z9)))), (oM, .inr (5, [.int (nI 0), .ref qW, .ref qM, .ref qK, .ref qJ, .ref qG, .ref qH, .ref qP, .int (nI 1)]))]) rfl d_M_print_45 (fun H locs hP hD hS => ?_)
        refine lv_aload_n hx hb d_M_print_48 rfl (lv_at hl 0 rfl) ?_
        refine pw_get Fx hK hP fld_M 4 rfl 4 (by decide) kw_634 (v := .ref qJ) rfl d_M_print_49 ?_
        refine lv_iload_n hx hb d_M_print_52 rfl (lv_at hl 1 rfl) ?_
        refine pw_iald Fx hK hP 1 0 (f := fun z9 => nI (km z9)) rfl rfl (k := k) (by omega) (by decide) d_M_print_53 ?_
        refine pn_topi (nI (km k)) rfl ?_
        refine pw_if_ne (a := km k) (tgt := 70) hx hb d_M_print_54 (by decide) (by omega) (fun h_54 => ?_) (fun h_54 => ?_)
        · skip
          refine lv_aload_n hx hb d_M_print_70 rfl (lv_at hl 0 rfl) ?_
          refine pw_get Fx hK hP fld_M 4 rfl 4 (by decide) kw_634 (v := .ref qJ) rfl d_M_print_71 ?_
          refine lv_iload_n hx hb d_M_print_74 rfl (lv_at hl 1 rfl) ?_
          refine pw_iald Fx hK hP 1 0 (f := fun z9 => nI (km z9)) rfl rfl (k := k) (by omega) (by decide) d_M_print_75 ?_
          refine pn_topi (nI (km k)) rfl ?_
          refine lv_iconst (v := nI 1) hx hb d_M_print_76 (by decide) ?_
          refine lv_isub hx hb d_M_print_77 ?_
          refine pn_topi (pn_I ((km k : Int) - 1)) (pn_dec _) ?_
          refine lv_istore_n (lv' := [(2, .int (pn_I ((km k : Int) - 1))), (0, .ref oM), (1, .int (nI k))]) hx hb d_M_print_78 rfl hl (by decide) rfl (fun ls hl => ?_)
          have loop79 : ∀ (N : Nat) (q : Nat) (pl1 : Nat) (pr1 : Nat → Nat), q < N → (q ≤ km k) → (pl1 = sO + (D9 - 4 * q)) → (∀ i, i < D9 - 4 * q → pr1 (sO + i) = 48 + (ρ k).natAbs / 10 ^ (D9 - 1 - i) % 10) → (ρ k < 0 → pr1 0 = 45) → ∀ (H : Heap) (locs : List Loc) (ls : Array Slot), lv_has ls 5 [(2, .int (pn_I ((q : Int) - 1))), (0, .ref oM), (1, .int (nI k))] → va_P D pn_cl [(oM, .inr (5, [.int (nI 0), .ref qW, .ref qM, .ref qK, .ref qJ, .ref qG, .ref qH, .ref qP, .int (nI pl1)])), (qK, .inl (cI, 36480, .inl (fun z9 => nI (kp z9)))), (qJ, .inl (cI, 24, .inl (fun z9 => nI (km z9)))), (qG, .inl (cI, 24, .inl sg)), (qP, .inl (cI, 6100, .inl (fun z9 => nI (pr1 z9))))] H → va_D A [(oM, .inr (5, [.int (nI 0), .ref qW, .ref qM, .ref qK, .ref qJ, .ref qG, .ref qH, .ref qP, .int (nI pl1)])), (qK, .inl (cI, 36480, .inl (fun z9 => nI (kp z9)))), (qJ, .inl (cI, 24, .inl (fun z9 => nI (km z9)))), (qG, .inl (cI, 24, .inl sg)), (qP, .inl (cI, 6100, .inl (fun z9 => nI (pr1 z9))))] → va_S A s.heap H locs → W p l e ({ frames := 2, cells := 0, slots := 0, locals := 80 } : Room) s m ([.ref oM, .int (nI k)] : List Value).toArray below meth c H locs 0 0 Q (F0 m 79 ls []) := by
            intro N
            induction N with
            | zero => intro q pl1 pr1 hM; exact absurd hM (Nat.not_lt_zero _)
            | succ N ih79 =>
              intro q pl1 pr1 hM79 hq hpl hch hsn H locs ls hl hP hD hS
              refine lv_iload_n hx hb d_M_print_79 rfl (lv_at hl 0 rfl) ?_
              refine lv_if_lt (tgt := 169) hx hb d_M_print_80 (by decide) (fun h_80 => ?_) (fun h_80 => ?_)
              · skip
                have hk0 := pn_dec_0 (by omega) h_80
                subst hk0
                have hplt : pl1 = pn_tl (ρ k) D9 := by unfold pn_tl; rcases hsg with ⟨y1, y2⟩ | ⟨y1, y2⟩; (· rw [if_pos y1]; omega); (· rw [if_neg y1]; omega)
                refine lv_aload_n hx hb d_M_print_169 rfl (lv_at hl 1 rfl) ?_
                refine pw_get Fx hK hP fld_M 0 rfl 8 (by decide) kw_638 (v := .int (nI pl1)) rfl d_M_print_170 ?_
                exact pn_reti ((0, pl1, pr1)) Fx hr hlocks hQ hAe hP hD hS (by (try dsimp only); first | done | exact (Or.inr ⟨k, D9, hk, rfl, hD1, hD6, by rw [hplt], rfl, hplt, pm_chr_end hsg (by rw [Nat.mul_zero, Nat.sub_zero] at hch; exact hch) hsn⟩)) d_M_print_173
              · skip
                obtain ⟨j, rfl⟩ := pn_dec_s h_80
                rw [pn_dec_n] at hl
                have hjn : j < km k := by omega
                have f1 := r2 j hjn
                dsimp only at f1
                obtain ⟨g1, g2, g3⟩ := hD3 (by omega)
                refine lv_aload_n hx hb d_M_print_83 rfl (lv_at hl 1 rfl) ?_
                refine pw_get Fx hK hP fld_M 0 rfl 3 (by decide) kw_633 (v := .ref qK) rfl d_M_print_84 ?_
                refine lv_sipush (v := nI 1520) hx hb d_M_print_87 (by decide) ?_
                refine lv_iload_n hx hb d_M_print_90 rfl (lv_at hl 2 rfl) ?_
                refine pw_imul hx hb d_M_print_91 ?_
                refine lv_iload_n hx hb d_M_print_92 rfl (lv_at hl 0 rfl) ?_
                refine pw_iadd hx hb d_M_print_93 ?_
                refine pw_iald Fx hK hP 1 0 (f := fun z9 => nI (kp z9)) rfl rfl (k := 1520 * k + j) (by omega) (by decide) d_M_print_94 ?_
                refine pn_topi (nI (kp (1520 * k + j))) rfl ?_
                refine lv_istore_n (lv' := [(3, .int (nI (kp (1520 * k + j)))), (2, .int (nI j)), (0, .ref oM), (1, .int (nI k))]) hx hb d_M_print_95 rfl hl (by decide) rfl (fun ls hl => ?_)
                refine lv_sipush (v := nI 1000) hx hb d_M_print_96 (by decide) ?_
                refine lv_istore (lv' := [(4, .int (nI 1000)), (3, .int (nI (kp (1520 * k + j)))), (2, .int (nI j)), (0, .ref oM), (1, .int (nI k))]) hx hb d_M_print_99 hl (by decide) rfl (fun ls hl => ?_)
                have loop101 : ∀ (N : Nat) (e9 : Nat) (pl2 : Nat) (pr2 : Nat → Nat), e9 < N → (e9 ≤ 4) → (pl2 = sO + (D9 - (4 * j + e9))) → (∀ i, i < D9 - (4 * j + e9) → pr2 (sO + i) = 48 + (ρ k).natAbs / 10 ^ (D9 - 1 - i) % 10) → (ρ k < 0 → pr2 0 = 45) → ∀ (H : Heap) (locs : List Loc) (ls : Array Slot), lv_has ls 5 [(4, .int (nI (10 ^ e9 / 10))), (3, .int (nI (kp (1520 * k + j)))), (2, .int (nI j)), (0, .ref oM), (1, .int (nI k))] → va_P D pn_cl [(oM, .inr (5, [.int (nI 0), .ref qW, .ref qM, .ref qK, .ref qJ, .ref qG, .ref qH, .ref qP, .int (nI pl2)])), (qK, .inl (cI, 36480, .inl (fun z9 => nI (kp z9)))), (qJ, .inl (cI, 24, .inl (fun z9 => nI (km z9)))), (qG, .inl (cI, 24, .inl sg)), (qP, .inl (cI, 6100, .inl (fun z9 => nI (pr2 z9))))] H → va_D A [(oM, .inr (5, [.int (nI 0), .ref qW, .ref qM, .ref qK, .ref qJ, .ref qG, .ref qH, .ref qP, .int (nI pl2)])), (qK, .inl (cI, 36480, .inl (fun z9 => nI (kp z9)))), (qJ, .inl (cI, 24, .inl (fun z9 => nI (km z9)))), (qG, .inl (cI, 24, .inl sg)), (qP, .inl (cI, 6100, .inl (fun z9 => nI (pr2 z9))))] → va_S A s.heap H locs → W p l e ({ frames := 2, cells := 0, slots := 0, locals := 80 } : Room) s m ([.ref oM, .int (nI k)] : List Value).toArray below meth c H locs 0 0 Q (F0 m 101 ls []) := by
                  intro N
                  induction N with
                  | zero => intro e9 pl2 pr2 hM; exact absurd hM (Nat.not_lt_zero _)
                  | succ N ih101 =>
                    intro e9 pl2 pr2 hM101 he hpl2 hch2 hsn2 H locs ls hl hP hD hS
                    have hub : 10 ^ e9 / 10 ≤ 1000 := by rcases Nat.eq_zero_or_pos e9 with y | y; (· rw [y]; decide); (· have := pm_unit y he; omega)
                    refine lv_iload hx hb d_M_print_101 (lv_at hl 0 rfl) ?_
                    refine pw_if_le (a := 10 ^ e9 / 10) (tgt := 163) hx hb d_M_print_103 (by decide) (by omega) (fun h_103 => ?_) (fun h_103 => ?_)
                    · skip
                      have he0 : e9 = 0 := by rcases Nat.eq_zero_or_pos e9 with y | y; (· exact y); (· have := pm_unit y he; omega)
                      refine lv_iinc (v := pn_I ((j : Int) - 1)) (lv' := [(2, .int (pn_I ((j : Int) - 1))), (4, .int (nI (10 ^ e9 / 10))), (3, .int (nI (kp (1520 * k + j)))), (0, .ref oM), (1, .int (nI k))]) hx hb d_M_print_163 hl (k := 2) rfl (pn_dec' _) (by decide) rfl (fun ls hl => ?_)
                      refine lv_goto (tgt := 79) hx hb d_M_print_166 (by decide) ?_
                      exact ih79 j pl2 pr2 (by omega) (by omega) (by rw [hpl2, he0]; rfl) (by rw [he0] at hch2; exact hch2) hsn2 _ _ _ (lv_sub hl [0, 3, 4] rfl) hP hD hS
                    · skip
                      have he1 : 1 ≤ e9 := by rcases Nat.eq_zero_or_pos e9 with y | y; (· rw [y] at h_103; exact absurd h_103 (by decide)); (· exact y)
                      have hun := pm_unit he1 he
                      have hdl := Nat.div_le_self (kp (1520 * k + j)) (10 ^ e9 / 10)
                      refine lv_iload_n hx hb d_M_print_106 rfl (lv_at hl 2 rfl) ?_
                      refine lv_aload_n hx hb d_M_print_107 rfl (lv_at hl 3 rfl) ?_
                      refine pw_get Fx hK hP fld_M 0 rfl 4 (by decide) kw_634 (v := .ref qJ) rfl d_M_print_108 ?_
                      refine lv_iload_n hx hb d_M_print_111 rfl (lv_at hl 4 rfl) ?_
                      refine pw_iald Fx hK hP 2 0 (f := fun z9 => nI (km z9)) rfl rfl (k := k) (by omega) (by decide) d_M_print_112 ?_
                      refine pn_topi (nI (km k)) rfl ?_
                      refine lv_iconst (v := nI 1) hx hb d_M_print_113 (by decide) ?_
                      refine pw_isub hx hb d_M_print_114 (by omega) ?_
                      refine pw_icmp_lt (a := j) (b := km k - 1) (tgt := 124) hx hb d_M_print_115 (by decide) (by omega) (by omega) (fun h_115 => ?_) (fun h_115 => ?_)
                      · skip
                        have hpr : 4 * j + e9 ≤ D9 := by omega
                        refine lv_aload_n hx hb d_M_print_124 rfl (lv_at hl 3 rfl) ?_
                        refine pw_get Fx hK hP fld_M 0 rfl 7 (by decide) kw_637 (v := .ref qP) rfl d_M_print_125 ?_
                        refine lv_aload_n hx hb d_M_print_128 rfl (lv_at hl 3 rfl) ?_
                        refine pw_get Fx hK hP fld_M 0 rfl 8 (by decide) kw_638 (v := .int (nI pl2)) rfl d_M_print_129 ?_
                        refine lv_bipush (v := nI 48) hx hb d_M_print_132 (by decide) ?_
                        refine lv_iload_n hx hb d_M_print_134 rfl (lv_at hl 1 rfl) ?_
                        refine lv_iload hx hb d_M_print_135 (lv_at hl 0 rfl) ?_
                        refine pw_idiv hx hb d_M_print_137 (by omega) (by omega) (by omega) ?_
                        refine lv_bipush (v := nI 10) hx hb d_M_print_138 (by decide) ?_
                        refine pw_irem hx hb d_M_print_140 (by omega) (by omega) (by omega) ?_
                        refine pw_iadd hx hb d_M_print_141 ?_
                        refine pw_iastN Fx hK hP hD hS 4 0 (g := pr2) rfl rfl (k := pl2) (by omega) (by decide) (w' := [(oM, .inr (5, [.int (nI 0), .ref qW, .ref qM, .ref qK, .ref qJ, .ref qG, .ref qH, .ref qP, .int (nI pl2)])), (qK, .inl (cI, 36480, .inl (fun z9 => nI (kp z9)))), (qJ, .inl (cI, 24, .inl (fun z9 => nI (km z9)))), (qG, .inl (cI, 24, .inl sg)), (qP, .inl (cI, 6100, .inl (fun z9 => nI ((pn_up pr2 pl2 (48 + (((kp (1520 * k + j)) / (10 ^ e9 / 10)) % 10))) z9))))]) rfl d_M_print_142 (fun H locs hP hD hS => ?_)
                        refine lv_aload_n hx hb d_M_print_143 rfl (lv_at hl 3 rfl) ?_
                        refine lv_dup hx hb d_M_print_144 rfl ?_
                        refine pw_get Fx hK hP fld_M 0 rfl 8 (by decide) kw_638 (v := .int (nI pl2)) rfl d_M_print_145 ?_
                        refine lv_iconst (v := nI 1) hx hb d_M_print_148 (by decide) ?_
                        refine pw_iadd hx hb d_M_print_149 ?_
                        refine pw_put Fx hK hP hD hS fld_M 0 rfl 8 (by decide) kw_638 rfl rfl rfl (Nat.le_of_ble_eq_true rfl) (w' := [(oM, .inr (5, [.int (nI 0), .ref qW, .ref qM, .ref qK, .ref qJ, .ref qG, .ref qH, .ref qP, .int (nI (pl2 + 1))])), (qK, .inl (cI, 36480, .inl (fun z9 => nI (kp z9)))), (qJ, .inl (cI, 24, .inl (fun z9 => nI (km z9)))), (qG, .inl (cI, 24, .inl sg)), (qP, .inl (cI, 6100, .inl (fun z9 => nI ((pn_up pr2 pl2 (48 + (((kp (1520 * k + j)) / (10 ^ e9 / 10)) % 10))) z9))))]) rfl d_M_print_150 (fun H locs hP hD hS => ?_)
                        refine lv_iload hx hb d_M_print_153 (lv_at hl 0 rfl) ?_
                        refine lv_bipush (v := nI 10) hx hb d_M_print_155 (by decide) ?_
                        refine lv_idiv hx hb d_M_print_157 (by decide) ?_
                        refine pn_topi (nI (10 ^ (e9 - 1) / 10)) (by rw [hun.1, pk_div (by omega) (by decide) (by decide)]) ?_
                        refine lv_istore (lv' := [(4, .int (nI (10 ^ (e9 - 1) / 10))), (3, .int (nI (kp (1520 * k + j)))), (2, .int (nI j)), (0, .ref oM), (1, .int (nI k))]) hx hb d_M_print_158 hl (by decide) rfl (fun ls hl => ?_)
                        refine lv_goto (tgt := 101) hx hb d_M_print_160 (by decide) ?_
                        exact ih101 (e9 - 1) (pl2 + 1) _ (by omega) (by omega) (by omega) (fun i hi => by by_cases y : sO + i = pl2; (· rw [y, pn_up_s, hun.1, pm_digv r2 (by omega) r4 (by omega)]; congr 4; omega); (· rw [pn_up_n y]; exact hch2 i (by omega))) (fun y => by rw [pn_up_n (by omega)]; exact hsn2 y) _ _ _ hl hP hD hS
                      · skip
                        have hjl : j = km k - 1 := by omega
                        have hg3 := g3 e9 he1 he
                        have hgf : kp (1520 * k + (km k - 1)) = kp (1520 * k + j) := by rw [hjl]
                        try dsimp only at hg3
                        rw [hgf] at hg3
                        refine lv_iload_n hx hb d_M_print_118 rfl (lv_at hl 1 rfl) ?_
                        refine lv_iload hx hb d_M_print_119 (lv_at hl 0 rfl) ?_
                        refine pw_icmp_lt (a := kp (1520 * k + j)) (b := 10 ^ e9 / 10) (tgt := 153) hx hb d_M_print_121 (by decide) (by omega) (by omega) (fun h_121 => ?_) (fun h_121 => ?_)
                        · skip
                          have hpr : ¬ 4 * j + e9 ≤ D9 := fun y => by have := hg3.mpr (by omega); omega
                          refine lv_iload hx hb d_M_print_153 (lv_at hl 0 rfl) ?_
                          refine lv_bipush (v := nI 10) hx hb d_M_print_155 (by decide) ?_
                          refine lv_idiv hx hb d_M_print_157 (by decide) ?_
                          refine pn_topi (nI (10 ^ (e9 - 1) / 10)) (by rw [hun.1, pk_div (by omega) (by decide) (by decide)]) ?_
                          refine lv_istore (lv' := [(4, .int (nI (10 ^ (e9 - 1) / 10))), (3, .int (nI (kp (1520 * k + j)))), (2, .int (nI j)), (0, .ref oM), (1, .int (nI k))]) hx hb d_M_print_158 hl (by decide) rfl (fun ls hl => ?_)
                          refine lv_goto (tgt := 101) hx hb d_M_print_160 (by decide) ?_
                          exact ih101 (e9 - 1) pl2 _ (by omega) (by omega) (by omega) (fun i hi => hch2 i (by omega)) hsn2 _ _ _ hl hP hD hS
                        · skip
                          have hpr : 4 * j + e9 ≤ D9 := by have := hg3.mp (by omega); omega
                          refine lv_aload_n hx hb d_M_print_124 rfl (lv_at hl 3 rfl) ?_
                          refine pw_get Fx hK hP fld_M 0 rfl 7 (by decide) kw_637 (v := .ref qP) rfl d_M_print_125 ?_
                          refine lv_aload_n hx hb d_M_print_128 rfl (lv_at hl 3 rfl) ?_
                          refine pw_get Fx hK hP fld_M 0 rfl 8 (by decide) kw_638 (v := .int (nI pl2)) rfl d_M_print_129 ?_
                          refine lv_bipush (v := nI 48) hx hb d_M_print_132 (by decide) ?_
                          refine lv_iload_n hx hb d_M_print_134 rfl (lv_at hl 1 rfl) ?_
                          refine lv_iload hx hb d_M_print_135 (lv_at hl 0 rfl) ?_
                          refine pw_idiv hx hb d_M_print_137 (by omega) (by omega) (by omega) ?_
                          refine lv_bipush (v := nI 10) hx hb d_M_print_138 (by decide) ?_
                          refine pw_irem hx hb d_M_print_140 (by omega) (by omega) (by omega) ?_
                          refine pw_iadd hx hb d_M_print_141 ?_
                          refine pw_iastN Fx hK hP hD hS 4 0 (g := pr2) rfl rfl (k := pl2) (by omega) (by decide) (w' := [(oM, .inr (5, [.int (nI 0), .ref qW, .ref qM, .ref qK, .ref qJ, .ref qG, .ref qH, .ref qP, .int (nI pl2)])), (qK, .inl (cI, 36480, .inl (fun z9 => nI (kp z9)))), (qJ, .inl (cI, 24, .inl (fun z9 => nI (km z9)))), (qG, .inl (cI, 24, .inl sg)), (qP, .inl (cI, 6100, .inl (fun z9 => nI ((pn_up pr2 pl2 (48 + (((kp (1520 * k + j)) / (10 ^ e9 / 10)) % 10))) z9))))]) rfl d_M_print_142 (fun H locs hP hD hS => ?_)
                          refine lv_aload_n hx hb d_M_print_143 rfl (lv_at hl 3 rfl) ?_
                          refine lv_dup hx hb d_M_print_144 rfl ?_
                          refine pw_get Fx hK hP fld_M 0 rfl 8 (by decide) kw_638 (v := .int (nI pl2)) rfl d_M_print_145 ?_
                          refine lv_iconst (v := nI 1) hx hb d_M_print_148 (by decide) ?_
                          refine pw_iadd hx hb d_M_print_149 ?_
                          refine pw_put Fx hK hP hD hS fld_M 0 rfl 8 (by decide) kw_638 rfl rfl rfl (Nat.le_of_ble_eq_true rfl) (w' := [(oM, .inr (5, [.int (nI 0), .ref qW, .ref qM, .ref qK, .ref qJ, .ref qG, .ref qH, .ref qP, .int (nI (pl2 + 1))])), (qK, .inl (cI, 36480, .inl (fun z9 => nI (kp z9)))), (qJ, .inl (cI, 24, .inl (fun z9 => nI (km z9)))), (qG, .inl (cI, 24, .inl sg)), (qP, .inl (cI, 6100, .inl (fun z9 => nI ((pn_up pr2 pl2 (48 + (((kp (1520 * k + j)) / (10 ^ e9 / 10)) % 10))) z9))))]) rfl d_M_print_150 (fun H locs hP hD hS => ?_)
                          refine lv_iload hx hb d_M_print_153 (lv_at hl 0 rfl) ?_
                          refine lv_bipush (v := nI 10) hx hb d_M_print_155 (by decide) ?_
                          refine lv_idiv hx hb d_M_print_157 (by decide) ?_
                          refine pn_topi (nI (10 ^ (e9 - 1) / 10)) (by rw [hun.1, pk_div (by omega) (by decide) (by decide)]) ?_
                          refine lv_istore (lv' := [(4, .int (nI (10 ^ (e9 - 1) / 10))), (3, .int (nI (kp (1520 * k + j)))), (2, .int (nI j)), (0, .ref oM), (1, .int (nI k))]) hx hb d_M_print_158 hl (by decide) rfl (fun ls hl => ?_)
                          refine lv_goto (tgt := 101) hx hb d_M_print_160 (by decide) ?_
                          exact ih101 (e9 - 1) (pl2 + 1) _ (by omega) (by omega) (by omega) (fun i hi => by by_cases y : sO + i = pl2; (· rw [y, pn_up_s, hun.1, pm_digv r2 (by omega) r4 (by omega)]; congr 4; omega); (· rw [pn_up_n y]; exact hch2 i (by omega))) (fun y => by rw [pn_up_n (by omega)]; exact hsn2 y) _ _ _ hl hP hD hS
                exact loop101 _ 4 pl1 pr1 (Nat.lt_succ_self _) (by decide) hpl hch hsn _ _ _ hl hP hD hS
          exact loop79 _ (km k) 1 (pn_up pr 0 45) (Nat.lt_succ_self _) (Nat.le_refl _) (by have := (hD3 (by omega)).2.1; omega) (fun i hi => by have := (hD3 (by omega)).2.1; omega) (fun _ => pn_up_s) _ _ _ hl (hP.sub [4, 0, 1, 2, 3] rfl) (hD.sub [4, 0, 1, 2, 3] (by decide) rfl) hS
        · skip
          exact absurd hneg (by have : (ρ k).natAbs = 0 := (by rw [← r4]; show pm_V _ (km k) = 0; rw [h_54]; rfl); omega)
    · skip
      rw [hrf13] at h_16
      exact absurd h_16 (by decide)

set_option maxHeartbeats 4000000 in
set_option maxRecDepth 100000 in
theorem c_M_character (l : Launch) (D : va_G) (cI cZ cB cJ : ClassId) (sz : Nat) (oM qW qM qK qJ qG qH qP cd pl : Nat) (pr : Nat → Nat) (x : Int32) (hpl : pl ≤ 6100) : pn_Ci l D (pn_ty cI cZ cB cJ) y_M_character w_M_character ({ frames := 0, cells := 0, slots := 0, locals := 0 } : Room) [.ref oM, .int x] [(oM, .inr (5, [.int (nI cd), .ref qW, .ref qM, .ref qK, .ref qJ, .ref qG, .ref qH, .ref qP, .int (nI pl)])), (qP, .inl (cI, 6100, .inl (fun z9 => nI (pr z9))))] sz (S := Unit) (fun r _ => (∀ i : Nat, i < pl → x = nI i → r = nI (pr i)) ∧ ((∀ i : Nat, i < pl → x ≠ nI i) → r = -1)) (fun _ => [(oM, .inr (5, [.int (nI 0), .ref qW, .ref qM, .ref qK, .ref qJ, .ref qG, .ref qH, .ref qP, .int (nI pl)])), (qP, .inl (cI, 6100, .inl (fun z9 => nI (pr z9))))]) := by
  refine pn_start (by decide) (Nat.le_of_ble_eq_true rfl) ?_
  intro p e s m below meth c A Q ls hQ hAe Fx hr hlocks hN hK hP hD hS hA hl
  have hx := Fx.1
  have hb := Fx.2.1
  have hl : lv_has ls 2 [(0, .ref oM), (1, .int x)] := hl
  refine lv_aload_n hx hb d_M_character_0 rfl (lv_at hl 0 rfl) ?_
  refine lv_iconst (v := nI 0) hx hb d_M_character_1 (by decide) ?_
  refine pw_put Fx hK hP hD hS fld_M 0 rfl 0 (by decide) kw_630 rfl rfl rfl (Nat.le_of_ble_eq_true rfl) (w' := [(oM, .inr (5, [.int (nI 0), .ref qW, .ref qM, .ref qK, .ref qJ, .ref qG, .ref qH, .ref qP, .int (nI pl)])), (qP, .inl (cI, 6100, .inl (fun z9 => nI (pr z9))))]) rfl d_M_character_2 (fun H locs hP hD hS => ?_)
  refine lv_iload_n hx hb d_M_character_5 rfl (lv_at hl 1 rfl) ?_
  refine lv_if_lt (tgt := 26) hx hb d_M_character_6 (by decide) (fun h_6 => ?_) (fun h_6 => ?_)
  · skip
    have hz : (∀ i : Nat, i < pl → x = nI i → (-1 : Int32) = nI (pr i)) ∧ ((∀ i : Nat, i < pl → x ≠ nI i) → (-1 : Int32) = -1) := ⟨fun i hi he => absurd h_6 (by rw [he]; exact nI_pos (by omega)), fun _ => rfl⟩
    refine lv_iconst (v := (-1)) hx hb d_M_character_26 (by decide) ?_
    exact pn_reti (()) Fx hr hlocks hQ hAe hP hD hS (by (try dsimp only); first | done | exact (hz)) d_M_character_27
  · skip
    obtain ⟨i, hi, rfl⟩ := nI_of h_6
    refine lv_iload_n hx hb d_M_character_9 rfl (lv_at hl 1 rfl) ?_
    refine lv_aload_n hx hb d_M_character_10 rfl (lv_at hl 0 rfl) ?_
    refine pw_get Fx hK hP fld_M 0 rfl 8 (by decide) kw_638 (v := .int (nI pl)) rfl d_M_character_11 ?_
    refine pw_icmp_ge (a := i) (b := pl) (tgt := 26) hx hb d_M_character_14 (by decide) (by omega) (by omega) (fun h_14 => ?_) (fun h_14 => ?_)
    · skip
      have hz : (∀ i9 : Nat, i9 < pl → nI i = nI i9 → (-1 : Int32) = nI (pr i9)) ∧ ((∀ i9 : Nat, i9 < pl → nI i ≠ nI i9) → (-1 : Int32) = -1) := ⟨fun i9 hi9 he => by have := (nI_eq hi (by omega)).mp he; omega, fun _ => rfl⟩
      refine lv_iconst (v := (-1)) hx hb d_M_character_26 (by decide) ?_
      exact pn_reti (()) Fx hr hlocks hQ hAe hP hD hS (by (try dsimp only); first | done | exact (hz)) d_M_character_27
    · skip
      have hz : (∀ i9 : Nat, i9 < pl → nI i = nI i9 → nI (pr i) = nI (pr i9)) ∧ ((∀ i9 : Nat, i9 < pl → nI i ≠ nI i9) → nI (pr i) = -1) := ⟨fun i9 hi9 he => by have := (nI_eq hi (by omega)).mp he; rw [this], fun z => absurd rfl (z i h_14)⟩
      refine lv_aload_n hx hb d_M_character_17 rfl (lv_at hl 0 rfl) ?_
      refine pw_get Fx hK hP fld_M 0 rfl 7 (by decide) kw_637 (v := .ref qP) rfl d_M_character_18 ?_
      refine lv_iload_n hx hb d_M_character_21 rfl (lv_at hl 1 rfl) ?_
      refine pw_iald Fx hK hP 1 0 (f := fun z9 => nI (pr z9)) rfl rfl (k := i) (by omega) (by decide) d_M_character_22 ?_
      refine pn_topi (nI (pr i)) rfl ?_
      refine lv_goto (tgt := 27) hx hb d_M_character_23 (by decide) ?_
      exact pn_reti (()) Fx hr hlocks hQ hAe hP hD hS (by (try dsimp only); first | done | exact (hz)) d_M_character_27
