theorem pm_tm (σ : Bool) (n : Nat) : (pn_sg σ (n : Int)).tmod 10000 = pn_sg σ ((n % 10000 : Nat) : Int) := by
  have e : (n : Int).tmod 10000 = ((n % 10000 : Nat) : Int) := by rw [Int.tmod_eq_emod_of_nonneg (Int.natCast_nonneg n)]; rfl
  cases σ
  · rw [pn_sg_f, pn_sg_f, e]
  · rw [pn_sg_t, pn_sg_t, Int.neg_tmod, e]
theorem pm_td (σ : Bool) (n : Nat) : (pn_sg σ (n : Int)).tdiv 10000 = pn_sg σ ((n / 10000 : Nat) : Int) := by
  have e : (n : Int).tdiv 10000 = ((n / 10000 : Nat) : Int) := by rw [Int.tdiv_eq_ediv_of_nonneg (Int.natCast_nonneg n)]; rfl
  cases σ
  · rw [pn_sg_f, pn_sg_f, e]
  · rw [pn_sg_t, pn_sg_t, Int.neg_tdiv, e]
theorem pm_sgb (σ : Bool) {n m : Nat} (h : n < m) : -(m : Int) < pn_sg σ (n : Int) ∧ pn_sg σ (n : Int) < (m : Int) := by
  cases σ
  · rw [pn_sg_f]; omega
  · rw [pn_sg_t]; omega
theorem pm_sg_0 {σ : Bool} {n : Nat} : pn_sg σ (n : Int) = 0 ↔ n = 0 := by
  cases σ
  · rw [pn_sg_f]; omega
  · rw [pn_sg_t]; omega
theorem pm_sgp {σ : Bool} {n : Nat} (h : 0 ≤ pn_sg σ (n : Int)) : pn_I (pn_sg σ (n : Int)) = nI n := by
  rw [← pn_I_nI]; congr 1
  cases σ
  · rw [pn_sg_f]
  · rw [pn_sg_t] at h ⊢; omega
theorem pm_sgn {σ : Bool} {n : Nat} (h : pn_sg σ (n : Int) < 0) : -pn_I (pn_sg σ (n : Int)) = nI n := by
  rw [pn_I_neg, ← pn_I_nI]; congr 1
  cases σ
  · rw [pn_sg_f] at h; omega
  · rw [pn_sg_t]; omega
theorem pm_sgd {σ : Bool} {n : Nat} (h0 : -9223372036854775808 ≤ pn_sg σ (n : Int)) (h1 : pn_sg σ (n : Int) < 9223372036854775808) : -9223372036854775808 ≤ pn_sg σ ((n / 10000 : Nat) : Int) ∧ pn_sg σ ((n / 10000 : Nat) : Int) < 9223372036854775808 := by
  cases σ
  · rw [pn_sg_f] at *; omega
  · rw [pn_sg_t] at *; omega
theorem pm_digit (t P : Nat) : t % 10000 * P + t / 10000 * (P * 10000) = t * P := by
  have e := Nat.mod_add_div t 10000
  have : t / 10000 * (P * 10000) = 10000 * (t / 10000) * P := by rw [Nat.mul_comm P 10000, ← Nat.mul_assoc, Nat.mul_comm (t / 10000) 10000]
  rw [this, ← Nat.add_mul, e]
def pm_c (f : Nat → Nat) (n : Nat) : Nat → Nat := fun i => if i < n then f i else 0
theorem pm_c_V {f : Nat → Nat} {n m : Nat} (h : n ≤ m) : pm_V (pm_c f n) m = pm_V f n := by
  rw [pm_V_more (f := pm_c f n) h (fun i h1 _ => by unfold pm_c; exact if_neg (by omega))]
  exact pm_V_congr (fun i hi => by unfold pm_c; exact if_pos hi)
theorem pm_c_lt {f : Nat → Nat} {n : Nat} (h : pm_fig f n) (i : Nat) : pm_c f n i < 10000 := by
  unfold pm_c; split
  · exact h i (by assumption)
  · decide
def pm_R (kp km : Nat → Nat) (r v : Nat) : Prop := km r ≤ 1520 ∧ pm_fig (fun i => kp (1520 * r + i)) (km r) ∧ pm_nz (fun i => kp (1520 * r + i)) (km r) ∧ pm_V (fun i => kp (1520 * r + i)) (km r) = v

set_option maxHeartbeats 4000000 in
set_option maxRecDepth 100000 in
theorem c_M_setLong (l : Launch) (D : va_G) (cI cZ cB cJ : ClassId) (sz : Nat) (oM qW qM qK qJ qG qH qP cd pl : Nat) (wk mn : Nat → Nat) (b : Nat) (z : Int) (hb7 : b < 7) (hz0 : -9223372036854775808 ≤ z) (hz1 : z < 9223372036854775808) : pn_Cv l D (pn_ty cI cZ cB cJ) y_M_setLong w_M_setLong ({ frames := 0, cells := 0, slots := 0, locals := 0 } : Room) [.ref oM, .int (nI b), .long (pn_L z)] [(oM, .inr (5, [.int (nI cd), .ref qW, .ref qM, .ref qK, .ref qJ, .ref qG, .ref qH, .ref qP, .int (nI pl)])), (qW, .inl (cI, 22400, .inl (fun z9 => nI (wk z9)))), (qM, .inl (cI, 7, .inl (fun z9 => nI (mn z9))))] sz (S := (Nat → Nat) × Nat) (fun u => pm_N u.1 (pn_up mn b u.2) b z.natAbs ∧ pm_K b wk mn u.1 (pn_up mn b u.2)) (fun u => [(oM, .inr (5, [.int (nI cd), .ref qW, .ref qM, .ref qK, .ref qJ, .ref qG, .ref qH, .ref qP, .int (nI pl)])), (qW, .inl (cI, 22400, .inl (fun z9 => nI (u.1 z9)))), (qM, .inl (cI, 7, .inl (fun z9 => nI ((pn_up mn b u.2) z9))))]) := by
  refine pn_start (by decide) (Nat.le_of_ble_eq_true rfl) ?_
  intro p e s m below meth c A Q ls hQ hAe Fx hr hlocks hN hK hP hD hS hA hl
  have hx := Fx.1
  have hb := Fx.2.1
  have hl : lv_has ls 8 [(0, .ref oM), (1, .int (nI b)), (2, .long (pn_L z))] := hl
  obtain ⟨σ, hσ⟩ : ∃ q, q = decide (z < 0) := ⟨_, rfl⟩
  have hzs : z = pn_sg σ ((z.natAbs : Nat) : Int) := by rw [hσ]; exact (pn_sg_abs z).symm
  refine lv_lload_n hx hb d_M_setLong_0 rfl (lv_at hl 2 rfl) ?_
  refine pn_topl (pn_L (pn_sg σ ((z.natAbs : Nat) : Int))) (congrArg pn_L hzs) ?_
  refine lv_lstore (lv' := [(4, .long (pn_L (pn_sg σ ((z.natAbs : Nat) : Int)))), (0, .ref oM), (1, .int (nI b)), (2, .long (pn_L z))]) hx hb d_M_setLong_1 hl (by decide) rfl (fun ls hl => ?_)
  refine lv_iconst (v := nI 0) hx hb d_M_setLong_3 (by decide) ?_
  refine lv_istore (lv' := [(6, .int (nI 0)), (4, .long (pn_L (pn_sg σ ((z.natAbs : Nat) : Int)))), (0, .ref oM), (1, .int (nI b)), (2, .long (pn_L z))]) hx hb d_M_setLong_4 hl (by decide) rfl (fun ls hl => ?_)
  have loop6 : ∀ (N : Nat) (k : Nat) (lf : Nat) (w1 : Nat → Nat), lf < N → (k ≤ 5) → (-9223372036854775808 ≤ pn_sg σ ((lf : Nat) : Int)) → (pn_sg σ ((lf : Nat) : Int) < 9223372036854775808) → (lf < 10000 ^ (5 - k)) → (pm_V (pm_at w1 b) k + lf * 10000 ^ k = z.natAbs) → (pm_fig (pm_at w1 b) k) → (lf = 0 → pm_nz (pm_at w1 b) k) → (pm_fr b wk w1) → ∀ (H : Heap) (locs : List Loc) (ls : Array Slot), lv_has ls 8 [(6, .int (nI k)), (4, .long (pn_L (pn_sg σ ((lf : Nat) : Int)))), (0, .ref oM), (1, .int (nI b)), (2, .long (pn_L z))] → va_P D pn_cl [(oM, .inr (5, [.int (nI cd), .ref qW, .ref qM, .ref qK, .ref qJ, .ref qG, .ref qH, .ref qP, .int (nI pl)])), (qW, .inl (cI, 22400, .inl (fun z9 => nI (w1 z9)))), (qM, .inl (cI, 7, .inl (fun z9 => nI (mn z9))))] H → va_D A [(oM, .inr (5, [.int (nI cd), .ref qW, .ref qM, .ref qK, .ref qJ, .ref qG, .ref qH, .ref qP, .int (nI pl)])), (qW, .inl (cI, 22400, .inl (fun z9 => nI (w1 z9)))), (qM, .inl (cI, 7, .inl (fun z9 => nI (mn z9))))] → va_S A s.heap H locs → W p l e ({ frames := 0, cells := 0, slots := 0, locals := 0 } : Room) s m ([.ref oM, .int (nI b), .long (pn_L z)] : List Value).toArray below meth c H locs 0 0 Q (F0 m 6 ls []) := by
    intro N
    induction N with
    | zero => intro k lf w1 hM; exact absurd hM (Nat.not_lt_zero _)
    | succ N ih6 =>
      intro k lf w1 hM6 hk hb1 hb2 hlt hV hfg hnz hF H locs ls hl hP hD hS
      refine lv_lload hx hb d_M_setLong_6 (lv_at hl 1 rfl) ?_
      refine lv_lconst (v := pn_L 0) hx hb d_M_setLong_8 (by decide) ?_
      refine W.lcmp hx hb d_M_setLong_9 ?_
      refine pw_ifl_eq (a := pn_sg σ ((lf : Nat) : Int)) (b := 0) (tgt := 62) hx hb d_M_setLong_10 (by decide) (by omega) (by omega) (by omega) (by omega) (fun h_10 => ?_) (fun h_10 => ?_)
      · skip
        have hl0 : lf = 0 := pm_sg_0.mp h_10
        subst hl0
        refine lv_aload_n hx hb d_M_setLong_62 rfl (lv_at hl 2 rfl) ?_
        refine pw_get Fx hK hP fld_M 0 rfl 2 (by decide) kw_632 (v := .ref qM) rfl d_M_setLong_63 ?_
        refine lv_iload_n hx hb d_M_setLong_66 rfl (lv_at hl 3 rfl) ?_
        refine lv_iload hx hb d_M_setLong_67 (lv_at hl 0 rfl) ?_
        refine pw_iastN Fx hK hP hD hS 2 0 (g := mn) rfl rfl (k := b) (by omega) (by decide) (w' := [(oM, .inr (5, [.int (nI cd), .ref qW, .ref qM, .ref qK, .ref qJ, .ref qG, .ref qH, .ref qP, .int (nI pl)])), (qW, .inl (cI, 22400, .inl (fun z9 => nI (w1 z9)))), (qM, .inl (cI, 7, .inl (fun z9 => nI ((pn_up mn b k) z9))))]) rfl d_M_setLong_69 (fun H locs hP hD hS => ?_)
        exact pn_retv ((w1, k)) Fx hr hlocks hQ hAe hP hD hS (by (try dsimp only); first | done | exact (⟨⟨by rw [pn_up_s]; omega, by rw [pn_up_s]; exact hfg, by rw [pn_up_s]; exact hnz rfl, by rw [pn_up_s]; omega⟩, pm_K_of hF⟩)) d_M_setLong_70
      · skip
        have hl0 : lf ≠ 0 := fun y => h_10 (pm_sg_0.mpr y)
        have hk5 : k < 5 := by rcases (show k = 5 ∨ k < 5 by omega) with y | y; (· subst y; simp at hlt; omega); (· exact y)
        have hmb := pm_sgb σ (show lf % 10000 < 10000 by omega)
        refine lv_lload hx hb d_M_setLong_13 (lv_at hl 1 rfl) ?_
        refine lv_ldc2 hx hb Fx.2.2.2.1 (Fx.2.2.2.2 _ kw_677) d_M_setLong_15 ?_
        refine pn_topl (pn_L (10000)) (by decide) ?_
        refine pw_lremT hx hb d_M_setLong_18 (by omega) (by omega) (by omega) (by omega) ?_
        refine pw_l2i hx hb d_M_setLong_19 ?_
        refine pn_topi (pn_I (pn_sg σ ((lf % 10000 : Nat) : Int))) (by rw [pm_tm]) ?_
        refine lv_istore (lv' := [(7, .int (pn_I (pn_sg σ ((lf % 10000 : Nat) : Int)))), (6, .int (nI k)), (4, .long (pn_L (pn_sg σ ((lf : Nat) : Int)))), (0, .ref oM), (1, .int (nI b)), (2, .long (pn_L z))]) hx hb d_M_setLong_20 hl (by decide) rfl (fun ls hl => ?_)
        refine lv_aload_n hx hb d_M_setLong_22 rfl (lv_at hl 3 rfl) ?_
        refine pw_get Fx hK hP fld_M 0 rfl 1 (by decide) kw_631 (v := .ref qW) rfl d_M_setLong_23 ?_
        refine lv_sipush (v := nI 3200) hx hb d_M_setLong_26 (by decide) ?_
        refine lv_iload_n hx hb d_M_setLong_29 rfl (lv_at hl 4 rfl) ?_
        refine pw_imul hx hb d_M_setLong_30 ?_
        refine lv_iload hx hb d_M_setLong_31 (lv_at hl 1 rfl) ?_
        refine pw_iadd hx hb d_M_setLong_33 ?_
        refine lv_iload hx hb d_M_setLong_34 (lv_at hl 0 rfl) ?_
        refine pw_ifz_ge (z := pn_sg σ ((lf % 10000 : Nat) : Int)) (tgt := 45) hx hb d_M_setLong_36 (by decide) (by omega) (by omega) (fun h_36 => ?_) (fun h_36 => ?_)
        · skip
          refine lv_iload hx hb d_M_setLong_45 (lv_at hl 0 rfl) ?_
          refine pn_topi (nI (lf % 10000)) (pm_sgp h_36) ?_
          refine pw_iastN Fx hK hP hD hS 1 0 (g := w1) rfl rfl (k := 3200 * b + k) (by omega) (by decide) (w' := [(oM, .inr (5, [.int (nI cd), .ref qW, .ref qM, .ref qK, .ref qJ, .ref qG, .ref qH, .ref qP, .int (nI pl)])), (qW, .inl (cI, 22400, .inl (fun z9 => nI ((pn_up w1 (3200 * b + k) (lf % 10000)) z9)))), (qM, .inl (cI, 7, .inl (fun z9 => nI (mn z9))))]) rfl d_M_setLong_47 (fun H locs hP hD hS => ?_)
          refine lv_lload hx hb d_M_setLong_48 (lv_at hl 2 rfl) ?_
          refine lv_ldc2 hx hb Fx.2.2.2.1 (Fx.2.2.2.2 _ kw_677) d_M_setLong_50 ?_
          refine pn_topl (pn_L (10000)) (by decide) ?_
          refine pw_ldivT hx hb d_M_setLong_53 (by omega) (by omega) (by omega) (by omega) ?_
          refine pn_topl (pn_L (pn_sg σ ((lf / 10000 : Nat) : Int))) (by rw [pm_td]) ?_
          refine lv_lstore (lv' := [(4, .long (pn_L (pn_sg σ ((lf / 10000 : Nat) : Int)))), (7, .int (pn_I (pn_sg σ ((lf % 10000 : Nat) : Int)))), (6, .int (nI k)), (0, .ref oM), (1, .int (nI b)), (2, .long (pn_L z))]) hx hb d_M_setLong_54 hl (by decide) rfl (fun ls hl => ?_)
          refine lv_iinc (v := nI (k + 1)) (lv' := [(6, .int (nI (k + 1))), (4, .long (pn_L (pn_sg σ ((lf / 10000 : Nat) : Int)))), (7, .int (pn_I (pn_sg σ ((lf % 10000 : Nat) : Int)))), (0, .ref oM), (1, .int (nI b)), (2, .long (pn_L z))]) hx hb d_M_setLong_56 hl (k := 2) rfl (nI_add _ 1) (by decide) rfl (fun ls hl => ?_)
          refine lv_goto (tgt := 6) hx hb d_M_setLong_59 (by decide) ?_
          exact ih6 (k + 1) (lf / 10000) _ (by omega) (by omega) ((pm_sgd hb1 hb2).1) ((pm_sgd hb1 hb2).2) (by have e : 10000 ^ (5 - k) = 10000 ^ (5 - (k + 1)) * 10000 := (by rw [← Nat.pow_succ, show (5 - (k + 1)).succ = 5 - k by omega]); rw [e] at hlt; omega) (by rw [pm_at_up, pm_V_upS, pm_P_s, Nat.add_assoc, pm_digit]; exact hV) (by rw [pm_at_up]; exact pm_fig_upS hfg (by omega)) (fun h0 i hi => by rw [pm_at_up, show i = k by omega, pn_up_s]; omega) (pm_fr_up hF (by omega)) _ _ _ (lv_sub hl [0, 1, 3, 4, 5] rfl) hP hD hS
        · skip
          refine lv_iload hx hb d_M_setLong_39 (lv_at hl 0 rfl) ?_
          refine lv_ineg hx hb d_M_setLong_41 ?_
          refine pn_topi (nI (lf % 10000)) (pm_sgn h_36) ?_
          refine lv_goto (tgt := 47) hx hb d_M_setLong_42 (by decide) ?_
          refine pw_iastN Fx hK hP hD hS 1 0 (g := w1) rfl rfl (k := 3200 * b + k) (by omega) (by decide) (w' := [(oM, .inr (5, [.int (nI cd), .ref qW, .ref qM, .ref qK, .ref qJ, .ref qG, .ref qH, .ref qP, .int (nI pl)])), (qW, .inl (cI, 22400, .inl (fun z9 => nI ((pn_up w1 (3200 * b + k) (lf % 10000)) z9)))), (qM, .inl (cI, 7, .inl (fun z9 => nI (mn z9))))]) rfl d_M_setLong_47 (fun H locs hP hD hS => ?_)
          refine lv_lload hx hb d_M_setLong_48 (lv_at hl 2 rfl) ?_
          refine lv_ldc2 hx hb Fx.2.2.2.1 (Fx.2.2.2.2 _ kw_677) d_M_setLong_50 ?_
          refine pn_topl (pn_L (10000)) (by decide) ?_
          refine pw_ldivT hx hb d_M_setLong_53 (by omega) (by omega) (by omega) (by omega) ?_
          refine pn_topl (pn_L (pn_sg σ ((lf / 10000 : Nat) : Int))) (by rw [pm_td]) ?_
          refine lv_lstore (lv' := [(4, .long (pn_L (pn_sg σ ((lf / 10000 : Nat) : Int)))), (7, .int (pn_I (pn_sg σ ((lf % 10000 : Nat) : Int)))), (6, .int (nI k)), (0, .ref oM), (1, .int (nI b)), (2, .long (pn_L z))]) hx hb d_M_setLong_54 hl (by decide) rfl (fun ls hl => ?_)
          refine lv_iinc (v := nI (k + 1)) (lv' := [(6, .int (nI (k + 1))), (4, .long (pn_L (pn_sg σ ((lf / 10000 : Nat) : Int)))), (7, .int (pn_I (pn_sg σ ((lf % 10000 : Nat) : Int)))), (0, .ref oM), (1, .int (nI b)), (2, .long (pn_L z))]) hx hb d_M_setLong_56 hl (k := 2) rfl (nI_add _ 1) (by decide) rfl (fun ls hl => ?_)
          refine lv_goto (tgt := 6) hx hb d_M_setLong_59 (by decide) ?_
          exact ih6 (k + 1) (lf / 10000) _ (by omega) (by omega) ((pm_sgd hb1 hb2).1) ((pm_sgd hb1 hb2).2) (by have e : 10000 ^ (5 - k) = 10000 ^ (5 - (k + 1)) * 10000 := (by rw [← Nat.pow_succ, show (5 - (k + 1)).succ = 5 - k by omega]); rw [e] at hlt; omega) (by rw [pm_at_up, pm_V_upS, pm_P_s, Nat.add_assoc, pm_digit]; exact hV) (by rw [pm_at_up]; exact pm_fig_upS hfg (by omega)) (fun h0 i hi => by rw [pm_at_up, show i = k by omega, pn_up_s]; omega) (pm_fr_up hF (by omega)) _ _ _ (lv_sub hl [0, 1, 3, 4, 5] rfl) hP hD hS
  exact loop6 _ 0 z.natAbs wk (Nat.lt_succ_self _) (Nat.zero_le _) (by rw [← hzs]; exact hz0) (by rw [← hzs]; exact hz1) (show z.natAbs < 100000000000000000000 by omega) (by rw [pm_V_0, Nat.pow_zero]; omega) (fun i hi => by omega) (fun _ i hi => by omega) pm_fr_refl _ _ _ hl hP hD hS

set_option maxHeartbeats 4000000 in
set_option maxRecDepth 100000 in
theorem c_M_addTo (l : Launch) (D : va_G) (cI cZ cB cJ : ClassId) (sz : Nat) (oM qW qM qK qJ qG qH qP cd pl : Nat) (wk mn : Nat → Nat) (b c9 v v2 : Nat) (hb7 : b < 7) (hc7 : c9 < 7) (hbc : b ≠ c9) (hN1 : pm_N wk mn b v) (hN2 : pm_N wk mn c9 v2) (hm1 : mn b ≤ 3199) (hm2 : mn c9 ≤ 3199) : pn_Cv l D (pn_ty cI cZ cB cJ) y_M_addTo w_M_addTo ({ frames := 1, cells := 0, slots := 0, locals := 40 } : Room) [.ref oM, .int (nI b), .int (nI c9)] [(oM, .inr (5, [.int (nI cd), .ref qW, .ref qM, .ref qK, .ref qJ, .ref qG, .ref qH, .ref qP, .int (nI pl)])), (qW, .inl (cI, 22400, .inl (fun z9 => nI (wk z9)))), (qM, .inl (cI, 7, .inl (fun z9 => nI (mn z9))))] sz (S := (Nat → Nat) × Nat) (fun u => pm_N u.1 (pn_up mn b u.2) b (v + v2) ∧ pm_K b wk mn u.1 (pn_up mn b u.2)) (fun u => [(oM, .inr (5, [.int (nI cd), .ref qW, .ref qM, .ref qK, .ref qJ, .ref qG, .ref qH, .ref qP, .int (nI pl)])), (qW, .inl (cI, 22400, .inl (fun z9 => nI (u.1 z9)))), (qM, .inl (cI, 7, .inl (fun z9 => nI ((pn_up mn b u.2) z9))))]) := by
  refine pn_start (by decide) (Nat.le_of_ble_eq_true rfl) ?_
  intro p e s m below meth c A Q ls hQ hAe Fx hr hlocks hN hK hP hD hS hA hl
  have hx := Fx.1
  have hb := Fx.2.1
  have hl : lv_has ls 7 [(0, .ref oM), (1, .int (nI b)), (2, .int (nI c9))] := hl
  obtain ⟨n1, n2, n3, n4⟩ := id hN1
  obtain ⟨m1, m2, m3, m4⟩ := id hN2
  obtain ⟨n, hn⟩ : ∃ q, q = max (mn b) (mn c9) := ⟨_, rfl⟩
  refine lv_aload_n hx hb d_M_addTo_0 rfl (lv_at hl 0 rfl) ?_
  refine pw_get Fx hK hP fld_M 0 rfl 2 (by decide) kw_632 (v := .ref qM) rfl d_M_addTo_1 ?_
  refine lv_iload_n hx hb d_M_addTo_4 rfl (lv_at hl 1 rfl) ?_
  refine pw_iald Fx hK hP 2 0 (f := fun z9 => nI (mn z9)) rfl rfl (k := b) (by omega) (by decide) d_M_addTo_5 ?_
  refine pn_topi (nI (mn b)) rfl ?_
  refine lv_aload_n hx hb d_M_addTo_6 rfl (lv_at hl 0 rfl) ?_
  refine pw_get Fx hK hP fld_M 0 rfl 2 (by decide) kw_632 (v := .ref qM) rfl d_M_addTo_7 ?_
  refine lv_iload_n hx hb d_M_addTo_10 rfl (lv_at hl 2 rfl) ?_
  refine pw_iald Fx hK hP 2 0 (f := fun z9 => nI (mn z9)) rfl rfl (k := c9) (by omega) (by decide) d_M_addTo_11 ?_
  refine pn_topi (nI (mn c9)) rfl ?_
  refine pw_icmp_le (a := mn b) (b := mn c9) (tgt := 24) hx hb d_M_addTo_12 (by decide) (by omega) (by omega) (fun h_12 => ?_) (fun h_12 => ?_)
  · skip
    refine lv_aload_n hx hb d_M_addTo_24 rfl (lv_at hl 0 rfl) ?_
    refine pw_get Fx hK hP fld_M 0 rfl 2 (by decide) kw_632 (v := .ref qM) rfl d_M_addTo_25 ?_
    refine lv_iload_n hx hb d_M_addTo_28 rfl (lv_at hl 2 rfl) ?_
    refine pw_iald Fx hK hP 2 0 (f := fun z9 => nI (mn z9)) rfl rfl (k := c9) (by omega) (by decide) d_M_addTo_29 ?_
    refine pn_topi (nI (mn c9)) rfl ?_
    refine pn_topi (nI n) (by rw [show n = mn c9 by omega]) ?_
    refine lv_istore_n (lv' := [(3, .int (nI n)), (0, .ref oM), (1, .int (nI b)), (2, .int (nI c9))]) hx hb d_M_addTo_30 rfl hl (by decide) rfl (fun ls hl => ?_)
    refine lv_iconst (v := nI 0) hx hb d_M_addTo_31 (by decide) ?_
    refine lv_istore (lv' := [(4, .int (nI 0)), (3, .int (nI n)), (0, .ref oM), (1, .int (nI b)), (2, .int (nI c9))]) hx hb d_M_addTo_32 hl (by decide) rfl (fun ls hl => ?_)
    refine lv_iconst (v := nI 0) hx hb d_M_addTo_34 (by decide) ?_
    refine lv_istore (lv' := [(5, .int (nI 0)), (4, .int (nI 0)), (3, .int (nI n)), (0, .ref oM), (1, .int (nI b)), (2, .int (nI c9))]) hx hb d_M_addTo_35 hl (by decide) rfl (fun ls hl => ?_)
    have loop37 : ∀ (N : Nat) (i : Nat) (cr : Nat) (w1 : Nat → Nat), n - i < N → (i ≤ n) → (cr ≤ 1) → (pm_fr b wk w1) → (pm_fig (pm_at w1 b) i) → (∀ j, i ≤ j → pm_at w1 b j = pm_at wk b j) → (pm_V (pm_at w1 b) i + cr * 10000 ^ i = pm_V (pm_c (pm_at wk b) (mn b)) i + pm_V (pm_c (pm_at wk c9) (mn c9)) i) → ∀ (H : Heap) (locs : List Loc) (ls : Array Slot), lv_has ls 7 [(5, .int (nI i)), (4, .int (nI cr)), (3, .int (nI n)), (0, .ref oM), (1, .int (nI b)), (2, .int (nI c9))] → va_P D pn_cl [(oM, .inr (5, [.int (nI cd), .ref qW, .ref qM, .ref qK, .ref qJ, .ref qG, .ref qH, .ref qP, .int (nI pl)])), (qW, .inl (cI, 22400, .inl (fun z9 => nI (w1 z9)))), (qM, .inl (cI, 7, .inl (fun z9 => nI (mn z9))))] H → va_D A [(oM, .inr (5, [.int (nI cd), .ref qW, .ref qM, .ref qK, .ref qJ, .ref qG, .ref qH, .ref qP, .int (nI pl)])), (qW, .inl (cI, 22400, .inl (fun z9 => nI (w1 z9)))), (qM, .inl (cI, 7, .inl (fun z9 => nI (mn z9))))] → va_S A s.heap H locs → W p l e ({ frames := 1, cells := 0, slots := 0, locals := 40 } : Room) s m ([.ref oM, .int (nI b), .int (nI c9)] : List Value).toArray below meth c H locs 0 0 Q (F0 m 37 ls []) := by
      intro N
      induction N with
      | zero => intro i cr w1 hM; exact absurd hM (Nat.not_lt_zero _)
      | succ N ih37 =>
        intro i cr w1 hM37 hi hcr hF hfg hun hV H locs ls hl hP hD hS
        refine lv_iload hx hb d_M_addTo_37 (lv_at hl 0 rfl) ?_
        refine lv_iload_n hx hb d_M_addTo_39 rfl (lv_at hl 2 rfl) ?_
        refine pw_icmp_ge (a := i) (b := n) (tgt := 96) hx hb d_M_addTo_40 (by decide) (by omega) (by omega) (fun h_40 => ?_) (fun h_40 => ?_)
        · skip
          obtain rfl : i = n := by omega
          refine lv_aload_n hx hb d_M_addTo_96 rfl (lv_at hl 3 rfl) ?_
          refine pw_get Fx hK hP fld_M 0 rfl 1 (by decide) kw_631 (v := .ref qW) rfl d_M_addTo_97 ?_
          refine lv_sipush (v := nI 3200) hx hb d_M_addTo_100 (by decide) ?_
          refine lv_iload_n hx hb d_M_addTo_103 rfl (lv_at hl 4 rfl) ?_
          refine pw_imul hx hb d_M_addTo_104 ?_
          refine lv_iload_n hx hb d_M_addTo_105 rfl (lv_at hl 2 rfl) ?_
          refine pw_iadd hx hb d_M_addTo_106 ?_
          refine lv_iload hx hb d_M_addTo_107 (lv_at hl 1 rfl) ?_
          refine pw_iastN Fx hK hP hD hS 1 0 (g := w1) rfl rfl (k := 3200 * b + i) (by omega) (by decide) (w' := [(oM, .inr (5, [.int (nI cd), .ref qW, .ref qM, .ref qK, .ref qJ, .ref qG, .ref qH, .ref qP, .int (nI pl)])), (qW, .inl (cI, 22400, .inl (fun z9 => nI ((pn_up w1 (3200 * b + i) cr) z9)))), (qM, .inl (cI, 7, .inl (fun z9 => nI (mn z9))))]) rfl d_M_addTo_109 (fun H locs hP hD hS => ?_)
          refine lv_aload_n hx hb d_M_addTo_110 rfl (lv_at hl 3 rfl) ?_
          refine lv_iload_n hx hb d_M_addTo_111 rfl (lv_at hl 4 rfl) ?_
          refine lv_iload_n hx hb d_M_addTo_112 rfl (lv_at hl 2 rfl) ?_
          refine lv_iconst (v := nI 1) hx hb d_M_addTo_113 (by decide) ?_
          refine pw_iadd hx hb d_M_addTo_114 ?_
          refine pn_bv (wr := []) [0, 1, 2] [] hP hD hS hA (pn_rV [.int (nI b), .int (nI (i + 1))] [] Fx hK hN hP hD [0, 1, 2] rfl rfl (c_M_trim l D cI cZ cB cJ _ oM qW qM qK qJ qG qH qP cd pl (pn_up w1 (3200 * b + i) cr) mn b (i + 1) hb7 (by omega) (by rw [pm_at_up]; exact pm_fig_upS hfg (by omega))) kw_695 cal_M_trim inst_M_trim sel_M_trim ⟨by decide, by decide⟩ ⟨rfl, rfl⟩ 0 rfl rfl rfl rfl hl.1 (Nat.le_of_ble_eq_true rfl) d_M_addTo_115 ⟨Nat.zero_le _, Nat.zero_le _⟩) rfl rfl rfl (by decide) (fun u_115 H locs hw hP hD hS => ?_)
          obtain ⟨t1, t2, t3⟩ := hw
          have hP : va_P D pn_cl [(oM, .inr (5, [.int (nI cd), .ref qW, .ref qM, .ref qK, .ref qJ, .ref qG, .ref qH, .ref qP, .int (nI pl)])), (qW, .inl (cI, 22400, .inl (fun z9 => nI ((pn_up w1 (3200 * b + i) cr) z9)))), (qM, .inl (cI, 7, .inl (fun z9 => nI ((pn_up mn b u_115) z9))))] H := hP
          have hD : va_D A [(oM, .inr (5, [.int (nI cd), .ref qW, .ref qM, .ref qK, .ref qJ, .ref qG, .ref qH, .ref qP, .int (nI pl)])), (qW, .inl (cI, 22400, .inl (fun z9 => nI ((pn_up w1 (3200 * b + i) cr) z9)))), (qM, .inl (cI, 7, .inl (fun z9 => nI ((pn_up mn b u_115) z9))))] := hD
          exact pn_retv ((pn_up w1 (3200 * b + i) cr, u_115)) Fx hr hlocks hQ hAe hP hD hS (by (try dsimp only); first | done | exact (⟨pm_N_of (n := i + 1) (by omega) (by rw [pm_at_up]; exact pm_fig_upS hfg (by omega)) t1 t2 t3 (by rw [pm_at_up, pm_V_upS, hV, pm_c_V (by omega), pm_c_V (by omega), n4, m4]), pm_K_of (pm_fr_up hF (by omega))⟩)) d_M_addTo_118
        · skip
          have f1 := pm_c_lt n2 i
          have f2 := pm_c_lt m2 i
          refine lv_aload_n hx hb d_M_addTo_43 rfl (lv_at hl 3 rfl) ?_
          refine lv_iload_n hx hb d_M_addTo_44 rfl (lv_at hl 4 rfl) ?_
          refine lv_iload hx hb d_M_addTo_45 (lv_at hl 0 rfl) ?_
          refine pn_bi (wr := []) [0, 1, 2] [] hP hD hS hA (pn_rV [.int (nI b), .int (nI i)] [] Fx hK hN hP hD [0, 1, 2] rfl rfl (c_M_figure l D cI cZ cB cJ _ oM qW qM qK qJ qG qH qP cd pl w1 mn b i (by omega) (by omega) (by omega)) kw_716 cal_M_figure inst_M_figure sel_M_figure ⟨by decide, by decide⟩ ⟨rfl, rfl⟩ 0 rfl rfl rfl rfl hl.1 (Nat.le_of_ble_eq_true rfl) d_M_addTo_47 ⟨Nat.zero_le _, Nat.zero_le _⟩) rfl rfl rfl (by decide) (fun r_47 u_47 H locs hw hP hD hS => ?_)
          obtain ⟨⟩ := u_47
          have hP : va_P D pn_cl [(oM, .inr (5, [.int (nI cd), .ref qW, .ref qM, .ref qK, .ref qJ, .ref qG, .ref qH, .ref qP, .int (nI pl)])), (qW, .inl (cI, 22400, .inl (fun z9 => nI (w1 z9)))), (qM, .inl (cI, 7, .inl (fun z9 => nI (mn z9))))] H := hP
          have hD : va_D A [(oM, .inr (5, [.int (nI cd), .ref qW, .ref qM, .ref qK, .ref qJ, .ref qG, .ref qH, .ref qP, .int (nI pl)])), (qW, .inl (cI, 22400, .inl (fun z9 => nI (w1 z9)))), (qM, .inl (cI, 7, .inl (fun z9 => nI (mn z9))))] := hD
          refine pn_topi (nI (pm_c (pm_at wk b) (mn b) i)) (by rw [hw, hun i (Nat.le_refl i)]; rfl) ?_
          refine lv_aload_n hx hb d_M_addTo_50 rfl (lv_at hl 3 rfl) ?_
          refine lv_iload_n hx hb d_M_addTo_51 rfl (lv_at hl 5 rfl) ?_
          refine lv_iload hx hb d_M_addTo_52 (lv_at hl 0 rfl) ?_
          refine pn_bi (wr := []) [0, 1, 2] [] hP hD hS hA (pn_rV [.int (nI c9), .int (nI i)] [.int (nI (pm_c (pm_at wk b) (mn b) i))] Fx hK hN hP hD [0, 1, 2] rfl rfl (c_M_figure l D cI cZ cB cJ _ oM qW qM qK qJ qG qH qP cd pl w1 mn c9 i (by omega) (by omega) (by omega)) kw_716 cal_M_figure inst_M_figure sel_M_figure ⟨by decide, by decide⟩ ⟨rfl, rfl⟩ 0 rfl rfl rfl rfl hl.1 (Nat.le_of_ble_eq_true rfl) d_M_addTo_54 ⟨Nat.zero_le _, Nat.zero_le _⟩) rfl rfl rfl (by decide) (fun r_54 u_54 H locs hw hP hD hS => ?_)
          obtain ⟨⟩ := u_54
          have hP : va_P D pn_cl [(oM, .inr (5, [.int (nI cd), .ref qW, .ref qM, .ref qK, .ref qJ, .ref qG, .ref qH, .ref qP, .int (nI pl)])), (qW, .inl (cI, 22400, .inl (fun z9 => nI (w1 z9)))), (qM, .inl (cI, 7, .inl (fun z9 => nI (mn z9))))] H := hP
          have hD : va_D A [(oM, .inr (5, [.int (nI cd), .ref qW, .ref qM, .ref qK, .ref qJ, .ref qG, .ref qH, .ref qP, .int (nI pl)])), (qW, .inl (cI, 22400, .inl (fun z9 => nI (w1 z9)))), (qM, .inl (cI, 7, .inl (fun z9 => nI (mn z9))))] := hD
          refine pn_topi (nI (pm_c (pm_at wk c9) (mn c9) i)) (by rw [hw]; unfold pm_c; split; (· rw [hF c9 i (Ne.symm hbc) (by omega)]); (· rfl)) ?_
          refine pw_iadd hx hb d_M_addTo_57 ?_
          refine lv_iload hx hb d_M_addTo_58 (lv_at hl 1 rfl) ?_
          refine pw_iadd hx hb d_M_addTo_60 ?_
          refine lv_istore (lv' := [(6, .int (nI (pm_c (pm_at wk b) (mn b) i + (pm_c (pm_at wk c9) (mn c9) i) + cr))), (5, .int (nI i)), (4, .int (nI cr)), (3, .int (nI n)), (0, .ref oM), (1, .int (nI b)), (2, .int (nI c9))]) hx hb d_M_addTo_61 hl (by decide) rfl (fun ls hl => ?_)
          refine lv_aload_n hx hb d_M_addTo_63 rfl (lv_at hl 4 rfl) ?_
          refine pw_get Fx hK hP fld_M 0 rfl 1 (by decide) kw_631 (v := .ref qW) rfl d_M_addTo_64 ?_
          refine lv_sipush (v := nI 3200) hx hb d_M_addTo_67 (by decide) ?_
          refine lv_iload_n hx hb d_M_addTo_70 rfl (lv_at hl 5 rfl) ?_
          refine pw_imul hx hb d_M_addTo_71 ?_
          refine lv_iload hx hb d_M_addTo_72 (lv_at hl 1 rfl) ?_
          refine pw_iadd hx hb d_M_addTo_74 ?_
          refine lv_iload hx hb d_M_addTo_75 (lv_at hl 0 rfl) ?_
          refine lv_sipush (v := nI 10000) hx hb d_M_addTo_77 (by decide) ?_
          refine pw_irem hx hb d_M_addTo_80 (by omega) (by omega) (by omega) ?_
          refine pw_iastN Fx hK hP hD hS 1 0 (g := w1) rfl rfl (k := 3200 * b + i) (by omega) (by decide) (w' := [(oM, .inr (5, [.int (nI cd), .ref qW, .ref qM, .ref qK, .ref qJ, .ref qG, .ref qH, .ref qP, .int (nI pl)])), (qW, .inl (cI, 22400, .inl (fun z9 => nI ((pn_up w1 (3200 * b + i) ((pm_c (pm_at wk b) (mn b) i + (pm_c (pm_at wk c9) (mn c9) i) + cr) % 10000)) z9)))), (qM, .inl (cI, 7, .inl (fun z9 => nI (mn z9))))]) rfl d_M_addTo_81 (fun H locs hP hD hS => ?_)
          refine lv_iload hx hb d_M_addTo_82 (lv_at hl 0 rfl) ?_
          refine lv_sipush (v := nI 10000) hx hb d_M_addTo_84 (by decide) ?_
          refine pw_idiv hx hb d_M_addTo_87 (by omega) (by omega) (by omega) ?_
          refine lv_istore (lv' := [(4, .int (nI ((pm_c (pm_at wk b) (mn b) i + (pm_c (pm_at wk c9) (mn c9) i) + cr) / 10000))), (6, .int (nI (pm_c (pm_at wk b) (mn b) i + (pm_c (pm_at wk c9) (mn c9) i) + cr))), (5, .int (nI i)), (3, .int (nI n)), (0, .ref oM), (1, .int (nI b)), (2, .int (nI c9))]) hx hb d_M_addTo_88 hl (by decide) rfl (fun ls hl => ?_)
          refine lv_iinc (v := nI (i + 1)) (lv' := [(5, .int (nI (i + 1))), (4, .int (nI ((pm_c (pm_at wk b) (mn b) i + (pm_c (pm_at wk c9) (mn c9) i) + cr) / 10000))), (6, .int (nI (pm_c (pm_at wk b) (mn b) i + (pm_c (pm_at wk c9) (mn c9) i) + cr))), (3, .int (nI n)), (0, .ref oM), (1, .int (nI b)), (2, .int (nI c9))]) hx hb d_M_addTo_90 hl (k := 2) rfl (nI_add _ 1) (by decide) rfl (fun ls hl => ?_)
          refine lv_goto (tgt := 37) hx hb d_M_addTo_93 (by decide) ?_
          exact ih37 (i + 1) ((pm_c (pm_at wk b) (mn b) i + pm_c (pm_at wk c9) (mn c9) i + cr) / 10000) _ (by omega) (by omega) (by omega) (pm_fr_up hF (by omega)) (by rw [pm_at_up]; exact pm_fig_upS hfg (by omega)) (fun j hj => by rw [pm_at_up, pn_up_n (by omega)]; exact hun j (by omega)) (by rw [pm_at_up, pm_V_upS, pm_P_s, Nat.add_assoc, pm_digit, pm_V_s, pm_V_s, Nat.add_mul, Nat.add_mul]; omega) _ _ _ (lv_sub hl [0, 1, 3, 4, 5, 6] rfl) hP hD hS
    exact loop37 _ 0 0 wk (Nat.lt_succ_self _) (Nat.zero_le _) (by omega) pm_fr_refl (fun i hi => by omega) (fun _ _ => rfl) (by simp [pm_V_0]) _ _ _ hl hP hD hS
  · skip
    refine lv_aload_n hx hb d_M_addTo_15 rfl (lv_at hl 0 rfl) ?_
    refine pw_get Fx hK hP fld_M 0 rfl 2 (by decide) kw_632 (v := .ref qM) rfl d_M_addTo_16 ?_
    refine lv_iload_n hx hb d_M_addTo_19 rfl (lv_at hl 1 rfl) ?_
    refine pw_iald Fx hK hP 2 0 (f := fun z9 => nI (mn z9)) rfl rfl (k := b) (by omega) (by decide) d_M_addTo_20 ?_
    refine pn_topi (nI (mn b)) rfl ?_
    refine pn_topi (nI n) (by rw [show n = mn b by omega]) ?_
    refine lv_goto (tgt := 30) hx hb d_M_addTo_21 (by decide) ?_
    refine lv_istore_n (lv' := [(3, .int (nI n)), (0, .ref oM), (1, .int (nI b)), (2, .int (nI c9))]) hx hb d_M_addTo_30 rfl hl (by decide) rfl (fun ls hl => ?_)
    refine lv_iconst (v := nI 0) hx hb d_M_addTo_31 (by decide) ?_
    refine lv_istore (lv' := [(4, .int (nI 0)), (3, .int (nI n)), (0, .ref oM), (1, .int (nI b)), (2, .int (nI c9))]) hx hb d_M_addTo_32 hl (by decide) rfl (fun ls hl => ?_)
    refine lv_iconst (v := nI 0) hx hb d_M_addTo_34 (by decide) ?_
    refine lv_istore (lv' := [(5, .int (nI 0)), (4, .int (nI 0)), (3, .int (nI n)), (0, .ref oM), (1, .int (nI b)), (2, .int (nI c9))]) hx hb d_M_addTo_35 hl (by decide) rfl (fun ls hl => ?_)
    have loop37 : ∀ (N : Nat) (i : Nat) (cr : Nat) (w1 : Nat → Nat), n - i < N → (i ≤ n) → (cr ≤ 1) → (pm_fr b wk w1) → (pm_fig (pm_at w1 b) i) → (∀ j, i ≤ j → pm_at w1 b j = pm_at wk b j) → (pm_V (pm_at w1 b) i + cr * 10000 ^ i = pm_V (pm_c (pm_at wk b) (mn b)) i + pm_V (pm_c (pm_at wk c9) (mn c9)) i) → ∀ (H : Heap) (locs : List Loc) (ls : Array Slot), lv_has ls 7 [(5, .int (nI i)), (4, .int (nI cr)), (3, .int (nI n)), (0, .ref oM), (1, .int (nI b)), (2, .int (nI c9))] → va_P D pn_cl [(oM, .inr (5, [.int (nI cd), .ref qW, .ref qM, .ref qK, .ref qJ, .ref qG, .ref qH, .ref qP, .int (nI pl)])), (qW, .inl (cI, 22400, .inl (fun z9 => nI (w1 z9)))), (qM, .inl (cI, 7, .inl (fun z9 => nI (mn z9))))] H → va_D A [(oM, .inr (5, [.int (nI cd), .ref qW, .ref qM, .ref qK, .ref qJ, .ref qG, .ref qH, .ref qP, .int (nI pl)])), (qW, .inl (cI, 22400, .inl (fun z9 => nI (w1 z9)))), (qM, .inl (cI, 7, .inl (fun z9 => nI (mn z9))))] → va_S A s.heap H locs → W p l e ({ frames := 1, cells := 0, slots := 0, locals := 40 } : Room) s m ([.ref oM, .int (nI b), .int (nI c9)] : List Value).toArray below meth c H locs 0 0 Q (F0 m 37 ls []) := by
      intro N
      induction N with
      | zero => intro i cr w1 hM; exact absurd hM (Nat.not_lt_zero _)
      | succ N ih37 =>
        intro i cr w1 hM37 hi hcr hF hfg hun hV H locs ls hl hP hD hS
        refine lv_iload hx hb d_M_addTo_37 (lv_at hl 0 rfl) ?_
        refine lv_iload_n hx hb d_M_addTo_39 rfl (lv_at hl 2 rfl) ?_
        refine pw_icmp_ge (a := i) (b := n) (tgt := 96) hx hb d_M_addTo_40 (by decide) (by omega) (by omega) (fun h_40 => ?_) (fun h_40 => ?_)
        · skip
          obtain rfl : i = n := by omega
          refine lv_aload_n hx hb d_M_addTo_96 rfl (lv_at hl 3 rfl) ?_
          refine pw_get Fx hK hP fld_M 0 rfl 1 (by decide) kw_631 (v := .ref qW) rfl d_M_addTo_97 ?_
          refine lv_sipush (v := nI 3200) hx hb d_M_addTo_100 (by decide) ?_
          refine lv_iload_n hx hb d_M_addTo_103 rfl (lv_at hl 4 rfl) ?_
          refine pw_imul hx hb d_M_addTo_104 ?_
          refine lv_iload_n hx hb d_M_addTo_105 rfl (lv_at hl 2 rfl) ?_
          refine pw_iadd hx hb d_M_addTo_106 ?_
          refine lv_iload hx hb d_M_addTo_107 (lv_at hl 1 rfl) ?_
          refine pw_iastN Fx hK hP hD hS 1 0 (g := w1) rfl rfl (k := 3200 * b + i) (by omega) (by decide) (w' := [(oM, .inr (5, [.int (nI cd), .ref qW, .ref qM, .ref qK, .ref qJ, .ref qG, .ref qH, .ref qP, .int (nI pl)])), (qW, .inl (cI, 22400, .inl (fun z9 => nI ((pn_up w1 (3200 * b + i) cr) z9)))), (qM, .inl (cI, 7, .inl (fun z9 => nI (mn z9))))]) rfl d_M_addTo_109 (fun H locs hP hD hS => ?_)
          refine lv_aload_n hx hb d_M_addTo_110 rfl (lv_at hl 3 rfl) ?_
          refine lv_iload_n hx hb d_M_addTo_111 rfl (lv_at hl 4 rfl) ?_
          refine lv_iload_n hx hb d_M_addTo_112 rfl (lv_at hl 2 rfl) ?_
          refine lv_iconst (v := nI 1) hx hb d_M_addTo_113 (by decide) ?_
          refine pw_iadd hx hb d_M_addTo_114 ?_
          refine pn_bv (wr := []) [0, 1, 2] [] hP hD hS hA (pn_rV [.int (nI b), .int (nI (i + 1))] [] Fx hK hN hP hD [0, 1, 2] rfl rfl (c_M_trim l D cI cZ cB cJ _ oM qW qM qK qJ qG qH qP cd pl (pn_up w1 (3200 * b + i) cr) mn b (i + 1) hb7 (by omega) (by rw [pm_at_up]; exact pm_fig_upS hfg (by omega))) kw_695 cal_M_trim inst_M_trim sel_M_trim ⟨by decide, by decide⟩ ⟨rfl, rfl⟩ 0 rfl rfl rfl rfl hl.1 (Nat.le_of_ble_eq_true rfl) d_M_addTo_115 ⟨Nat.zero_le _, Nat.zero_le _⟩) rfl rfl rfl (by decide) (fun u_115 H locs hw hP hD hS => ?_)
          obtain ⟨t1, t2, t3⟩ := hw
          have hP : va_P D pn_cl [(oM, .inr (5, [.int (nI cd), .ref qW, .ref qM, .ref qK, .ref qJ, .ref qG, .ref qH, .ref qP, .int (nI pl)])), (qW, .inl (cI, 22400, .inl (fun z9 => nI ((pn_up w1 (3200 * b + i) cr) z9)))), (qM, .inl (cI, 7, .inl (fun z9 => nI ((pn_up mn b u_115) z9))))] H := hP
          have hD : va_D A [(oM, .inr (5, [.int (nI cd), .ref qW, .ref qM, .ref qK, .ref qJ, .ref qG, .ref qH, .ref qP, .int (nI pl)])), (qW, .inl (cI, 22400, .inl (fun z9 => nI ((pn_up w1 (3200 * b + i) cr) z9)))), (qM, .inl (cI, 7, .inl (fun z9 => nI ((pn_up mn b u_115) z9))))] := hD
          exact pn_retv ((pn_up w1 (3200 * b + i) cr, u_115)) Fx hr hlocks hQ hAe hP hD hS (by (try dsimp only); first | done | exact (⟨pm_N_of (n := i + 1) (by omega) (by rw [pm_at_up]; exact pm_fig_upS hfg (by omega)) t1 t2 t3 (by rw [pm_at_up, pm_V_upS, hV, pm_c_V (by omega), pm_c_V (by omega), n4, m4]), pm_K_of (pm_fr_up hF (by omega))⟩)) d_M_addTo_118
        · skip
          have f1 := pm_c_lt n2 i
          have f2 := pm_c_lt m2 i
          refine lv_aload_n hx hb d_M_addTo_43 rfl (lv_at hl 3 rfl) ?_
          refine lv_iload_n hx hb d_M_addTo_44 rfl (lv_at hl 4 rfl) ?_
          refine lv_iload hx hb d_M_addTo_45 (lv_at hl 0 rfl) ?_
          refine pn_bi (wr := []) [0, 1, 2] [] hP hD hS hA (pn_rV [.int (nI b), .int (nI i)] [] Fx hK hN hP hD [0, 1, 2] rfl rfl (c_M_figure l D cI cZ cB cJ _ oM qW qM qK qJ qG qH qP cd pl w1 mn b i (by omega) (by omega) (by omega)) kw_716 cal_M_figure inst_M_figure sel_M_figure ⟨by decide, by decide⟩ ⟨rfl, rfl⟩ 0 rfl rfl rfl rfl hl.1 (Nat.le_of_ble_eq_true rfl) d_M_addTo_47 ⟨Nat.zero_le _, Nat.zero_le _⟩) rfl rfl rfl (by decide) (fun r_47 u_47 H locs hw hP hD hS => ?_)
          obtain ⟨⟩ := u_47
          have hP : va_P D pn_cl [(oM, .inr (5, [.int (nI cd), .ref qW, .ref qM, .ref qK, .ref qJ, .ref qG, .ref qH, .ref qP, .int (nI pl)])), (qW, .inl (cI, 22400, .inl (fun z9 => nI (w1 z9)))), (qM, .inl (cI, 7, .inl (fun z9 => nI (mn z9))))] H := hP
          have hD : va_D A [(oM, .inr (5, [.int (nI cd), .ref qW, .ref qM, .ref qK, .ref qJ, .ref qG, .ref qH, .ref qP, .int (nI pl)])), (qW, .inl (cI, 22400, .inl (fun z9 => nI (w1 z9)))), (qM, .inl (cI, 7, .inl (fun z9 => nI (mn z9))))] := hD
          refine pn_topi (nI (pm_c (pm_at wk b) (mn b) i)) (by rw [hw, hun i (Nat.le_refl i)]; rfl) ?_
          refine lv_aload_n hx hb d_M_addTo_50 rfl (lv_at hl 3 rfl) ?_
          refine lv_iload_n hx hb d_M_addTo_51 rfl (lv_at hl 5 rfl) ?_
          refine lv_iload hx hb d_M_addTo_52 (lv_at hl 0 rfl) ?_
          refine pn_bi (wr := []) [0, 1, 2] [] hP hD hS hA (pn_rV [.int (nI c9), .int (nI i)] [.int (nI (pm_c (pm_at wk b) (mn b) i))] Fx hK hN hP hD [0, 1, 2] rfl rfl (c_M_figure l D cI cZ cB cJ _ oM qW qM qK qJ qG qH qP cd pl w1 mn c9 i (by omega) (by omega) (by omega)) kw_716 cal_M_figure inst_M_figure sel_M_figure ⟨by decide, by decide⟩ ⟨rfl, rfl⟩ 0 rfl rfl rfl rfl hl.1 (Nat.le_of_ble_eq_true rfl) d_M_addTo_54 ⟨Nat.zero_le _, Nat.zero_le _⟩) rfl rfl rfl (by decide) (fun r_54 u_54 H locs hw hP hD hS => ?_)
          obtain ⟨⟩ := u_54
          have hP : va_P D pn_cl [(oM, .inr (5, [.int (nI cd), .ref qW, .ref qM, .ref qK, .ref qJ, .ref qG, .ref qH, .ref qP, .int (nI pl)])), (qW, .inl (cI, 22400, .inl (fun z9 => nI (w1 z9)))), (qM, .inl (cI, 7, .inl (fun z9 => nI (mn z9))))] H := hP
          have hD : va_D A [(oM, .inr (5, [.int (nI cd), .ref qW, .ref qM, .ref qK, .ref qJ, .ref qG, .ref qH, .ref qP, .int (nI pl)])), (qW, .inl (cI, 22400, .inl (fun z9 => nI (w1 z9)))), (qM, .inl (cI, 7, .inl (fun z9 => nI (mn z9))))] := hD
          refine pn_topi (nI (pm_c (pm_at wk c9) (mn c9) i)) (by rw [hw]; unfold pm_c; split; (· rw [hF c9 i (Ne.symm hbc) (by omega)]); (· rfl)) ?_
          refine pw_iadd hx hb d_M_addTo_57 ?_
          refine lv_iload hx hb d_M_addTo_58 (lv_at hl 1 rfl) ?_
          refine pw_iadd hx hb d_M_addTo_60 ?_
          refine lv_istore (lv' := [(6, .int (nI (pm_c (pm_at wk b) (mn b) i + (pm_c (pm_at wk c9) (mn c9) i) + cr))), (5, .int (nI i)), (4, .int (nI cr)), (3, .int (nI n)), (0, .ref oM), (1, .int (nI b)), (2, .int (nI c9))]) hx hb d_M_addTo_61 hl (by decide) rfl (fun ls hl => ?_)
          refine lv_aload_n hx hb d_M_addTo_63 rfl (lv_at hl 4 rfl) ?_
          refine pw_get Fx hK hP fld_M 0 rfl 1 (by decide) kw_631 (v := .ref qW) rfl d_M_addTo_64 ?_
          refine lv_sipush (v := nI 3200) hx hb d_M_addTo_67 (by decide) ?_
          refine lv_iload_n hx hb d_M_addTo_70 rfl (lv_at hl 5 rfl) ?_
          refine pw_imul hx hb d_M_addTo_71 ?_
          refine lv_iload hx hb d_M_addTo_72 (lv_at hl 1 rfl) ?_
          refine pw_iadd hx hb d_M_addTo_74 ?_
          refine lv_iload hx hb d_M_addTo_75 (lv_at hl 0 rfl) ?_
          refine lv_sipush (v := nI 10000) hx hb d_M_addTo_77 (by decide) ?_
          refine pw_irem hx hb d_M_addTo_80 (by omega) (by omega) (by omega) ?_
          refine pw_iastN Fx hK hP hD hS 1 0 (g := w1) rfl rfl (k := 3200 * b + i) (by omega) (by decide) (w' := [(oM, .inr (5, [.int (nI cd), .ref qW, .ref qM, .ref qK, .ref qJ, .ref qG, .ref qH, .ref qP, .int (nI pl)])), (qW, .inl (cI, 22400, .inl (fun z9 => nI ((pn_up w1 (3200 * b + i) ((pm_c (pm_at wk b) (mn b) i + (pm_c (pm_at wk c9) (mn c9) i) + cr) % 10000)) z9)))), (qM, .inl (cI, 7, .inl (fun z9 => nI (mn z9))))]) rfl d_M_addTo_81 (fun H locs hP hD hS => ?_)
          refine lv_iload hx hb d_M_addTo_82 (lv_at hl 0 rfl) ?_
          refine lv_sipush (v := nI 10000) hx hb d_M_addTo_84 (by decide) ?_
          refine pw_idiv hx hb d_M_addTo_87 (by omega) (by omega) (by omega) ?_
          refine lv_istore (lv' := [(4, .int (nI ((pm_c (pm_at wk b) (mn b) i + (pm_c (pm_at wk c9) (mn c9) i) + cr) / 10000))), (6, .int (nI (pm_c (pm_at wk b) (mn b) i + (pm_c (pm_at wk c9) (mn c9) i) + cr))), (5, .int (nI i)), (3, .int (nI n)), (0, .ref oM), (1, .int (nI b)), (2, .int (nI c9))]) hx hb d_M_addTo_88 hl (by decide) rfl (fun ls hl => ?_)
          refine lv_iinc (v := nI (i + 1)) (lv' := [(5, .int (nI (i + 1))), (4, .int (nI ((pm_c (pm_at wk b) (mn b) i + (pm_c (pm_at wk c9) (mn c9) i) + cr) / 10000))), (6, .int (nI (pm_c (pm_at wk b) (mn b) i + (pm_c (pm_at wk c9) (mn c9) i) + cr))), (3, .int (nI n)), (0, .ref oM), (1, .int (nI b)), (2, .int (nI c9))]) hx hb d_M_addTo_90 hl (k := 2) rfl (nI_add _ 1) (by decide) rfl (fun ls hl => ?_)
          refine lv_goto (tgt := 37) hx hb d_M_addTo_93 (by decide) ?_
          exact ih37 (i + 1) ((pm_c (pm_at wk b) (mn b) i + pm_c (pm_at wk c9) (mn c9) i + cr) / 10000) _ (by omega) (by omega) (by omega) (pm_fr_up hF (by omega)) (by rw [pm_at_up]; exact pm_fig_upS hfg (by omega)) (fun j hj => by rw [pm_at_up, pn_up_n (by omega)]; exact hun j (by omega)) (by rw [pm_at_up, pm_V_upS, pm_P_s, Nat.add_assoc, pm_digit, pm_V_s, pm_V_s, Nat.add_mul, Nat.add_mul]; omega) _ _ _ (lv_sub hl [0, 1, 3, 4, 5, 6] rfl) hP hD hS
    exact loop37 _ 0 0 wk (Nat.lt_succ_self _) (Nat.zero_le _) (by omega) pm_fr_refl (fun i hi => by omega) (fun _ _ => rfl) (by simp [pm_V_0]) _ _ _ hl hP hD hS
