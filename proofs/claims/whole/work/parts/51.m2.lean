set_option maxHeartbeats 4000000 in
set_option maxRecDepth 100000 in
theorem c_M_thrown (l : Launch) (D : va_G) (cI cZ cB cJ : ClassId) (sz : Nat) (oM qW qM qK qJ qG qH qP cd pl : Nat) : pn_Ci l D (pn_ty cI cZ cB cJ) y_M_thrown w_M_thrown ({ frames := 0, cells := 0, slots := 0, locals := 0 } : Room) [.ref oM] [(oM, .inr (5, [.int (nI cd), .ref qW, .ref qM, .ref qK, .ref qJ, .ref qG, .ref qH, .ref qP, .int (nI pl)]))] sz (S := Unit) (fun r _ => r = nI cd) (fun _ => [(oM, .inr (5, [.int (nI cd), .ref qW, .ref qM, .ref qK, .ref qJ, .ref qG, .ref qH, .ref qP, .int (nI pl)]))]) := by
  refine pn_start (by decide) (Nat.le_of_ble_eq_true rfl) ?_
  intro p e s m below meth c A Q ls hQ hAe Fx hr hlocks hN hK hP hD hS hA hl
  have hx := Fx.1
  have hb := Fx.2.1
  have hl : lv_has ls 1 [(0, .ref oM)] := hl
  refine lv_aload_n hx hb d_M_thrown_0 rfl (lv_at hl 0 rfl) ?_
  refine pw_get Fx hK hP fld_M 0 rfl 0 (by decide) kw_630 (v := .int (nI cd)) rfl d_M_thrown_1 ?_
  exact pn_reti (()) Fx hr hlocks hQ hAe hP hD hS (by (try dsimp only); first | done | exact (rfl)) d_M_thrown_4

set_option maxHeartbeats 4000000 in
set_option maxRecDepth 100000 in
theorem c_M_refuses (l : Launch) (D : va_G) (cI cZ cB cJ : ClassId) (sz : Nat) (oM qW qM qK qJ qG qH qP cd pl : Nat) (c9 : Nat) (hc9 : c9 < 2 ^ 31) : pn_Ci l D (pn_ty cI cZ cB cJ) y_M_refuses w_M_refuses ({ frames := 0, cells := 0, slots := 0, locals := 0 } : Room) [.ref oM, .int (nI c9)] [(oM, .inr (5, [.int (nI cd), .ref qW, .ref qM, .ref qK, .ref qJ, .ref qG, .ref qH, .ref qP, .int (nI pl)]))] sz (S := Bool) (fun r u => r = pn_b u ∧ u = decide (0 < c9)) (fun _ => [(oM, .inr (5, [.int (nI c9), .ref qW, .ref qM, .ref qK, .ref qJ, .ref qG, .ref qH, .ref qP, .int (nI pl)]))]) := by
  refine pn_start (by decide) (Nat.le_of_ble_eq_true rfl) ?_
  intro p e s m below meth c A Q ls hQ hAe Fx hr hlocks hN hK hP hD hS hA hl
  have hx := Fx.1
  have hb := Fx.2.1
  have hl : lv_has ls 2 [(0, .ref oM), (1, .int (nI c9))] := hl
  refine lv_aload_n hx hb d_M_refuses_0 rfl (lv_at hl 0 rfl) ?_
  refine lv_iload_n hx hb d_M_refuses_1 rfl (lv_at hl 1 rfl) ?_
  refine pw_put Fx hK hP hD hS fld_M 0 rfl 0 (by decide) kw_630 rfl rfl rfl (Nat.le_of_ble_eq_true rfl) (w' := [(oM, .inr (5, [.int (nI c9), .ref qW, .ref qM, .ref qK, .ref qJ, .ref qG, .ref qH, .ref qP, .int (nI pl)]))]) rfl d_M_refuses_2 (fun H locs hP hD hS => ?_)
  refine lv_iload_n hx hb d_M_refuses_5 rfl (lv_at hl 1 rfl) ?_
  refine pw_if_le (a := c9) (tgt := 13) hx hb d_M_refuses_6 (by decide) (by omega) (fun h_6 => ?_) (fun h_6 => ?_)
  · skip
    have hz : false = decide (0 < c9) := (decide_eq_false (by omega)).symm
    refine lv_iconst (v := pn_b false) hx hb d_M_refuses_13 (by decide) ?_
    exact pn_retz (false) Fx hr (hn := pn_b_nar _) hlocks hQ hAe hP hD hS (by (try dsimp only); first | done | exact (⟨rfl, hz⟩)) d_M_refuses_14
  · skip
    have hz : true = decide (0 < c9) := (decide_eq_true (by omega)).symm
    refine lv_iconst (v := pn_b true) hx hb d_M_refuses_9 (by decide) ?_
    refine lv_goto (tgt := 14) hx hb d_M_refuses_10 (by decide) ?_
    exact pn_retz (true) Fx hr (hn := pn_b_nar _) hlocks hQ hAe hP hD hS (by (try dsimp only); first | done | exact (⟨rfl, hz⟩)) d_M_refuses_14

set_option maxHeartbeats 4000000 in
set_option maxRecDepth 100000 in
theorem c_M_isRegister (l : Launch) (D : va_G) (cI cZ cB cJ : ClassId) (sz : Nat) (x : Int32) : pn_Ci l D (pn_ty cI cZ cB cJ) y_M_isRegister w_M_isRegister ({ frames := 0, cells := 0, slots := 0, locals := 0 } : Room) [.int x] [] sz (S := Bool) (fun r u => r = pn_b u ∧ (u = true ↔ pn_isR x)) (fun _ => []) := by
  refine pn_start (by decide) (Nat.le_of_ble_eq_true rfl) ?_
  intro p e s m below meth c A Q ls hQ hAe Fx hr hlocks hN hK hP hD hS hA hl
  have hx := Fx.1
  have hb := Fx.2.1
  have hl : lv_has ls 1 [(0, .int x)] := hl
  refine lv_iload_n hx hb d_M_isRegister_0 rfl (lv_at hl 0 rfl) ?_
  refine lv_if_lt (tgt := 14) hx hb d_M_isRegister_1 (by decide) (fun h_1 => ?_) (fun h_1 => ?_)
  · skip
    have hz : (false = true ↔ pn_isR x) := ⟨fun y => absurd y (by decide), fun y => absurd y (pn_isR_no (Or.inl h_1))⟩
    refine lv_iconst (v := pn_b false) hx hb d_M_isRegister_14 (by decide) ?_
    exact pn_retz (false) Fx hr (hn := pn_b_nar _) hlocks hQ hAe hP hD hS (by (try dsimp only); first | done | exact (⟨rfl, hz⟩)) d_M_isRegister_15
  · skip
    refine lv_iload_n hx hb d_M_isRegister_4 rfl (lv_at hl 0 rfl) ?_
    refine lv_bipush (v := 24) hx hb d_M_isRegister_5 (by decide) ?_
    refine lv_icmp_ge (tgt := 14) hx hb d_M_isRegister_7 (by decide) (fun h_7 => ?_) (fun h_7 => ?_)
    · skip
      have hz : (false = true ↔ pn_isR x) := ⟨fun y => absurd y (by decide), fun y => absurd y (pn_isR_no (Or.inr (Int32.not_lt.mpr h_7)))⟩
      refine lv_iconst (v := pn_b false) hx hb d_M_isRegister_14 (by decide) ?_
      exact pn_retz (false) Fx hr (hn := pn_b_nar _) hlocks hQ hAe hP hD hS (by (try dsimp only); first | done | exact (⟨rfl, hz⟩)) d_M_isRegister_15
    · skip
      have hz : (true = true ↔ pn_isR x) := ⟨fun _ => pn_isR_of h_1 (Int32.not_le.mp h_7), fun _ => rfl⟩
      refine lv_iconst (v := pn_b true) hx hb d_M_isRegister_10 (by decide) ?_
      refine lv_goto (tgt := 15) hx hb d_M_isRegister_11 (by decide) ?_
      exact pn_retz (true) Fx hr (hn := pn_b_nar _) hlocks hQ hAe hP hD hS (by (try dsimp only); first | done | exact (⟨rfl, hz⟩)) d_M_isRegister_15

set_option maxHeartbeats 4000000 in
set_option maxRecDepth 100000 in
theorem c_M_are (l : Launch) (D : va_G) (cI cZ cB cJ : ClassId) (sz : Nat) (x y z : Int32) : pn_Ci l D (pn_ty cI cZ cB cJ) y_M_are w_M_are ({ frames := 1, cells := 0, slots := 0, locals := 30 } : Room) [.int x, .int y, .int z] [] sz (S := Bool) (fun r u => r = pn_b u ∧ (u = true ↔ (pn_isR x ∧ pn_isR y ∧ pn_isR z))) (fun _ => []) := by
  refine pn_start (by decide) (Nat.le_of_ble_eq_true rfl) ?_
  intro p e s m below meth c A Q ls hQ hAe Fx hr hlocks hN hK hP hD hS hA hl
  have hx := Fx.1
  have hb := Fx.2.1
  have hl : lv_has ls 3 [(0, .int x), (1, .int y), (2, .int z)] := hl
  refine lv_iload_n hx hb d_M_are_0 rfl (lv_at hl 0 rfl) ?_
  refine pn_bi (wr := []) [] [] hP hD hS hA (pn_rS [.int x] [] Fx hK hN hP hD [] rfl rfl (c_M_isRegister l D cI cZ cB cJ _ x) kw_666 cal_M_isRegister stat_M_isRegister ⟨by decide, by decide⟩ ⟨rfl, rfl⟩ rfl hl.1 (Nat.le_of_ble_eq_true rfl) d_M_are_1 ⟨Nat.zero_le _, Nat.zero_le _⟩) rfl rfl rfl (by decide) (fun r_1 u_1 H locs hw hP hD hS => ?_)
  obtain ⟨rfl, h1⟩ := hw
  have hP : va_P D pn_cl [] H := hP
  have hD : va_D A [] := hD
  refine pw_ifb_eq (tgt := 25) hx hb d_M_are_4 (by decide) (fun h_4 => ?_) (fun h_4 => ?_)
  · skip
    have hz : (false = true ↔ (pn_isR x ∧ pn_isR y ∧ pn_isR z)) := ⟨fun q => absurd q (by decide), fun q => absurd (h1.mpr q.1) (by rw [h_4]; decide)⟩
    refine lv_iconst (v := pn_b false) hx hb d_M_are_25 (by decide) ?_
    exact pn_retz (false) Fx hr (hn := pn_b_nar _) hlocks hQ hAe hP hD hS (by (try dsimp only); first | done | exact (⟨rfl, hz⟩)) d_M_are_26
  · skip
    refine lv_iload_n hx hb d_M_are_7 rfl (lv_at hl 1 rfl) ?_
    refine pn_bi (wr := []) [] [] hP hD hS hA (pn_rS [.int y] [] Fx hK hN hP hD [] rfl rfl (c_M_isRegister l D cI cZ cB cJ _ y) kw_666 cal_M_isRegister stat_M_isRegister ⟨by decide, by decide⟩ ⟨rfl, rfl⟩ rfl hl.1 (Nat.le_of_ble_eq_true rfl) d_M_are_8 ⟨Nat.zero_le _, Nat.zero_le _⟩) rfl rfl rfl (by decide) (fun r_8 u_8 H locs hw hP hD hS => ?_)
    obtain ⟨rfl, h2⟩ := hw
    have hP : va_P D pn_cl [] H := hP
    have hD : va_D A [] := hD
    refine pw_ifb_eq (tgt := 25) hx hb d_M_are_11 (by decide) (fun h_11 => ?_) (fun h_11 => ?_)
    · skip
      have hz : (false = true ↔ (pn_isR x ∧ pn_isR y ∧ pn_isR z)) := ⟨fun q => absurd q (by decide), fun q => absurd (h2.mpr q.2.1) (by rw [h_11]; decide)⟩
      refine lv_iconst (v := pn_b false) hx hb d_M_are_25 (by decide) ?_
      exact pn_retz (false) Fx hr (hn := pn_b_nar _) hlocks hQ hAe hP hD hS (by (try dsimp only); first | done | exact (⟨rfl, hz⟩)) d_M_are_26
    · skip
      refine lv_iload_n hx hb d_M_are_14 rfl (lv_at hl 2 rfl) ?_
      refine pn_bi (wr := []) [] [] hP hD hS hA (pn_rS [.int z] [] Fx hK hN hP hD [] rfl rfl (c_M_isRegister l D cI cZ cB cJ _ z) kw_666 cal_M_isRegister stat_M_isRegister ⟨by decide, by decide⟩ ⟨rfl, rfl⟩ rfl hl.1 (Nat.le_of_ble_eq_true rfl) d_M_are_15 ⟨Nat.zero_le _, Nat.zero_le _⟩) rfl rfl rfl (by decide) (fun r_15 u_15 H locs hw hP hD hS => ?_)
      obtain ⟨rfl, h3⟩ := hw
      have hP : va_P D pn_cl [] H := hP
      have hD : va_D A [] := hD
      refine pw_ifb_eq (tgt := 25) hx hb d_M_are_18 (by decide) (fun h_18 => ?_) (fun h_18 => ?_)
      · skip
        have hz : (false = true ↔ (pn_isR x ∧ pn_isR y ∧ pn_isR z)) := ⟨fun q => absurd q (by decide), fun q => absurd (h3.mpr q.2.2) (by rw [h_18]; decide)⟩
        refine lv_iconst (v := pn_b false) hx hb d_M_are_25 (by decide) ?_
        exact pn_retz (false) Fx hr (hn := pn_b_nar _) hlocks hQ hAe hP hD hS (by (try dsimp only); first | done | exact (⟨rfl, hz⟩)) d_M_are_26
      · skip
        have hz : (true = true ↔ (pn_isR x ∧ pn_isR y ∧ pn_isR z)) := ⟨fun _ => ⟨h1.mp h_4, h2.mp h_11, h3.mp h_18⟩, fun _ => rfl⟩
        refine lv_iconst (v := pn_b true) hx hb d_M_are_21 (by decide) ?_
        refine lv_goto (tgt := 26) hx hb d_M_are_22 (by decide) ?_
        exact pn_retz (true) Fx hr (hn := pn_b_nar _) hlocks hQ hAe hP hD hS (by (try dsimp only); first | done | exact (⟨rfl, hz⟩)) d_M_are_26

set_option maxHeartbeats 4000000 in
set_option maxRecDepth 100000 in
theorem c_M_trim (l : Launch) (D : va_G) (cI cZ cB cJ : ClassId) (sz : Nat) (oM qW qM qK qJ qG qH qP cd pl : Nat) (wk mn : Nat → Nat) (b n : Nat) (hb7 : b < 7) (hn : n ≤ 3200) (hf : pm_fig (pm_at wk b) n) : pn_Cv l D (pn_ty cI cZ cB cJ) y_M_trim w_M_trim ({ frames := 0, cells := 0, slots := 0, locals := 0 } : Room) [.ref oM, .int (nI b), .int (nI n)] [(oM, .inr (5, [.int (nI cd), .ref qW, .ref qM, .ref qK, .ref qJ, .ref qG, .ref qH, .ref qP, .int (nI pl)])), (qW, .inl (cI, 22400, .inl (fun z9 => nI (wk z9)))), (qM, .inl (cI, 7, .inl (fun z9 => nI (mn z9))))] sz (S := Nat) (fun j => j ≤ n ∧ pm_V (pm_at wk b) j = pm_V (pm_at wk b) n ∧ pm_nz (pm_at wk b) j) (fun j => [(oM, .inr (5, [.int (nI cd), .ref qW, .ref qM, .ref qK, .ref qJ, .ref qG, .ref qH, .ref qP, .int (nI pl)])), (qW, .inl (cI, 22400, .inl (fun z9 => nI (wk z9)))), (qM, .inl (cI, 7, .inl (fun z9 => nI ((pn_up mn b j) z9))))]) := by
  refine pn_start (by decide) (Nat.le_of_ble_eq_true rfl) ?_
  intro p e s m below meth c A Q ls hQ hAe Fx hr hlocks hN hK hP hD hS hA hl
  have hx := Fx.1
  have hb := Fx.2.1
  have hl : lv_has ls 4 [(0, .ref oM), (1, .int (nI b)), (2, .int (nI n))] := hl
  refine lv_iload_n hx hb d_M_trim_0 rfl (lv_at hl 2 rfl) ?_
  refine lv_istore_n (lv' := [(3, .int (nI n)), (0, .ref oM), (1, .int (nI b)), (2, .int (nI n))]) hx hb d_M_trim_1 rfl hl (by decide) rfl (fun ls hl => ?_)
  have loop2 : ∀ (N : Nat) (k : Nat), k < N → (k ≤ n) → (pm_V (pm_at wk b) k = pm_V (pm_at wk b) n) → ∀ (H : Heap) (locs : List Loc) (ls : Array Slot), lv_has ls 4 [(3, .int (nI k)), (0, .ref oM), (1, .int (nI b)), (2, .int (nI n))] → va_P D pn_cl [(oM, .inr (5, [.int (nI cd), .ref qW, .ref qM, .ref qK, .ref qJ, .ref qG, .ref qH, .ref qP, .int (nI pl)])), (qW, .inl (cI, 22400, .inl (fun z9 => nI (wk z9)))), (qM, .inl (cI, 7, .inl (fun z9 => nI (mn z9))))] H → va_D A [(oM, .inr (5, [.int (nI cd), .ref qW, .ref qM, .ref qK, .ref qJ, .ref qG, .ref qH, .ref qP, .int (nI pl)])), (qW, .inl (cI, 22400, .inl (fun z9 => nI (wk z9)))), (qM, .inl (cI, 7, .inl (fun z9 => nI (mn z9))))] → va_S A s.heap H locs → W p l e ({ frames := 0, cells := 0, slots := 0, locals := 0 } : Room) s m ([.ref oM, .int (nI b), .int (nI n)] : List Value).toArray below meth c H locs 0 0 Q (F0 m 2 ls []) := by
    intro N
    induction N with
    | zero => intro k hM; exact absurd hM (Nat.not_lt_zero _)
    | succ N ih2 =>
      intro k hM2 hk hV H locs ls hl hP hD hS
      refine lv_iload_n hx hb d_M_trim_2 rfl (lv_at hl 0 rfl) ?_
      refine pw_if_le (a := k) (tgt := 29) hx hb d_M_trim_3 (by decide) (by omega) (fun h_3 => ?_) (fun h_3 => ?_)
      · skip
        have hk0 : k = 0 := by omega
        have hz : pm_nz (pm_at wk b) k := fun i hi => by omega
        refine lv_aload_n hx hb d_M_trim_29 rfl (lv_at hl 1 rfl) ?_
        refine pw_get Fx hK hP fld_M 0 rfl 2 (by decide) kw_632 (v := .ref qM) rfl d_M_trim_30 ?_
        refine lv_iload_n hx hb d_M_trim_33 rfl (lv_at hl 2 rfl) ?_
        refine lv_iload_n hx hb d_M_trim_34 rfl (lv_at hl 0 rfl) ?_
        refine pw_iastN Fx hK hP hD hS 2 0 (g := mn) rfl rfl (k := b) (by omega) (by decide) (w' := [(oM, .inr (5, [.int (nI cd), .ref qW, .ref qM, .ref qK, .ref qJ, .ref qG, .ref qH, .ref qP, .int (nI pl)])), (qW, .inl (cI, 22400, .inl (fun z9 => nI (wk z9)))), (qM, .inl (cI, 7, .inl (fun z9 => nI ((pn_up mn b k) z9))))]) rfl d_M_trim_35 (fun H locs hP hD hS => ?_)
        exact pn_retv (k) Fx hr hlocks hQ hAe hP hD hS (by (try dsimp only); first | done | exact (⟨hk, hV, hz⟩)) d_M_trim_36
      · skip
        have hfk := hf (k - 1) (by omega)
        rw [pm_at_e, show 3200 * b + (k - 1) = 3200 * b + k - 1 by omega] at hfk
        refine lv_aload_n hx hb d_M_trim_6 rfl (lv_at hl 1 rfl) ?_
        refine pw_get Fx hK hP fld_M 0 rfl 1 (by decide) kw_631 (v := .ref qW) rfl d_M_trim_7 ?_
        refine lv_sipush (v := nI 3200) hx hb d_M_trim_10 (by decide) ?_
        refine lv_iload_n hx hb d_M_trim_13 rfl (lv_at hl 2 rfl) ?_
        refine pw_imul hx hb d_M_trim_14 ?_
        refine lv_iload_n hx hb d_M_trim_15 rfl (lv_at hl 0 rfl) ?_
        refine pw_iadd hx hb d_M_trim_16 ?_
        refine lv_iconst (v := nI 1) hx hb d_M_trim_17 (by decide) ?_
        refine pw_isub hx hb d_M_trim_18 (by omega) ?_
        refine pw_iald Fx hK hP 1 0 (f := fun z9 => nI (wk z9)) rfl rfl (k := 3200 * b + k - 1) (by omega) (by decide) d_M_trim_19 ?_
        refine pn_topi (nI (wk (3200 * b + k - 1))) rfl ?_
        refine pw_if_ne (a := wk (3200 * b + k - 1)) (tgt := 29) hx hb d_M_trim_20 (by decide) (by omega) (fun h_20 => ?_) (fun h_20 => ?_)
        · skip
          have hz : pm_nz (pm_at wk b) k := fun i hi => by rw [pm_at_e, show 3200 * b + i = 3200 * b + k - 1 by omega]; exact h_20
          refine lv_aload_n hx hb d_M_trim_29 rfl (lv_at hl 1 rfl) ?_
          refine pw_get Fx hK hP fld_M 0 rfl 2 (by decide) kw_632 (v := .ref qM) rfl d_M_trim_30 ?_
          refine lv_iload_n hx hb d_M_trim_33 rfl (lv_at hl 2 rfl) ?_
          refine lv_iload_n hx hb d_M_trim_34 rfl (lv_at hl 0 rfl) ?_
          refine pw_iastN Fx hK hP hD hS 2 0 (g := mn) rfl rfl (k := b) (by omega) (by decide) (w' := [(oM, .inr (5, [.int (nI cd), .ref qW, .ref qM, .ref qK, .ref qJ, .ref qG, .ref qH, .ref qP, .int (nI pl)])), (qW, .inl (cI, 22400, .inl (fun z9 => nI (wk z9)))), (qM, .inl (cI, 7, .inl (fun z9 => nI ((pn_up mn b k) z9))))]) rfl d_M_trim_35 (fun H locs hP hD hS => ?_)
          exact pn_retv (k) Fx hr hlocks hQ hAe hP hD hS (by (try dsimp only); first | done | exact (⟨hk, hV, hz⟩)) d_M_trim_36
        · skip
          have hV1 : pm_V (pm_at wk b) (k - 1) = pm_V (pm_at wk b) n := by rw [← hV]; obtain ⟨j, rfl⟩ : ∃ j, k = j + 1 := ⟨k - 1, by omega⟩; rw [Nat.add_sub_cancel, pm_V_s, pm_at_e, show 3200 * b + j = 3200 * b + (j + 1) - 1 by omega, h_20, Nat.zero_mul, Nat.add_zero]
          refine lv_iinc (v := nI (k - 1)) (lv' := [(3, .int (nI (k - 1))), (0, .ref oM), (1, .int (nI b)), (2, .int (nI n))]) hx hb d_M_trim_23 hl (k := 0) rfl (sb_m1 (by omega)) (by decide) rfl (fun ls hl => ?_)
          refine lv_goto (tgt := 2) hx hb d_M_trim_26 (by decide) ?_
          exact ih2 (k - 1) (by omega) (by omega) hV1 _ _ _ hl hP hD hS
  exact loop2 _ n (Nat.lt_succ_self _) (Nat.le_refl _) rfl _ _ _ hl hP hD hS

set_option maxHeartbeats 4000000 in
set_option maxRecDepth 100000 in
theorem c_M_figure (l : Launch) (D : va_G) (cI cZ cB cJ : ClassId) (sz : Nat) (oM qW qM qK qJ qG qH qP cd pl : Nat) (wk mn : Nat → Nat) (b k : Nat) (hb7 : b < 7) (hm : mn b ≤ 3200) (hk : k < 2 ^ 31) : pn_Ci l D (pn_ty cI cZ cB cJ) y_M_figure w_M_figure ({ frames := 0, cells := 0, slots := 0, locals := 0 } : Room) [.ref oM, .int (nI b), .int (nI k)] [(oM, .inr (5, [.int (nI cd), .ref qW, .ref qM, .ref qK, .ref qJ, .ref qG, .ref qH, .ref qP, .int (nI pl)])), (qW, .inl (cI, 22400, .inl (fun z9 => nI (wk z9)))), (qM, .inl (cI, 7, .inl (fun z9 => nI (mn z9))))] sz (S := Unit) (fun r _ => r = nI (if k < mn b then pm_at wk b k else 0)) (fun _ => [(oM, .inr (5, [.int (nI cd), .ref qW, .ref qM, .ref qK, .ref qJ, .ref qG, .ref qH, .ref qP, .int (nI pl)])), (qW, .inl (cI, 22400, .inl (fun z9 => nI (wk z9)))), (qM, .inl (cI, 7, .inl (fun z9 => nI (mn z9))))]) := by
  refine pn_start (by decide) (Nat.le_of_ble_eq_true rfl) ?_
  intro p e s m below meth c A Q ls hQ hAe Fx hr hlocks hN hK hP hD hS hA hl
  have hx := Fx.1
  have hb := Fx.2.1
  have hl : lv_has ls 3 [(0, .ref oM), (1, .int (nI b)), (2, .int (nI k))] := hl
  refine lv_iload_n hx hb d_M_figure_0 rfl (lv_at hl 2 rfl) ?_
  refine lv_aload_n hx hb d_M_figure_1 rfl (lv_at hl 0 rfl) ?_
  refine pw_get Fx hK hP fld_M 0 rfl 2 (by decide) kw_632 (v := .ref qM) rfl d_M_figure_2 ?_
  refine lv_iload_n hx hb d_M_figure_5 rfl (lv_at hl 1 rfl) ?_
  refine pw_iald Fx hK hP 2 0 (f := fun z9 => nI (mn z9)) rfl rfl (k := b) (by omega) (by decide) d_M_figure_6 ?_
  refine pn_topi (nI (mn b)) rfl ?_
  refine pw_icmp_ge (a := k) (b := mn b) (tgt := 25) hx hb d_M_figure_7 (by decide) (by omega) (by omega) (fun h_7 => ?_) (fun h_7 => ?_)
  · skip
    have hz : nI 0 = nI (if k < mn b then pm_at wk b k else 0) := by rw [if_neg (by omega)]
    refine lv_iconst (v := nI 0) hx hb d_M_figure_25 (by decide) ?_
    exact pn_reti (()) Fx hr hlocks hQ hAe hP hD hS (by (try dsimp only); first | done | exact (hz)) d_M_figure_26
  · skip
    have hz : nI (wk (3200 * b + k)) = nI (if k < mn b then pm_at wk b k else 0) := by rw [if_pos h_7, pm_at_e]
    refine lv_aload_n hx hb d_M_figure_10 rfl (lv_at hl 0 rfl) ?_
    refine pw_get Fx hK hP fld_M 0 rfl 1 (by decide) kw_631 (v := .ref qW) rfl d_M_figure_11 ?_
    refine lv_sipush (v := nI 3200) hx hb d_M_figure_14 (by decide) ?_
    refine lv_iload_n hx hb d_M_figure_17 rfl (lv_at hl 1 rfl) ?_
    refine pw_imul hx hb d_M_figure_18 ?_
    refine lv_iload_n hx hb d_M_figure_19 rfl (lv_at hl 2 rfl) ?_
    refine pw_iadd hx hb d_M_figure_20 ?_
    refine pw_iald Fx hK hP 1 0 (f := fun z9 => nI (wk z9)) rfl rfl (k := 3200 * b + k) (by omega) (by decide) d_M_figure_21 ?_
    refine pn_topi (nI (wk (3200 * b + k))) rfl ?_
    refine lv_goto (tgt := 26) hx hb d_M_figure_22 (by decide) ?_
    exact pn_reti (()) Fx hr hlocks hQ hAe hP hD hS (by (try dsimp only); first | done | exact (hz)) d_M_figure_26

set_option maxHeartbeats 4000000 in
set_option maxRecDepth 100000 in
theorem c_M_copyTo (l : Launch) (D : va_G) (cI cZ cB cJ : ClassId) (sz : Nat) (oM qW qM qK qJ qG qH qP cd pl : Nat) (wk mn : Nat → Nat) (b c9 v : Nat) (hb7 : b < 7) (hc7 : c9 < 7) (hbc : b ≠ c9) (hN0 : pm_N wk mn c9 v) : pn_Cv l D (pn_ty cI cZ cB cJ) y_M_copyTo w_M_copyTo ({ frames := 0, cells := 0, slots := 0, locals := 0 } : Room) [.ref oM, .int (nI b), .int (nI c9)] [(oM, .inr (5, [.int (nI cd), .ref qW, .ref qM, .ref qK, .ref qJ, .ref qG, .ref qH, .ref qP, .int (nI pl)])), (qW, .inl (cI, 22400, .inl (fun z9 => nI (wk z9)))), (qM, .inl (cI, 7, .inl (fun z9 => nI (mn z9))))] sz (S := (Nat → Nat)) (fun u => pm_N u (pn_up mn b (mn c9)) b v ∧ pm_K b wk mn u (pn_up mn b (mn c9))) (fun u => [(oM, .inr (5, [.int (nI cd), .ref qW, .ref qM, .ref qK, .ref qJ, .ref qG, .ref qH, .ref qP, .int (nI pl)])), (qW, .inl (cI, 22400, .inl (fun z9 => nI (u z9)))), (qM, .inl (cI, 7, .inl (fun z9 => nI ((pn_up mn b (mn c9)) z9))))]) := by
  refine pn_start (by decide) (Nat.le_of_ble_eq_true rfl) ?_
  intro p e s m below meth c A Q ls hQ hAe Fx hr hlocks hN hK hP hD hS hA hl
  have hx := Fx.1
  have hb := Fx.2.1
  have hl : lv_has ls 4 [(0, .ref oM), (1, .int (nI b)), (2, .int (nI c9))] := hl
  obtain ⟨n1, n2, n3, n4⟩ := id hN0
  refine lv_iconst (v := nI 0) hx hb d_M_copyTo_0 (by decide) ?_
  refine lv_istore_n (lv' := [(3, .int (nI 0)), (0, .ref oM), (1, .int (nI b)), (2, .int (nI c9))]) hx hb d_M_copyTo_1 rfl hl (by decide) rfl (fun ls hl => ?_)
  have loop2 : ∀ (N : Nat) (k : Nat) (w1 : Nat → Nat), mn c9 - k < N → (k ≤ mn c9) → (pm_fr b wk w1) → (∀ i, i < k → pm_at w1 b i = pm_at wk c9 i) → ∀ (H : Heap) (locs : List Loc) (ls : Array Slot), lv_has ls 4 [(3, .int (nI k)), (0, .ref oM), (1, .int (nI b)), (2, .int (nI c9))] → va_P D pn_cl [(oM, .inr (5, [.int (nI cd), .ref qW, .ref qM, .ref qK, .ref qJ, .ref qG, .ref qH, .ref qP, .int (nI pl)])), (qW, .inl (cI, 22400, .inl (fun z9 => nI (w1 z9)))), (qM, .inl (cI, 7, .inl (fun z9 => nI (mn z9))))] H → va_D A [(oM, .inr (5, [.int (nI cd), .ref qW, .ref qM, .ref qK, .ref qJ, .ref qG, .ref qH, .ref qP, .int (nI pl)])), (qW, .inl (cI, 22400, .inl (fun z9 => nI (w1 z9)))), (qM, .inl (cI, 7, .inl (fun z9 => nI (mn z9))))] → va_S A s.heap H locs → W p l e ({ frames := 0, cells := 0, slots := 0, locals := 0 } : Room) s m ([.ref oM, .int (nI b), .int (nI c9)] : List Value).toArray below meth c H locs 0 0 Q (F0 m 2 ls []) := by
    intro N
    induction N with
    | zero => intro k w1 hM; exact absurd hM (Nat.not_lt_zero _)
    | succ N ih2 =>
      intro k w1 hM2 hk hF hc1 H locs ls hl hP hD hS
      refine lv_iload_n hx hb d_M_copyTo_2 rfl (lv_at hl 0 rfl) ?_
      refine lv_aload_n hx hb d_M_copyTo_3 rfl (lv_at hl 1 rfl) ?_
      refine pw_get Fx hK hP fld_M 0 rfl 2 (by decide) kw_632 (v := .ref qM) rfl d_M_copyTo_4 ?_
      refine lv_iload_n hx hb d_M_copyTo_7 rfl (lv_at hl 3 rfl) ?_
      refine pw_iald Fx hK hP 2 0 (f := fun z9 => nI (mn z9)) rfl rfl (k := c9) (by omega) (by decide) d_M_copyTo_8 ?_
      refine pn_topi (nI (mn c9)) rfl ?_
      refine pw_icmp_ge (a := k) (b := mn c9) (tgt := 42) hx hb d_M_copyTo_9 (by decide) (by omega) (by omega) (fun h_9 => ?_) (fun h_9 => ?_)
      · skip
        have hkk : k = mn c9 := by omega
        subst hkk
        refine lv_aload_n hx hb d_M_copyTo_42 rfl (lv_at hl 1 rfl) ?_
        refine pw_get Fx hK hP fld_M 0 rfl 2 (by decide) kw_632 (v := .ref qM) rfl d_M_copyTo_43 ?_
        refine lv_iload_n hx hb d_M_copyTo_46 rfl (lv_at hl 2 rfl) ?_
        refine lv_aload_n hx hb d_M_copyTo_47 rfl (lv_at hl 1 rfl) ?_
        refine pw_get Fx hK hP fld_M 0 rfl 2 (by decide) kw_632 (v := .ref qM) rfl d_M_copyTo_48 ?_
        refine lv_iload_n hx hb d_M_copyTo_51 rfl (lv_at hl 3 rfl) ?_
        refine pw_iald Fx hK hP 2 0 (f := fun z9 => nI (mn z9)) rfl rfl (k := c9) (by omega) (by decide) d_M_copyTo_52 ?_
        refine pn_topi (nI (mn c9)) rfl ?_
        refine pw_iastN Fx hK hP hD hS 2 0 (g := mn) rfl rfl (k := b) (by omega) (by decide) (w' := [(oM, .inr (5, [.int (nI cd), .ref qW, .ref qM, .ref qK, .ref qJ, .ref qG, .ref qH, .ref qP, .int (nI pl)])), (qW, .inl (cI, 22400, .inl (fun z9 => nI (w1 z9)))), (qM, .inl (cI, 7, .inl (fun z9 => nI ((pn_up mn b (mn c9)) z9))))]) rfl d_M_copyTo_53 (fun H locs hP hD hS => ?_)
        exact pn_retv (w1) Fx hr hlocks hQ hAe hP hD hS (by (try dsimp only); first | done | exact (⟨⟨by rw [pn_up_s]; exact n1, by rw [pn_up_s]; exact fun i hi => by rw [hc1 i hi]; exact n2 i hi, by rw [pn_up_s]; exact fun i hi => by rw [hc1 i (by omega)]; exact n3 i hi, by rw [pn_up_s, pm_V_congr hc1]; exact n4⟩, pm_K_of hF⟩)) d_M_copyTo_54
      · skip
        refine lv_aload_n hx hb d_M_copyTo_12 rfl (lv_at hl 1 rfl) ?_
        refine pw_get Fx hK hP fld_M 0 rfl 1 (by decide) kw_631 (v := .ref qW) rfl d_M_copyTo_13 ?_
        refine lv_sipush (v := nI 3200) hx hb d_M_copyTo_16 (by decide) ?_
        refine lv_iload_n hx hb d_M_copyTo_19 rfl (lv_at hl 2 rfl) ?_
        refine pw_imul hx hb d_M_copyTo_20 ?_
        refine lv_iload_n hx hb d_M_copyTo_21 rfl (lv_at hl 0 rfl) ?_
        refine pw_iadd hx hb d_M_copyTo_22 ?_
        refine lv_aload_n hx hb d_M_copyTo_23 rfl (lv_at hl 1 rfl) ?_
        refine pw_get Fx hK hP fld_M 0 rfl 1 (by decide) kw_631 (v := .ref qW) rfl d_M_copyTo_24 ?_
        refine lv_sipush (v := nI 3200) hx hb d_M_copyTo_27 (by decide) ?_
        refine lv_iload_n hx hb d_M_copyTo_30 rfl (lv_at hl 3 rfl) ?_
        refine pw_imul hx hb d_M_copyTo_31 ?_
        refine lv_iload_n hx hb d_M_copyTo_32 rfl (lv_at hl 0 rfl) ?_
        refine pw_iadd hx hb d_M_copyTo_33 ?_
        refine pw_iald Fx hK hP 1 0 (f := fun z9 => nI (w1 z9)) rfl rfl (k := 3200 * c9 + k) (by omega) (by decide) d_M_copyTo_34 ?_
        refine pn_topi (nI (w1 (3200 * c9 + k))) rfl ?_
        refine pw_iastN Fx hK hP hD hS 1 0 (g := w1) rfl rfl (k := 3200 * b + k) (by omega) (by decide) (w' := [(oM, .inr (5, [.int (nI cd), .ref qW, .ref qM, .ref qK, .ref qJ, .ref qG, .ref qH, .ref qP, .int (nI pl)])), (qW, .inl (cI, 22400, .inl (fun z9 => nI ((pn_up w1 (3200 * b + k) (w1 (3200 * c9 + k))) z9)))), (qM, .inl (cI, 7, .inl (fun z9 => nI (mn z9))))]) rfl d_M_copyTo_35 (fun H locs hP hD hS => ?_)
        refine lv_iinc (v := nI (k + 1)) (lv' := [(3, .int (nI (k + 1))), (0, .ref oM), (1, .int (nI b)), (2, .int (nI c9))]) hx hb d_M_copyTo_36 hl (k := 0) rfl (nI_add _ 1) (by decide) rfl (fun ls hl => ?_)
        refine lv_goto (tgt := 2) hx hb d_M_copyTo_39 (by decide) ?_
        exact ih2 (k + 1) _ (by omega) (by omega) (pm_fr_up hF (by omega)) (fun i hi => by rw [pm_at_up]; rcases (show i = k ∨ i < k by omega) with z | z; (· rw [z, pn_up_s]; exact hF c9 k (Ne.symm hbc) (by omega)); (· rw [pn_up_n (by omega)]; exact hc1 i z)) _ _ _ hl hP hD hS
  exact loop2 _ 0 wk (Nat.lt_succ_self _) (Nat.zero_le _) pm_fr_refl (fun i hi => by omega) _ _ _ hl hP hD hS

set_option maxHeartbeats 4000000 in
set_option maxRecDepth 100000 in
theorem c_M_order (l : Launch) (D : va_G) (cI cZ cB cJ : ClassId) (sz : Nat) (oM qW qM qK qJ qG qH qP cd pl : Nat) (wk mn : Nat → Nat) (b c9 v v2 : Nat) (hb7 : b < 7) (hc7 : c9 < 7) (hN1 : pm_N wk mn b v) (hN2 : pm_N wk mn c9 v2) : pn_Ci l D (pn_ty cI cZ cB cJ) y_M_order w_M_order ({ frames := 0, cells := 0, slots := 0, locals := 0 } : Room) [.ref oM, .int (nI b), .int (nI c9)] [(oM, .inr (5, [.int (nI cd), .ref qW, .ref qM, .ref qK, .ref qJ, .ref qG, .ref qH, .ref qP, .int (nI pl)])), (qW, .inl (cI, 22400, .inl (fun z9 => nI (wk z9)))), (qM, .inl (cI, 7, .inl (fun z9 => nI (mn z9))))] sz (S := Unit) (fun r _ => r = pn_cmp (v : Int) (v2 : Int)) (fun _ => [(oM, .inr (5, [.int (nI cd), .ref qW, .ref qM, .ref qK, .ref qJ, .ref qG, .ref qH, .ref qP, .int (nI pl)])), (qW, .inl (cI, 22400, .inl (fun z9 => nI (wk z9)))), (qM, .inl (cI, 7, .inl (fun z9 => nI (mn z9))))]) := by
  refine pn_start (by decide) (Nat.le_of_ble_eq_true rfl) ?_
  intro p e s m below meth c A Q ls hQ hAe Fx hr hlocks hN hK hP hD hS hA hl
  have hx := Fx.1
  have hb := Fx.2.1
  have hl : lv_has ls 5 [(0, .ref oM), (1, .int (nI b)), (2, .int (nI c9))] := hl
  obtain ⟨n1, n2, n3, rfl⟩ := hN1
  obtain ⟨m1, m2, m3, rfl⟩ := hN2
  refine lv_aload_n hx hb d_M_order_0 rfl (lv_at hl 0 rfl) ?_
  refine pw_get Fx hK hP fld_M 0 rfl 2 (by decide) kw_632 (v := .ref qM) rfl d_M_order_1 ?_
  refine lv_iload_n hx hb d_M_order_4 rfl (lv_at hl 1 rfl) ?_
  refine pw_iald Fx hK hP 2 0 (f := fun z9 => nI (mn z9)) rfl rfl (k := b) (by omega) (by decide) d_M_order_5 ?_
  refine pn_topi (nI (mn b)) rfl ?_
  refine lv_aload_n hx hb d_M_order_6 rfl (lv_at hl 0 rfl) ?_
  refine pw_get Fx hK hP fld_M 0 rfl 2 (by decide) kw_632 (v := .ref qM) rfl d_M_order_7 ?_
  refine lv_iload_n hx hb d_M_order_10 rfl (lv_at hl 2 rfl) ?_
  refine pw_iald Fx hK hP 2 0 (f := fun z9 => nI (mn z9)) rfl rfl (k := c9) (by omega) (by decide) d_M_order_11 ?_
  refine pn_topi (nI (mn c9)) rfl ?_
  refine pw_icmp_eq (a := mn b) (b := mn c9) (tgt := 36) hx hb d_M_order_12 (by decide) (by omega) (by omega) (fun h_12 => ?_) (fun h_12 => ?_)
  · skip
    refine lv_aload_n hx hb d_M_order_36 rfl (lv_at hl 0 rfl) ?_
    refine pw_get Fx hK hP fld_M 0 rfl 2 (by decide) kw_632 (v := .ref qM) rfl d_M_order_37 ?_
    refine lv_iload_n hx hb d_M_order_40 rfl (lv_at hl 1 rfl) ?_
    refine pw_iald Fx hK hP 2 0 (f := fun z9 => nI (mn z9)) rfl rfl (k := b) (by omega) (by decide) d_M_order_41 ?_
    refine pn_topi (nI (mn b)) rfl ?_
    refine lv_iconst (v := nI 1) hx hb d_M_order_42 (by decide) ?_
    refine lv_isub hx hb d_M_order_43 ?_
    refine pn_topi (pn_I ((mn b : Int) - 1)) (pn_dec _) ?_
    refine lv_istore_n (lv' := [(3, .int (pn_I ((mn b : Int) - 1))), (0, .ref oM), (1, .int (nI b)), (2, .int (nI c9))]) hx hb d_M_order_44 rfl hl (by decide) rfl (fun ls hl => ?_)
    have loop45 : ∀ (N : Nat) (k : Nat), k < N → (k ≤ mn b) → (∀ i, k ≤ i → i < mn b → pm_at wk b i = pm_at wk c9 i) → ∀ (H : Heap) (locs : List Loc) (ls : Array Slot), lv_has ls 5 [(3, .int (pn_I ((k : Int) - 1))), (0, .ref oM), (1, .int (nI b)), (2, .int (nI c9))] → va_P D pn_cl [(oM, .inr (5, [.int (nI cd), .ref qW, .ref qM, .ref qK, .ref qJ, .ref qG, .ref qH, .ref qP, .int (nI pl)])), (qW, .inl (cI, 22400, .inl (fun z9 => nI (wk z9)))), (qM, .inl (cI, 7, .inl (fun z9 => nI (mn z9))))] H → va_D A [(oM, .inr (5, [.int (nI cd), .ref qW, .ref qM, .ref qK, .ref qJ, .ref qG, .ref qH, .ref qP, .int (nI pl)])), (qW, .inl (cI, 22400, .inl (fun z9 => nI (wk z9)))), (qM, .inl (cI, 7, .inl (fun z9 => nI (mn z9))))] → va_S A s.heap H locs → W p l e ({ frames := 0, cells := 0, slots := 0, locals := 0 } : Room) s m ([.ref oM, .int (nI b), .int (nI c9)] : List Value).toArray below meth c H locs 0 0 Q (F0 m 45 ls []) := by
      intro N
      induction N with
      | zero => intro k hM; exact absurd hM (Nat.not_lt_zero _)
      | succ N ih45 =>
        intro k hM45 hk hE H locs ls hl hP hD hS
        refine lv_iload_n hx hb d_M_order_45 rfl (lv_at hl 0 rfl) ?_
        refine lv_if_lt (tgt := 98) hx hb d_M_order_46 (by decide) (fun h_46 => ?_) (fun h_46 => ?_)
        · skip
          have hk0 := pn_dec_0 (by omega) h_46
          subst hk0
          have hz : nI 0 = pn_cmp (pm_V (pm_at wk b) (mn b) : Int) (pm_V (pm_at wk c9) (mn c9) : Int) := (pn_cmp_eq (by rw [← h_12, pm_V_congr (fun i hi => hE i (Nat.zero_le i) hi)])).symm
          refine lv_iconst (v := nI 0) hx hb d_M_order_98 (by decide) ?_
          exact pn_reti (()) Fx hr hlocks hQ hAe hP hD hS (by (try dsimp only); first | done | exact (hz)) d_M_order_99
        · skip
          obtain ⟨j, rfl⟩ := pn_dec_s h_46
          rw [pn_dec_n] at hl
          have f1 := n2 j (by omega)
          have f2 := m2 j (by omega)
          rw [pm_at_e] at f1 f2
          have hab := pm_V_above (f := pm_at wk b) (g := pm_at wk c9) hk hE
          refine lv_aload_n hx hb d_M_order_49 rfl (lv_at hl 1 rfl) ?_
          refine pw_get Fx hK hP fld_M 0 rfl 1 (by decide) kw_631 (v := .ref qW) rfl d_M_order_50 ?_
          refine lv_sipush (v := nI 3200) hx hb d_M_order_53 (by decide) ?_
          refine lv_iload_n hx hb d_M_order_56 rfl (lv_at hl 2 rfl) ?_
          refine pw_imul hx hb d_M_order_57 ?_
          refine lv_iload_n hx hb d_M_order_58 rfl (lv_at hl 0 rfl) ?_
          refine pw_iadd hx hb d_M_order_59 ?_
          refine pw_iald Fx hK hP 1 0 (f := fun z9 => nI (wk z9)) rfl rfl (k := 3200 * b + j) (by omega) (by decide) d_M_order_60 ?_
          refine pn_topi (nI (wk (3200 * b + j))) rfl ?_
          refine lv_aload_n hx hb d_M_order_61 rfl (lv_at hl 1 rfl) ?_
          refine pw_get Fx hK hP fld_M 0 rfl 1 (by decide) kw_631 (v := .ref qW) rfl d_M_order_62 ?_
          refine lv_sipush (v := nI 3200) hx hb d_M_order_65 (by decide) ?_
          refine lv_iload_n hx hb d_M_order_68 rfl (lv_at hl 3 rfl) ?_
          refine pw_imul hx hb d_M_order_69 ?_
          refine lv_iload_n hx hb d_M_order_70 rfl (lv_at hl 0 rfl) ?_
          refine pw_iadd hx hb d_M_order_71 ?_
          refine pw_iald Fx hK hP 1 0 (f := fun z9 => nI (wk z9)) rfl rfl (k := 3200 * c9 + j) (by omega) (by decide) d_M_order_72 ?_
          refine pn_topi (nI (wk (3200 * c9 + j))) rfl ?_
          refine pw_isubNN hx hb d_M_order_73 ?_
          refine lv_istore (lv' := [(4, .int (pn_I (((wk (3200 * b + j) : Nat) : Int) - ((wk (3200 * c9 + j) : Nat) : Int)))), (3, .int (nI j)), (0, .ref oM), (1, .int (nI b)), (2, .int (nI c9))]) hx hb d_M_order_74 hl (by decide) rfl (fun ls hl => ?_)
          refine lv_iload hx hb d_M_order_76 (lv_at hl 0 rfl) ?_
          refine pw_ifz_eq (z := ((wk (3200 * b + j) : Nat) : Int) - ((wk (3200 * c9 + j) : Nat) : Int)) (tgt := 92) hx hb d_M_order_78 (by decide) (by omega) (by omega) (fun h_78 => ?_) (fun h_78 => ?_)
          · skip
            refine lv_iinc (v := pn_I ((j : Int) - 1)) (lv' := [(3, .int (pn_I ((j : Int) - 1))), (4, .int (pn_I (((wk (3200 * b + j) : Nat) : Int) - ((wk (3200 * c9 + j) : Nat) : Int)))), (0, .ref oM), (1, .int (nI b)), (2, .int (nI c9))]) hx hb d_M_order_92 hl (k := 1) rfl (pn_dec' _) (by decide) rfl (fun ls hl => ?_)
            refine lv_goto (tgt := 45) hx hb d_M_order_95 (by decide) ?_
            exact ih45 j (by omega) (by omega) (fun i h1 h2 => by rcases (show i = j ∨ j + 1 ≤ i by omega) with z | z; (· rw [z, pm_at_e, pm_at_e]; omega); (· exact hE i z h2)) _ _ _ (lv_sub hl [0, 2, 3, 4] rfl) hP hD hS
          · skip
            refine lv_iload hx hb d_M_order_81 (lv_at hl 0 rfl) ?_
            refine pw_ifz_ge (z := ((wk (3200 * b + j) : Nat) : Int) - ((wk (3200 * c9 + j) : Nat) : Int)) (tgt := 90) hx hb d_M_order_83 (by decide) (by omega) (by omega) (fun h_83 => ?_) (fun h_83 => ?_)
            · skip
              have hz : nI 1 = pn_cmp (pm_V (pm_at wk b) (mn b) : Int) (pm_V (pm_at wk c9) (mn c9) : Int) := (pn_cmp_gt (by have := pm_V_less (f := pm_at wk c9) (g := pm_at wk b) (i := j) (fun i hi => m2 i (by omega)) (by rw [pm_at_e, pm_at_e]; omega); rw [← h_12]; omega)).symm
              refine lv_iconst (v := nI 1) hx hb d_M_order_90 (by decide) ?_
              exact pn_reti (()) Fx hr hlocks hQ hAe hP hD hS (by (try dsimp only); first | done | exact (hz)) d_M_order_91
            · skip
              have hz : (-1) = pn_cmp (pm_V (pm_at wk b) (mn b) : Int) (pm_V (pm_at wk c9) (mn c9) : Int) := (pn_cmp_lt (by have := pm_V_less (f := pm_at wk b) (g := pm_at wk c9) (i := j) (fun i hi => n2 i (by omega)) (by rw [pm_at_e, pm_at_e]; omega); rw [← h_12]; omega)).symm
              refine lv_iconst (v := (-1)) hx hb d_M_order_86 (by decide) ?_
              refine lv_goto (tgt := 91) hx hb d_M_order_87 (by decide) ?_
              exact pn_reti (()) Fx hr hlocks hQ hAe hP hD hS (by (try dsimp only); first | done | exact (hz)) d_M_order_91
    exact loop45 _ (mn b) (Nat.lt_succ_self _) (Nat.le_refl _) (fun i h1 h2 => by omega) _ _ _ hl hP hD hS
  · skip
    refine lv_aload_n hx hb d_M_order_15 rfl (lv_at hl 0 rfl) ?_
    refine pw_get Fx hK hP fld_M 0 rfl 2 (by decide) kw_632 (v := .ref qM) rfl d_M_order_16 ?_
    refine lv_iload_n hx hb d_M_order_19 rfl (lv_at hl 1 rfl) ?_
    refine pw_iald Fx hK hP 2 0 (f := fun z9 => nI (mn z9)) rfl rfl (k := b) (by omega) (by decide) d_M_order_20 ?_
    refine pn_topi (nI (mn b)) rfl ?_
    refine lv_aload_n hx hb d_M_order_21 rfl (lv_at hl 0 rfl) ?_
    refine pw_get Fx hK hP fld_M 0 rfl 2 (by decide) kw_632 (v := .ref qM) rfl d_M_order_22 ?_
    refine lv_iload_n hx hb d_M_order_25 rfl (lv_at hl 2 rfl) ?_
    refine pw_iald Fx hK hP 2 0 (f := fun z9 => nI (mn z9)) rfl rfl (k := c9) (by omega) (by decide) d_M_order_26 ?_
    refine pn_topi (nI (mn c9)) rfl ?_
    refine pw_icmp_ge (a := mn b) (b := mn c9) (tgt := 34) hx hb d_M_order_27 (by decide) (by omega) (by omega) (fun h_27 => ?_) (fun h_27 => ?_)
    · skip
      have hz : nI 1 = pn_cmp (pm_V (pm_at wk b) (mn b) : Int) (pm_V (pm_at wk c9) (mn c9) : Int) := (pn_cmp_gt (by have := pm_V_fewer m2 n3 (by omega); omega)).symm
      refine lv_iconst (v := nI 1) hx hb d_M_order_34 (by decide) ?_
      exact pn_reti (()) Fx hr hlocks hQ hAe hP hD hS (by (try dsimp only); first | done | exact (hz)) d_M_order_35
    · skip
      have hz : (-1) = pn_cmp (pm_V (pm_at wk b) (mn b) : Int) (pm_V (pm_at wk c9) (mn c9) : Int) := (pn_cmp_lt (by have := pm_V_fewer n2 m3 (by omega); omega)).symm
      refine lv_iconst (v := (-1)) hx hb d_M_order_30 (by decide) ?_
      refine lv_goto (tgt := 35) hx hb d_M_order_31 (by decide) ?_
      exact pn_reti (()) Fx hr hlocks hQ hAe hP hD hS (by (try dsimp only); first | done | exact (hz)) d_M_order_35
