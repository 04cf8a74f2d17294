theorem pn_V_drop {f : Nat → Int32} {j : Nat} (h : 0 < j) (hz : f (j - 1) = 0) : pn_V f (j - 1) = pn_V f j := by
  obtain ⟨i, rfl⟩ : ∃ i, j = i + 1 := ⟨j - 1, by omega⟩
  have hz : f i = 0 := hz
  show pn_V f i = pn_V f (i + 1)
  rw [pn_V_s, hz, pn_u_0]
  omega
theorem pn_clear_step {f g : Nat → Int32} {i0 i : Nat} (hi : i0 ≤ i) (h : ∀ j, g j = if i0 ≤ j ∧ j < i then 0 else f j) : ∀ j, upd g i (nI 0) j = if i0 ≤ j ∧ j < i + 1 then 0 else f j := by
  intro j
  by_cases h1 : j = i
  · subst h1
    rw [pk_us, if_pos (by omega)]
    rfl
  · rw [pk_un h1, h j]
    by_cases h2 : i0 ≤ j ∧ j < i
    · rw [if_pos h2, if_pos (by omega)]
    · rw [if_neg h2, if_neg (by omega)]

set_option maxHeartbeats 4000000 in
set_option maxRecDepth 100000 in
theorem c_R_fit (l : Launch) (D : va_G) (cI cZ cB cJ : ClassId) (sz : Nat) (a q : Nat) (f : Nat → Int32) (n k : Nat) (b : Bool) (hk : k ≤ 632) : pn_Cv l D (pn_ty cI cZ cB cJ) y_R_fit w_R_fit ({ frames := 0, cells := 0, slots := 0, locals := 0 } : Room) [.ref a, .int (nI k)] [(a, .inr (1, [.ref q, .int (nI n), .int (pn_b b)])), (q, .inl (cI, 632, .inl f))] sz (S := Nat) (fun j => j ≤ k ∧ pn_V f j = pn_V f k ∧ pn_nz f j) (fun j => [(a, .inr (1, [.ref q, .int (nI j), .int (pn_b false)])), (q, .inl (cI, 632, .inl f))]) := by
  refine pn_start (by decide) (Nat.le_of_ble_eq_true rfl) ?_
  intro p e s m below meth c A Q ls hQ hAe Fx hr hlocks hN hK hP hD hS hA hl
  have hx := Fx.1
  have hb := Fx.2.1
  have hl : lv_has ls 3 [(0, .ref a), (1, .int (nI k))] := hl
  refine lv_iload_n hx hb d_R_fit_0 rfl (lv_at hl 1 rfl) ?_
  refine lv_istore_n (lv' := [(2, .int (nI k)), (0, .ref a), (1, .int (nI k))]) hx hb d_R_fit_1 rfl hl (by decide) rfl (fun ls hl => ?_)
  have loop2 : ∀ (N : Nat) (j : Nat), j < N → (j ≤ k) → (pn_V f j = pn_V f k) → ∀ (H : Heap) (locs : List Loc) (ls : Array Slot), lv_has ls 3 [(2, .int (nI j)), (0, .ref a), (1, .int (nI k))] → va_P D pn_cl [(a, .inr (1, [.ref q, .int (nI n), .int (pn_b b)])), (q, .inl (cI, 632, .inl f))] H → va_D A [(a, .inr (1, [.ref q, .int (nI n), .int (pn_b b)])), (q, .inl (cI, 632, .inl f))] → va_S A s.heap H locs → W p l e ({ frames := 0, cells := 0, slots := 0, locals := 0 } : Room) s m ([.ref a, .int (nI k)] : List Value).toArray below meth c H locs 0 0 Q (F0 m 2 ls []) := by
    intro N
    induction N with
    | zero => intro j hM; exact absurd hM (Nat.not_lt_zero _)
    | succ N ih2 =>
      intro j hM2 hj hV H locs ls hl hP hD hS
      refine lv_iload_n hx hb d_R_fit_2 rfl (lv_at hl 0 rfl) ?_
      refine pw_if_le (a := j) (tgt := 23) hx hb d_R_fit_3 (by decide) (by omega) (fun h_3 => ?_) (fun h_3 => ?_)
      · skip
        have hz : pn_nz f j := fun i hi => by omega
        refine lv_aload_n hx hb d_R_fit_23 rfl (lv_at hl 1 rfl) ?_
        refine lv_iload_n hx hb d_R_fit_24 rfl (lv_at hl 0 rfl) ?_
        refine pw_put Fx hK hP hD hS fld_R 0 rfl 1 (by decide) kw_93 rfl rfl rfl (Nat.le_of_ble_eq_true rfl) (w' := [(a, .inr (1, [.ref q, .int (nI j), .int (pn_b b)])), (q, .inl (cI, 632, .inl f))]) rfl d_R_fit_25 (fun H locs hP hD hS => ?_)
        refine lv_aload_n hx hb d_R_fit_28 rfl (lv_at hl 1 rfl) ?_
        refine lv_iconst (v := nI 0) hx hb d_R_fit_29 (by decide) ?_
        refine pn_topi (pn_b false) (by decide) ?_
        refine pw_put Fx hK hP hD hS fld_R 0 rfl 2 (by decide) kw_99 rfl (pn_b_nar _) (pn_b_fit _) (Nat.le_of_ble_eq_true rfl) (w' := [(a, .inr (1, [.ref q, .int (nI j), .int (pn_b false)])), (q, .inl (cI, 632, .inl f))]) rfl d_R_fit_30 (fun H locs hP hD hS => ?_)
        exact pn_retv (j) Fx hr hlocks hQ hAe hP hD hS (⟨hj, hV, hz⟩) d_R_fit_33
      · skip
        refine lv_aload_n hx hb d_R_fit_6 rfl (lv_at hl 1 rfl) ?_
        refine pw_get Fx hK hP fld_R 0 rfl 0 (by decide) kw_89 (v := .ref q) rfl d_R_fit_7 ?_
        refine lv_iload_n hx hb d_R_fit_10 rfl (lv_at hl 0 rfl) ?_
        refine lv_iconst (v := nI 1) hx hb d_R_fit_11 (by decide) ?_
        refine pw_isub hx hb d_R_fit_12 (by omega) ?_
        refine pw_iald Fx hK hP 1 0 (f := f) rfl rfl (k := j - 1) (by omega) (by decide) d_R_fit_13 ?_
        refine lv_if_ne (tgt := 23) hx hb d_R_fit_14 (by decide) (fun h_14 => ?_) (fun h_14 => ?_)
        · skip
          have hz : pn_nz f j := fun i hi => by have e : j - 1 = i := (by omega); rw [← e]; exact h_14
          refine lv_aload_n hx hb d_R_fit_23 rfl (lv_at hl 1 rfl) ?_
          refine lv_iload_n hx hb d_R_fit_24 rfl (lv_at hl 0 rfl) ?_
          refine pw_put Fx hK hP hD hS fld_R 0 rfl 1 (by decide) kw_93 rfl rfl rfl (Nat.le_of_ble_eq_true rfl) (w' := [(a, .inr (1, [.ref q, .int (nI j), .int (pn_b b)])), (q, .inl (cI, 632, .inl f))]) rfl d_R_fit_25 (fun H locs hP hD hS => ?_)
          refine lv_aload_n hx hb d_R_fit_28 rfl (lv_at hl 1 rfl) ?_
          refine lv_iconst (v := nI 0) hx hb d_R_fit_29 (by decide) ?_
          refine pn_topi (pn_b false) (by decide) ?_
          refine pw_put Fx hK hP hD hS fld_R 0 rfl 2 (by decide) kw_99 rfl (pn_b_nar _) (pn_b_fit _) (Nat.le_of_ble_eq_true rfl) (w' := [(a, .inr (1, [.ref q, .int (nI j), .int (pn_b false)])), (q, .inl (cI, 632, .inl f))]) rfl d_R_fit_30 (fun H locs hP hD hS => ?_)
          exact pn_retv (j) Fx hr hlocks hQ hAe hP hD hS (⟨hj, hV, hz⟩) d_R_fit_33
        · skip
          refine lv_iinc (v := nI (j - 1)) (lv' := [(2, .int (nI (j - 1))), (0, .ref a), (1, .int (nI k))]) hx hb d_R_fit_17 hl (k := 0) rfl (sb_m1 (by omega)) (by decide) rfl (fun ls hl => ?_)
          refine lv_goto (tgt := 2) hx hb d_R_fit_20 (by decide) ?_
          exact ih2 (j - 1) (by omega) (by omega) (by rw [pn_V_drop h_3 h_14]; exact hV) _ _ _ hl hP hD hS
  exact loop2 _ k (Nat.lt_succ_self _) (Nat.le_refl _) rfl _ _ _ hl hP hD hS

set_option maxHeartbeats 4000000 in
set_option maxRecDepth 100000 in
theorem c_R_limbAt (l : Launch) (D : va_G) (cI cZ cB cJ : ClassId) (sz : Nat) (a q : Nat) (f : Nat → Int32) (n k : Nat) (b : Bool) (hn : n ≤ 632) (hk : k < 2 ^ 31) : pn_Cl l D (pn_ty cI cZ cB cJ) y_R_limbAt w_R_limbAt ({ frames := 0, cells := 0, slots := 0, locals := 0 } : Room) [.ref a, .int (nI k)] [(a, .inr (1, [.ref q, .int (nI n), .int (pn_b b)])), (q, .inl (cI, 632, .inl f))] sz (S := Unit) (fun r _ => r = pn_L (pn_u (pn_cut f n k))) (fun _ => [(a, .inr (1, [.ref q, .int (nI n), .int (pn_b b)])), (q, .inl (cI, 632, .inl f))]) := by
  refine pn_start (by decide) (Nat.le_of_ble_eq_true rfl) ?_
  intro p e s m below meth c A Q ls hQ hAe Fx hr hlocks hN hK hP hD hS hA hl
  have hx := Fx.1
  have hb := Fx.2.1
  have hl : lv_has ls 2 [(0, .ref a), (1, .int (nI k))] := hl
  refine lv_iload_n hx hb d_R_limbAt_0 rfl (lv_at hl 1 rfl) ?_
  refine lv_aload_n hx hb d_R_limbAt_1 rfl (lv_at hl 0 rfl) ?_
  refine pw_get Fx hK hP fld_R 0 rfl 1 (by decide) kw_93 (v := .int (nI n)) rfl d_R_limbAt_2 ?_
  refine pw_icmp_ge (a := k) (b := n) (tgt := 22) hx hb d_R_limbAt_5 (by decide) (by omega) (by omega) (fun h_5 => ?_) (fun h_5 => ?_)
  · skip
    have hz : pn_L 0 = pn_L (pn_u (pn_cut f n k)) := by rw [pn_cut_ge h_5, pn_u_0]
    refine lv_lconst (v := pn_L 0) hx hb d_R_limbAt_22 (by decide) ?_
    exact pn_retl (()) Fx hr hlocks hQ hAe hP hD hS (hz) d_R_limbAt_23
  · skip
    have hz : pn_L (pn_u (f k)) = pn_L (pn_u (pn_cut f n k)) := by rw [pn_cut_lt h_5]
    refine lv_aload_n hx hb d_R_limbAt_8 rfl (lv_at hl 0 rfl) ?_
    refine pw_get Fx hK hP fld_R 0 rfl 0 (by decide) kw_89 (v := .ref q) rfl d_R_limbAt_9 ?_
    refine lv_iload_n hx hb d_R_limbAt_12 rfl (lv_at hl 1 rfl) ?_
    refine pw_iald Fx hK hP 1 0 (f := f) rfl rfl (k := k) (by omega) (by decide) d_R_limbAt_13 ?_
    refine pw_i2l hx hb d_R_limbAt_14 ?_
    refine lv_ldc2 hx hb Fx.2.2.2.1 (Fx.2.2.2.2 _ kw_365) d_R_limbAt_15 ?_
    refine pw_limb hx hb d_R_limbAt_18 ?_
    refine lv_goto (tgt := 23) hx hb d_R_limbAt_19 (by decide) ?_
    exact pn_retl (()) Fx hr hlocks hQ hAe hP hD hS (hz) d_R_limbAt_23

set_option maxHeartbeats 4000000 in
set_option maxRecDepth 100000 in
theorem c_R_clear (l : Launch) (D : va_G) (cI cZ cB cJ : ClassId) (sz : Nat) (a q : Nat) (f : Nat → Int32) (n i0 k : Nat) (b : Bool) (hk : k ≤ 632) (hi0 : i0 < 2 ^ 31) : pn_Cv l D (pn_ty cI cZ cB cJ) y_R_clear w_R_clear ({ frames := 0, cells := 0, slots := 0, locals := 0 } : Room) [.ref a, .int (nI i0), .int (nI k)] [(a, .inr (1, [.ref q, .int (nI n), .int (pn_b b)])), (q, .inl (cI, 632, .inl f))] sz (S := Nat → Int32) (fun g => ∀ j, g j = if i0 ≤ j ∧ j < k then 0 else f j) (fun g => [(a, .inr (1, [.ref q, .int (nI n), .int (pn_b b)])), (q, .inl (cI, 632, .inl g))]) := by
  refine pn_start (by decide) (Nat.le_of_ble_eq_true rfl) ?_
  intro p e s m below meth c A Q ls hQ hAe Fx hr hlocks hN hK hP hD hS hA hl
  have hx := Fx.1
  have hb := Fx.2.1
  have hl : lv_has ls 4 [(0, .ref a), (1, .int (nI i0)), (2, .int (nI k))] := hl
  refine lv_iload_n hx hb d_R_clear_0 rfl (lv_at hl 1 rfl) ?_
  refine lv_istore_n (lv' := [(3, .int (nI i0)), (0, .ref a), (1, .int (nI i0)), (2, .int (nI k))]) hx hb d_R_clear_1 rfl hl (by decide) rfl (fun ls hl => ?_)
  have loop2 : ∀ (N : Nat) (i : Nat) (g : Nat → Int32), 632 - i < N → (i0 ≤ i ∧ i < 2 ^ 31 ∧ (i ≤ k ∨ i = i0)) → (∀ j, g j = if i0 ≤ j ∧ j < i then 0 else f j) → ∀ (H : Heap) (locs : List Loc) (ls : Array Slot), lv_has ls 4 [(3, .int (nI i)), (0, .ref a), (1, .int (nI i0)), (2, .int (nI k))] → va_P D pn_cl [(a, .inr (1, [.ref q, .int (nI n), .int (pn_b b)])), (q, .inl (cI, 632, .inl g))] H → va_D A [(a, .inr (1, [.ref q, .int (nI n), .int (pn_b b)])), (q, .inl (cI, 632, .inl g))] → va_S A s.heap H locs → W p l e ({ frames := 0, cells := 0, slots := 0, locals := 0 } : Room) s m ([.ref a, .int (nI i0), .int (nI k)] : List Value).toArray below meth c H locs 0 0 Q (F0 m 2 ls []) := by
    intro N
    induction N with
    | zero => intro i g hM; exact absurd hM (Nat.not_lt_zero _)
    | succ N ih2 =>
      intro i g hM2 hi hg H locs ls hl hP hD hS
      refine lv_iload_n hx hb d_R_clear_2 rfl (lv_at hl 0 rfl) ?_
      refine lv_iload_n hx hb d_R_clear_3 rfl (lv_at hl 3 rfl) ?_
      refine pw_icmp_ge (a := i) (b := k) (tgt := 20) hx hb d_R_clear_4 (by decide) (by omega) (by omega) (fun h_4 => ?_) (fun h_4 => ?_)
      · skip
        exact pn_retv (g) Fx hr hlocks hQ hAe hP hD hS (fun j => by rw [hg j]; by_cases h2 : i0 ≤ j ∧ j < i <;> by_cases h3 : i0 ≤ j ∧ j < k <;> simp only [h2, h3, if_true, if_false] <;> omega) d_R_clear_20
      · skip
        refine lv_aload_n hx hb d_R_clear_7 rfl (lv_at hl 1 rfl) ?_
        refine pw_get Fx hK hP fld_R 0 rfl 0 (by decide) kw_89 (v := .ref q) rfl d_R_clear_8 ?_
        refine lv_iload_n hx hb d_R_clear_11 rfl (lv_at hl 0 rfl) ?_
        refine lv_iconst (v := nI 0) hx hb d_R_clear_12 (by decide) ?_
        refine pw_iast Fx hK hP hD hS 1 0 (f := g) rfl rfl (k := i) (by omega) (by decide) (w' := [(a, .inr (1, [.ref q, .int (nI n), .int (pn_b b)])), (q, .inl (cI, 632, .inl (upd g i (nI 0))))]) rfl d_R_clear_13 (fun H locs hP hD hS => ?_)
        refine lv_iinc (v := nI (i + 1)) (lv' := [(3, .int (nI (i + 1))), (0, .ref a), (1, .int (nI i0)), (2, .int (nI k))]) hx hb d_R_clear_14 hl (k := 0) rfl (nI_add _ 1) (by decide) rfl (fun ls hl => ?_)
        refine lv_goto (tgt := 2) hx hb d_R_clear_17 (by decide) ?_
        exact ih2 (i + 1) _ (by omega) (by omega) (pn_clear_step hi.1 hg) _ _ _ hl hP hD hS
  exact loop2 _ i0 f (Nat.lt_succ_self _) (⟨Nat.le_refl _, hi0, Or.inr rfl⟩) (fun j => by rw [if_neg (by omega)]) _ _ _ hl hP hD hS

set_option maxHeartbeats 4000000 in
set_option maxRecDepth 100000 in
theorem c_R_turnBelowIf (l : Launch) (D : va_G) (cI cZ cB cJ : ClassId) (sz : Nat) (a q : Nat) (f : Nat → Int32) (n : Nat) (b v : Bool) (hn : n ≤ 632) : pn_Cv l D (pn_ty cI cZ cB cJ) y_R_turnBelowIf w_R_turnBelowIf ({ frames := 0, cells := 0, slots := 0, locals := 0 } : Room) [.ref a, .int (pn_b v)] [(a, .inr (1, [.ref q, .int (nI n), .int (pn_b b)])), (q, .inl (cI, 632, .inl f))] sz (S := Bool) (fun z => z = (v && decide (0 < n))) (fun z => [(a, .inr (1, [.ref q, .int (nI n), .int (pn_b z)])), (q, .inl (cI, 632, .inl f))]) := by
  refine pn_start (by decide) (Nat.le_of_ble_eq_true rfl) ?_
  intro p e s m below meth c A Q ls hQ hAe Fx hr hlocks hN hK hP hD hS hA hl
  have hx := Fx.1
  have hb := Fx.2.1
  have hl : lv_has ls 2 [(0, .ref a), (1, .int (pn_b v))] := hl
  refine lv_aload_n hx hb d_R_turnBelowIf_0 rfl (lv_at hl 0 rfl) ?_
  refine lv_iload_n hx hb d_R_turnBelowIf_1 rfl (lv_at hl 1 rfl) ?_
  refine pw_ifb_eq (tgt := 16) hx hb d_R_turnBelowIf_2 (by decide) (fun h_2 => ?_) (fun h_2 => ?_)
  · skip
    have hz : false = (v && decide (0 < n)) := by rw [h_2]; rfl
    refine lv_iconst (v := nI 0) hx hb d_R_turnBelowIf_16 (by decide) ?_
    refine pn_topi (pn_b false) (by decide) ?_
    refine pw_put Fx hK hP hD hS fld_R 0 rfl 2 (by decide) kw_99 rfl (pn_b_nar _) (pn_b_fit _) (Nat.le_of_ble_eq_true rfl) (w' := [(a, .inr (1, [.ref q, .int (nI n), .int (pn_b false)])), (q, .inl (cI, 632, .inl f))]) rfl d_R_turnBelowIf_17 (fun H locs hP hD hS => ?_)
    exact pn_retv (false) Fx hr hlocks hQ hAe hP hD hS (hz) d_R_turnBelowIf_20
  · skip
    refine lv_aload_n hx hb d_R_turnBelowIf_5 rfl (lv_at hl 0 rfl) ?_
    refine pw_get Fx hK hP fld_R 0 rfl 1 (by decide) kw_93 (v := .int (nI n)) rfl d_R_turnBelowIf_6 ?_
    refine pw_if_le (a := n) (tgt := 16) hx hb d_R_turnBelowIf_9 (by decide) (by omega) (fun h_9 => ?_) (fun h_9 => ?_)
    · skip
      have hz : false = (v && decide (0 < n)) := by rw [h_9]; simp
      refine lv_iconst (v := nI 0) hx hb d_R_turnBelowIf_16 (by decide) ?_
      refine pn_topi (pn_b false) (by decide) ?_
      refine pw_put Fx hK hP hD hS fld_R 0 rfl 2 (by decide) kw_99 rfl (pn_b_nar _) (pn_b_fit _) (Nat.le_of_ble_eq_true rfl) (w' := [(a, .inr (1, [.ref q, .int (nI n), .int (pn_b false)])), (q, .inl (cI, 632, .inl f))]) rfl d_R_turnBelowIf_17 (fun H locs hP hD hS => ?_)
      exact pn_retv (false) Fx hr hlocks hQ hAe hP hD hS (hz) d_R_turnBelowIf_20
    · skip
      have hz : true = (v && decide (0 < n)) := by rw [h_2, decide_eq_true h_9]; rfl
      refine lv_iconst (v := nI 1) hx hb d_R_turnBelowIf_12 (by decide) ?_
      refine lv_goto (tgt := 17) hx hb d_R_turnBelowIf_13 (by decide) ?_
      refine pn_topi (pn_b true) (by decide) ?_
      refine pw_put Fx hK hP hD hS fld_R 0 rfl 2 (by decide) kw_99 rfl (pn_b_nar _) (pn_b_fit _) (Nat.le_of_ble_eq_true rfl) (w' := [(a, .inr (1, [.ref q, .int (nI n), .int (pn_b true)])), (q, .inl (cI, 632, .inl f))]) rfl d_R_turnBelowIf_17 (fun H locs hP hD hS => ?_)
      exact pn_retv (true) Fx hr hlocks hQ hAe hP hD hS (hz) d_R_turnBelowIf_20

set_option maxHeartbeats 4000000 in
set_option maxRecDepth 100000 in
theorem c_R_signum (l : Launch) (D : va_G) (cI cZ cB cJ : ClassId) (sz : Nat) (a q : Nat) (f : Nat → Int32) (n : Nat) (b : Bool) (hn : n ≤ 632) : pn_Ci l D (pn_ty cI cZ cB cJ) y_R_signum w_R_signum ({ frames := 0, cells := 0, slots := 0, locals := 0 } : Room) [.ref a] [(a, .inr (1, [.ref q, .int (nI n), .int (pn_b b)])), (q, .inl (cI, 632, .inl f))] sz (S := Unit) (fun r _ => r = if n = 0 then 0 else if b = true then -1 else 1) (fun _ => [(a, .inr (1, [.ref q, .int (nI n), .int (pn_b b)])), (q, .inl (cI, 632, .inl f))]) := by
  refine pn_start (by decide) (Nat.le_of_ble_eq_true rfl) ?_
  intro p e s m below meth c A Q ls hQ hAe Fx hr hlocks hN hK hP hD hS hA hl
  have hx := Fx.1
  have hb := Fx.2.1
  have hl : lv_has ls 1 [(0, .ref a)] := hl
  refine lv_aload_n hx hb d_R_signum_0 rfl (lv_at hl 0 rfl) ?_
  refine pw_get Fx hK hP fld_R 0 rfl 1 (by decide) kw_93 (v := .int (nI n)) rfl d_R_signum_1 ?_
  refine pw_if_ne (a := n) (tgt := 9) hx hb d_R_signum_4 (by decide) (by omega) (fun h_4 => ?_) (fun h_4 => ?_)
  · skip
    refine lv_aload_n hx hb d_R_signum_9 rfl (lv_at hl 0 rfl) ?_
    refine pw_get Fx hK hP fld_R 0 rfl 2 (by decide) kw_99 (v := .int (pn_b b)) rfl d_R_signum_10 ?_
    refine pw_ifb_eq (tgt := 20) hx hb d_R_signum_13 (by decide) (fun h_13 => ?_) (fun h_13 => ?_)
    · skip
      have hz : nI 1 = (if n = 0 then 0 else if b = true then -1 else 1 : Int32) := by rw [if_neg h_4, if_neg (by rw [h_13]; decide)]; rfl
      refine lv_iconst (v := nI 1) hx hb d_R_signum_20 (by decide) ?_
      exact pn_reti (()) Fx hr hlocks hQ hAe hP hD hS (hz) d_R_signum_21
    · skip
      have hz : (-1) = (if n = 0 then 0 else if b = true then -1 else 1 : Int32) := by rw [if_neg h_4, if_pos h_13]
      refine lv_iconst (v := (-1)) hx hb d_R_signum_16 (by decide) ?_
      refine lv_goto (tgt := 21) hx hb d_R_signum_17 (by decide) ?_
      exact pn_reti (()) Fx hr hlocks hQ hAe hP hD hS (hz) d_R_signum_21
  · skip
    have hz : nI 0 = (if n = 0 then 0 else if b = true then -1 else 1 : Int32) := by rw [if_pos h_4]; rfl
    refine lv_iconst (v := nI 0) hx hb d_R_signum_7 (by decide) ?_
    exact pn_reti (()) Fx hr hlocks hQ hAe hP hD hS (hz) d_R_signum_8
