theorem pm_2_65 (n : Nat) : 65536 ^ n = 2 ^ (16 * n) := by rw [Nat.pow_mul]
theorem pm_len_top {v n k : Nat} (hn : 0 < n) (h0 : v / 65536 ^ n = 0) (hk : k = 0 ∨ 0 < v / 65536 ^ (n - 1) % 65536 / 2 ^ (k - 1)) (hp : 0 < v / 65536 ^ (n - 1)) (he : v / 65536 ^ (n - 1) % 65536 / 2 ^ k = 0) : pn_len (v : Int) = 16 * (n - 1) + k := by
  obtain ⟨p, rfl⟩ : ∃ p, n = p + 1 := ⟨n - 1, by omega⟩
  rw [Nat.add_sub_cancel] at *
  have ht : v / 65536 ^ p < 65536 := by rw [← pm_div65] at h0; omega
  rw [Nat.mod_eq_of_lt ht] at hk he
  rcases Nat.eq_zero_or_pos k with z | z
  · subst z; rw [Nat.pow_zero, Nat.div_one] at he; omega
  · obtain ⟨j, rfl⟩ : ∃ j, k = j + 1 := ⟨k - 1, by omega⟩
    rw [Nat.add_sub_cancel] at hk
    have h1 : 2 ^ j ≤ v / 65536 ^ p := by
      refine Nat.le_of_not_lt (fun q => ?_)
      rw [Nat.div_eq_of_lt q] at hk; omega
    have h2 : v / 65536 ^ p < 2 ^ (j + 1) := Nat.lt_of_div_eq_zero (Nat.pow_pos (by decide)) he
    have a : 2 ^ j * 65536 ^ p ≤ v := (Nat.le_div_iff_mul_le (pm_65 p)).mp h1
    have b : v < 2 ^ (j + 1) * 65536 ^ p := (Nat.div_lt_iff_lt_mul (pm_65 p)).mp h2
    rw [pm_2_65, ← Nat.pow_add] at a b
    rw [show 16 * p + (j + 1) = (j + 16 * p) + 1 by omega]
    refine pn_len_is (Int.natCast_nonneg v) ?_ ?_
    · have : ((2 ^ (j + 16 * p) : Nat) : Int) ≤ (v : Int) := Int.ofNat_le.mpr a
      rw [Int.natCast_pow] at this; exact this
    · have : (v : Int) < ((2 ^ (j + 1 + 16 * p) : Nat) : Int) := Int.ofNat_lt.mpr b
      rw [Int.natCast_pow, show j + 1 + 16 * p = j + 16 * p + 1 by omega] at this; exact this
theorem pm_len_0 {v : Nat} (h : v / 65536 ^ 0 = 0) : pn_len (v : Int) = 0 := by
  rw [Nat.pow_zero, Nat.div_one] at h; subst h; rfl

set_option maxHeartbeats 4000000 in
set_option maxRecDepth 100000 in
theorem c_M_bits (l : Launch) (D : va_G) (cI cZ cB cJ : ClassId) (sz : Nat) (oM qW qM qK qJ qG qH qP cd pl : Nat) (wk mn : Nat → Nat) (hv : Nat → Nat) (b v : Nat) (hb7 : b < 7) (hb3 : b ≠ 3) (hN1 : pm_N wk mn b v) (hlim : v < 65536 ^ 2700) : pn_Ci l D (pn_ty cI cZ cB cJ) y_M_bits w_M_bits ({ frames := 2, cells := 0, slots := 0, locals := 70 } : Room) [.ref oM, .int (nI b)] [(oM, .inr (5, [.int (nI cd), .ref qW, .ref qM, .ref qK, .ref qJ, .ref qG, .ref qH, .ref qP, .int (nI pl)])), (qW, .inl (cI, 22400, .inl (fun z9 => nI (wk z9)))), (qM, .inl (cI, 7, .inl (fun z9 => nI (mn z9)))), (qH, .inl (cI, 2700, .inl (fun z9 => nI (hv z9))))] sz (S := (Nat → Nat) × (Nat → Nat) × (Nat → Nat)) (fun r u => r = nI (pn_len (v : Int)) ∧ pm_K 3 wk mn u.1 u.2.1) (fun u => [(oM, .inr (5, [.int (nI cd), .ref qW, .ref qM, .ref qK, .ref qJ, .ref qG, .ref qH, .ref qP, .int (nI pl)])), (qW, .inl (cI, 22400, .inl (fun z9 => nI (u.1 z9)))), (qM, .inl (cI, 7, .inl (fun z9 => nI (u.2.1 z9)))), (qH, .inl (cI, 2700, .inl (fun z9 => nI (u.2.2 z9))))]) := by
  refine pn_start (by decide) (Nat.le_of_ble_eq_true rfl) ?_
  intro p e s m below meth c A Q ls hQ hAe Fx hr hlocks hN hK hP hD hS hA hl
  have hx := Fx.1
  have hb := Fx.2.1
  have hl : lv_has ls 4 [(0, .ref oM), (1, .int (nI b))] := hl
  refine lv_aload_n hx hb d_M_bits_0 rfl (lv_at hl 0 rfl) ?_
  refine lv_iload_n hx hb d_M_bits_1 rfl (lv_at hl 1 rfl) ?_
  refine pn_bi (wr := []) [0, 1, 2, 3] [] hP hD hS hA (pn_rV [.int (nI b)] [] Fx hK hN hP hD [0, 1, 2, 3] rfl rfl (c_M_parts l D cI cZ cB cJ _ oM qW qM qK qJ qG qH qP cd pl wk mn hv b v hb7 hb3 hN1 hlim) kw_686 cal_M_parts inst_M_parts sel_M_parts ⟨by decide, by decide⟩ ⟨rfl, rfl⟩ 0 rfl rfl rfl rfl hl.1 (Nat.le_of_ble_eq_true rfl) d_M_bits_2 ⟨Nat.zero_le _, Nat.zero_le _⟩) rfl rfl rfl (by decide) (fun r_2 u_2 H locs hw hP hD hS => ?_)
  obtain ⟨w1, m1, h1, n⟩ := u_2
  obtain ⟨rfl, hp1, hp2, hp3, hp4, hp5⟩ := hw
  have hP : va_P D pn_cl [(oM, .inr (5, [.int (nI cd), .ref qW, .ref qM, .ref qK, .ref qJ, .ref qG, .ref qH, .ref qP, .int (nI pl)])), (qW, .inl (cI, 22400, .inl (fun z9 => nI (w1 z9)))), (qM, .inl (cI, 7, .inl (fun z9 => nI (m1 z9)))), (qH, .inl (cI, 2700, .inl (fun z9 => nI (h1 z9))))] H := hP
  have hD : va_D A [(oM, .inr (5, [.int (nI cd), .ref qW, .ref qM, .ref qK, .ref qJ, .ref qG, .ref qH, .ref qP, .int (nI pl)])), (qW, .inl (cI, 22400, .inl (fun z9 => nI (w1 z9)))), (qM, .inl (cI, 7, .inl (fun z9 => nI (m1 z9)))), (qH, .inl (cI, 2700, .inl (fun z9 => nI (h1 z9))))] := hD
  dsimp only at hp1 hp2 hp3 hp4 hp5
  refine lv_istore_n (lv' := [(2, .int (nI n)), (0, .ref oM), (1, .int (nI b))]) hx hb d_M_bits_5 rfl hl (by decide) rfl (fun ls hl => ?_)
  refine lv_iconst (v := nI 0) hx hb d_M_bits_6 (by decide) ?_
  refine lv_istore_n (lv' := [(3, .int (nI 0)), (2, .int (nI n)), (0, .ref oM), (1, .int (nI b))]) hx hb d_M_bits_7 rfl hl (by decide) rfl (fun ls hl => ?_)
  have loop8 : ∀ (N : Nat) (k : Nat), 16 - k < N → (k ≤ 16) → (k = 0 ∨ 0 < v / 65536 ^ (n - 1) % 65536 / 2 ^ (k - 1)) → ∀ (H : Heap) (locs : List Loc) (ls : Array Slot), lv_has ls 4 [(3, .int (nI k)), (2, .int (nI n)), (0, .ref oM), (1, .int (nI b))] → va_P D pn_cl [(oM, .inr (5, [.int (nI cd), .ref qW, .ref qM, .ref qK, .ref qJ, .ref qG, .ref qH, .ref qP, .int (nI pl)])), (qW, .inl (cI, 22400, .inl (fun z9 => nI (w1 z9)))), (qM, .inl (cI, 7, .inl (fun z9 => nI (m1 z9)))), (qH, .inl (cI, 2700, .inl (fun z9 => nI (h1 z9))))] H → va_D A [(oM, .inr (5, [.int (nI cd), .ref qW, .ref qM, .ref qK, .ref qJ, .ref qG, .ref qH, .ref qP, .int (nI pl)])), (qW, .inl (cI, 22400, .inl (fun z9 => nI (w1 z9)))), (qM, .inl (cI, 7, .inl (fun z9 => nI (m1 z9)))), (qH, .inl (cI, 2700, .inl (fun z9 => nI (h1 z9))))] → va_S A s.heap H locs → W p l e ({ frames := 2, cells := 0, slots := 0, locals := 70 } : Room) s m ([.ref oM, .int (nI b)] : List Value).toArray below meth c H locs 0 0 Q (F0 m 8 ls []) := by
    intro N
    induction N with
    | zero => intro k hM; exact absurd hM (Nat.not_lt_zero _)
    | succ N ih8 =>
      intro k hM8 hk hkt H locs ls hl hP hD hS
      refine lv_iload_n hx hb d_M_bits_8 rfl (lv_at hl 1 rfl) ?_
      refine pw_if_le (a := n) (tgt := 31) hx hb d_M_bits_9 (by decide) (by omega) (fun h_9 => ?_) (fun h_9 => ?_)
      · skip
        have hn0 : n = 0 := by omega
        refine lv_iload_n hx hb d_M_bits_31 rfl (lv_at hl 1 rfl) ?_
        refine pw_if_ne (a := n) (tgt := 39) hx hb d_M_bits_32 (by decide) (by omega) (fun h_32 => ?_) (fun h_32 => ?_)
        · skip
          exact absurd hn0 h_32
        · skip
          have hz : nI 0 = nI (pn_len (v : Int)) := by rw [h_32] at hp3; rw [pm_len_0 hp3]
          refine lv_iconst (v := nI 0) hx hb d_M_bits_35 (by decide) ?_
          refine lv_goto (tgt := 47) hx hb d_M_bits_36 (by decide) ?_
          exact pn_reti ((w1, m1, h1)) Fx hr hlocks hQ hAe hP hD hS (by (try dsimp only); first | done | exact (⟨hz, hp1⟩)) d_M_bits_47
      · skip
        have htb : v / 65536 ^ (n - 1) % 65536 < 65536 := Nat.mod_lt _ (by decide)
        have htd : v / 65536 ^ (n - 1) % 65536 / 2 ^ k ≤ v / 65536 ^ (n - 1) % 65536 := Nat.div_le_self _ _
        refine lv_aload_n hx hb d_M_bits_12 rfl (lv_at hl 2 rfl) ?_
        refine pw_get Fx hK hP fld_M 0 rfl 6 (by decide) kw_636 (v := .ref qH) rfl d_M_bits_13 ?_
        refine lv_iload_n hx hb d_M_bits_16 rfl (lv_at hl 1 rfl) ?_
        refine lv_iconst (v := nI 1) hx hb d_M_bits_17 (by decide) ?_
        refine pw_isub hx hb d_M_bits_18 (by omega) ?_
        refine pw_iald Fx hK hP 3 0 (f := fun z9 => nI (h1 z9)) rfl rfl (k := n - 1) (by omega) (by decide) d_M_bits_19 ?_
        refine pn_topi (nI (h1 (n - 1))) rfl ?_
        refine pn_topi (nI (v / 65536 ^ (n - 1) % 65536)) (congrArg nI (hp2 (n - 1) (by omega))) ?_
        refine lv_iload_n hx hb d_M_bits_20 rfl (lv_at hl 0 rfl) ?_
        refine pw_ishr hx hb d_M_bits_21 (by omega) (by omega) ?_
        refine pw_if_le (a := (v / 65536 ^ (n - 1) % 65536) / 2 ^ k) (tgt := 31) hx hb d_M_bits_22 (by decide) (by omega) (fun h_22 => ?_) (fun h_22 => ?_)
        · skip
          have he0 : v / 65536 ^ (n - 1) % 65536 / 2 ^ k = 0 := by omega
          refine lv_iload_n hx hb d_M_bits_31 rfl (lv_at hl 1 rfl) ?_
          refine pw_if_ne (a := n) (tgt := 39) hx hb d_M_bits_32 (by decide) (by omega) (fun h_32 => ?_) (fun h_32 => ?_)
          · skip
            by_cases hq9 : n = 0
            · exact absurd hq9 h_32
            have hz : nI (16 * (n - 1) + k) = nI (pn_len (v : Int)) := by rw [pm_len_top (by omega) hp3 hkt (hp4.resolve_left hq9) he0]
            refine lv_bipush (v := nI 16) hx hb d_M_bits_39 (by decide) ?_
            refine lv_iload_n hx hb d_M_bits_41 rfl (lv_at hl 1 rfl) ?_
            refine lv_iconst (v := nI 1) hx hb d_M_bits_42 (by decide) ?_
            refine pw_isub hx hb d_M_bits_43 (by omega) ?_
            refine pw_imul hx hb d_M_bits_44 ?_
            refine lv_iload_n hx hb d_M_bits_45 rfl (lv_at hl 0 rfl) ?_
            refine pw_iadd hx hb d_M_bits_46 ?_
            exact pn_reti ((w1, m1, h1)) Fx hr hlocks hQ hAe hP hD hS (by (try dsimp only); first | done | exact (⟨hz, hp1⟩)) d_M_bits_47
          · skip
            have hz : nI 0 = nI (pn_len (v : Int)) := by rw [h_32] at hp3; rw [pm_len_0 hp3]
            refine lv_iconst (v := nI 0) hx hb d_M_bits_35 (by decide) ?_
            refine lv_goto (tgt := 47) hx hb d_M_bits_36 (by decide) ?_
            exact pn_reti ((w1, m1, h1)) Fx hr hlocks hQ hAe hP hD hS (by (try dsimp only); first | done | exact (⟨hz, hp1⟩)) d_M_bits_47
        · skip
          have hgt : 0 < v / 65536 ^ (n - 1) % 65536 / 2 ^ k := h_22
          have hk16 : k < 16 := Nat.lt_of_not_le (fun q => by have e : k = 16 := (by omega); rw [e, Nat.div_eq_of_lt htb] at hgt; omega)
          refine lv_iinc (v := nI (k + 1)) (lv' := [(3, .int (nI (k + 1))), (2, .int (nI n)), (0, .ref oM), (1, .int (nI b))]) hx hb d_M_bits_25 hl (k := 0) rfl (nI_add _ 1) (by decide) rfl (fun ls hl => ?_)
          refine lv_goto (tgt := 8) hx hb d_M_bits_28 (by decide) ?_
          exact ih8 (k + 1) (by omega) (by omega) (Or.inr hgt) _ _ _ hl hP hD hS
  exact loop8 _ 0 (Nat.lt_succ_self _) (Nat.zero_le _) (Or.inl rfl) _ _ _ hl hP hD hS
