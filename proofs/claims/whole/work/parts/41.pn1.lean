def pn_isR (x : Int32) : Prop := ∃ k : Nat, k < 24 ∧ x = nI k
theorem pn_isR_of {x : Int32} (h0 : ¬ x < 0) (h1 : x < 24) : pn_isR x := by
  obtain ⟨j, hj, rfl⟩ := nI_of h0
  have e : (24 : Int32) = nI 24 := rfl
  rw [e] at h1
  exact ⟨j, (nI_ltI hj (by decide)).mp h1, rfl⟩
theorem pn_isR_no {x : Int32} (h : x < 0 ∨ ¬ x < 24) : ¬ pn_isR x := fun ⟨k, hk, e⟩ => by
  subst e
  have e2 : (24 : Int32) = nI 24 := rfl
  rcases h with h | h
  · exact nI_pos (by omega) h
  · rw [e2] at h; exact h ((nI_ltI (by omega) (by decide)).mpr hk)
theorem pn_isR_nI {k : Nat} (h : k < 24) : pn_isR (nI k) := ⟨k, h, rfl⟩

set_option maxHeartbeats 4000000 in
set_option maxRecDepth 100000 in
theorem c_P_needRegister (l : Launch) (D : va_G) (cI cZ cB cJ : ClassId) (sz : Nat) (hl0 : l.stackTraces = false) (oP oS oe oT o1 o2 o3 o4 : Nat) (x : Int32) : pn_Xv l D (pn_ty cI cZ cB cJ) y_P_needRegister w_P_needRegister ({ frames := 6, cells := 1, slots := 6, locals := 82 } : Room) [.ref oP, .int x] [(oP, .inr (4, [.ref oS, .ref oe, .ref oT, .ref o1, .ref o2, .ref o3, .ref o4]))] sz 1 6 (S := Nat) (SX := Unit) (fun k => k < 24 ∧ x = nI k) (fun _ => [(oP, .inr (4, [.ref oS, .ref oe, .ref oT, .ref o1, .ref o2, .ref o3, .ref o4]))]) (fun E _ => E = "java/lang/IndexOutOfBoundsException" ∧ ¬ pn_isR x) (fun _ => [(oP, .inr (4, [.ref oS, .ref oe, .ref oT, .ref o1, .ref o2, .ref o3, .ref o4]))]) := by
  refine pn_xstart (by decide) (Nat.le_of_ble_eq_true rfl) ?_
  intro p e s m below meth c A Q ls hQ hAe Fx hr hlocks hout hN hE hK hP hD hS hA hl
  have hx := Fx.1
  have hb := Fx.2.1
  have hl : lv_has ls 2 [(0, .ref oP), (1, .int x)] := hl
  refine lv_iload_n hx hb d_P_needRegister_0 rfl (lv_at hl 1 rfl) ?_
  refine lv_if_lt (tgt := 10) hx hb d_P_needRegister_1 (by decide) (fun h_1 => ?_) (fun h_1 => ?_)
  · skip
    have hno := pn_isR_no (Or.inl h_1)
    exact pn_throw (()) thr_reg hl0 Fx hlocks hout hE hQ hAe hP hD hS (by (try dsimp only); first | done | exact (⟨rfl, hno⟩)) hl.1 d_P_needRegister_10 d_P_needRegister_13 d_P_needRegister_14 d_P_needRegister_16 d_P_needRegister_19 (by decide) (Nat.le_of_ble_eq_true rfl) ⟨by decide, by decide⟩ ⟨by decide, by decide⟩
  · skip
    refine lv_iload_n hx hb d_P_needRegister_4 rfl (lv_at hl 1 rfl) ?_
    refine lv_bipush (v := 24) hx hb d_P_needRegister_5 (by decide) ?_
    refine lv_icmp_lt (tgt := 20) hx hb d_P_needRegister_7 (by decide) (fun h_7 => ?_) (fun h_7 => ?_)
    · skip
      obtain ⟨k9, hk9, rfl⟩ := pn_isR_of h_1 h_7
      exact pn_xretv (k9) Fx hr hlocks hQ hAe hP hD hS (by (try dsimp only); first | done | exact (⟨hk9, rfl⟩)) ⟨by decide, by decide⟩ d_P_needRegister_20
    · skip
      have hno := pn_isR_no (Or.inr h_7)
      exact pn_throw (()) thr_reg hl0 Fx hlocks hout hE hQ hAe hP hD hS (by (try dsimp only); first | done | exact (⟨rfl, hno⟩)) hl.1 d_P_needRegister_10 d_P_needRegister_13 d_P_needRegister_14 d_P_needRegister_16 d_P_needRegister_19 (by decide) (Nat.le_of_ble_eq_true rfl) ⟨by decide, by decide⟩ ⟨by decide, by decide⟩

set_option maxHeartbeats 4000000 in
set_option maxRecDepth 100000 in
theorem c_P_needRegisters (l : Launch) (D : va_G) (cI cZ cB cJ : ClassId) (sz : Nat) (hl0 : l.stackTraces = false) (oP oS oe oT o1 o2 o3 o4 : Nat) (x y : Int32) : pn_Xv l D (pn_ty cI cZ cB cJ) y_P_needRegisters w_P_needRegisters ({ frames := 7, cells := 2, slots := 12, locals := 103 } : Room) [.ref oP, .int x, .int y] [(oP, .inr (4, [.ref oS, .ref oe, .ref oT, .ref o1, .ref o2, .ref o3, .ref o4]))] sz 2 12 (S := Nat × Nat) (SX := Unit) (fun k => (k.1 < 24 ∧ x = nI k.1) ∧ (k.2 < 24 ∧ y = nI k.2)) (fun _ => [(oP, .inr (4, [.ref oS, .ref oe, .ref oT, .ref o1, .ref o2, .ref o3, .ref o4]))]) (fun E _ => E = "java/lang/IndexOutOfBoundsException" ∧ ¬ (pn_isR x ∧ pn_isR y)) (fun _ => [(oP, .inr (4, [.ref oS, .ref oe, .ref oT, .ref o1, .ref o2, .ref o3, .ref o4]))]) := by
  refine pn_xstart (by decide) (Nat.le_of_ble_eq_true rfl) ?_
  intro p e s m below meth c A Q ls hQ hAe Fx hr hlocks hout hN hE hK hP hD hS hA hl
  have hx := Fx.1
  have hb := Fx.2.1
  have hl : lv_has ls 3 [(0, .ref oP), (1, .int x), (2, .int y)] := hl
  refine lv_aload_n hx hb d_P_needRegisters_0 rfl (lv_at hl 0 rfl) ?_
  refine lv_iload_n hx hb d_P_needRegisters_1 rfl (lv_at hl 1 rfl) ?_
  refine pn_xbv (wr := []) [0] [] hP hD hS hA (pn_xrV [.int x] [] Fx hK hN hE hP hD hS hA [0] rfl rfl (c_P_needRegister l D cI cZ cB cJ _ hl0 oP oS oe oT o1 o2 o3 o4 x) kw_150 cal_P_needRegister inst_P_needRegister sel_P_needRegister ⟨by decide, by decide⟩ ⟨rfl, rfl⟩ 0 rfl rfl rfl rfl hl.1 (Nat.le_of_ble_eq_true rfl) d_P_needRegisters_2 ⟨by decide, by decide⟩) rfl rfl rfl (by decide) (fun E ce q9 u_2 H locs hpx hP hD hS c1 c2 c3 => ?_) (fun u_2 H locs hw hP hD hS => ?_)
  · skip
    try dsimp only at hpx
    have hP : va_P D pn_cl [(oP, .inr (4, [.ref oS, .ref oe, .ref oT, .ref o1, .ref o2, .ref o3, .ref o4]))] H := hP
    have hD : va_D A [(oP, .inr (4, [.ref oS, .ref oe, .ref oT, .ref o1, .ref o2, .ref o3, .ref o4]))] := hD
    exact pn_xout (()) hlocks hout hQ hAe hP hD hS (by (try dsimp only); first | done | exact (⟨hpx.1, fun z => hpx.2 z.1⟩)) c1 c2 c3 ⟨by decide, by decide⟩
  · skip
    have hP : va_P D pn_cl [(oP, .inr (4, [.ref oS, .ref oe, .ref oT, .ref o1, .ref o2, .ref o3, .ref o4]))] H := hP
    have hD : va_D A [(oP, .inr (4, [.ref oS, .ref oe, .ref oT, .ref o1, .ref o2, .ref o3, .ref o4]))] := hD
    have hw1 := hw
    refine lv_aload_n hx hb d_P_needRegisters_5 rfl (lv_at hl 0 rfl) ?_
    refine lv_iload_n hx hb d_P_needRegisters_6 rfl (lv_at hl 2 rfl) ?_
    refine pn_xbv (wr := []) [0] [] hP hD hS hA (pn_xrV [.int y] [] Fx hK hN hE hP hD hS hA [0] rfl rfl (c_P_needRegister l D cI cZ cB cJ _ hl0 oP oS oe oT o1 o2 o3 o4 y) kw_150 cal_P_needRegister inst_P_needRegister sel_P_needRegister ⟨by decide, by decide⟩ ⟨rfl, rfl⟩ 0 rfl rfl rfl rfl hl.1 (Nat.le_of_ble_eq_true rfl) d_P_needRegisters_7 ⟨by decide, by decide⟩) rfl rfl rfl (by decide) (fun E ce q9 u_7 H locs hpx hP hD hS c1 c2 c3 => ?_) (fun u_7 H locs hw hP hD hS => ?_)
    · skip
      try dsimp only at hpx
      have hP : va_P D pn_cl [(oP, .inr (4, [.ref oS, .ref oe, .ref oT, .ref o1, .ref o2, .ref o3, .ref o4]))] H := hP
      have hD : va_D A [(oP, .inr (4, [.ref oS, .ref oe, .ref oT, .ref o1, .ref o2, .ref o3, .ref o4]))] := hD
      exact pn_xout (()) hlocks hout hQ hAe hP hD hS (by (try dsimp only); first | done | exact (⟨hpx.1, fun z => hpx.2 z.2⟩)) c1 c2 c3 ⟨by decide, by decide⟩
    · skip
      have hP : va_P D pn_cl [(oP, .inr (4, [.ref oS, .ref oe, .ref oT, .ref o1, .ref o2, .ref o3, .ref o4]))] H := hP
      have hD : va_D A [(oP, .inr (4, [.ref oS, .ref oe, .ref oT, .ref o1, .ref o2, .ref o3, .ref o4]))] := hD
      exact pn_xretv ((u_2, u_7)) Fx hr hlocks hQ hAe hP hD hS (by (try dsimp only); first | done | exact (⟨hw1, hw⟩)) ⟨by decide, by decide⟩ d_P_needRegisters_10

set_option maxHeartbeats 4000000 in
set_option maxRecDepth 100000 in
theorem c_P_needLength (l : Launch) (D : va_G) (cI cZ cB cJ : ClassId) (sz : Nat) (hl0 : l.stackTraces = false) (oP oS oe oT o1 o2 o3 o4 : Nat) (k : Nat) (hk : k < 2 ^ 31) : pn_Xv l D (pn_ty cI cZ cB cJ) y_P_needLength w_P_needLength ({ frames := 6, cells := 1, slots := 6, locals := 82 } : Room) [.ref oP, .int (nI k)] [(oP, .inr (4, [.ref oS, .ref oe, .ref oT, .ref o1, .ref o2, .ref o3, .ref o4]))] sz 1 6 (S := Unit) (SX := Unit) (fun _ => k ≤ 20000) (fun _ => [(oP, .inr (4, [.ref oS, .ref oe, .ref oT, .ref o1, .ref o2, .ref o3, .ref o4]))]) (fun E _ => E = "java/lang/UnsupportedOperationException" ∧ 20000 < k) (fun _ => [(oP, .inr (4, [.ref oS, .ref oe, .ref oT, .ref o1, .ref o2, .ref o3, .ref o4]))]) := by
  refine pn_xstart (by decide) (Nat.le_of_ble_eq_true rfl) ?_
  intro p e s m below meth c A Q ls hQ hAe Fx hr hlocks hout hN hE hK hP hD hS hA hl
  have hx := Fx.1
  have hb := Fx.2.1
  have hl : lv_has ls 2 [(0, .ref oP), (1, .int (nI k))] := hl
  refine lv_iload_n hx hb d_P_needLength_0 rfl (lv_at hl 1 rfl) ?_
  refine lv_sipush (v := nI 20000) hx hb d_P_needLength_1 (by decide) ?_
  refine pw_icmp_le (a := k) (b := 20000) (tgt := 17) hx hb d_P_needLength_4 (by decide) (by omega) (by omega) (fun h_4 => ?_) (fun h_4 => ?_)
  · skip
    exact pn_xretv (()) Fx hr hlocks hQ hAe hP hD hS (by (try dsimp only); first | done | exact (h_4)) ⟨by decide, by decide⟩ d_P_needLength_17
  · skip
    exact pn_throw (()) thr_len hl0 Fx hlocks hout hE hQ hAe hP hD hS (by (try dsimp only); first | done | exact (⟨rfl, h_4⟩)) hl.1 d_P_needLength_7 d_P_needLength_10 d_P_needLength_11 d_P_needLength_13 d_P_needLength_16 (by decide) (Nat.le_of_ble_eq_true rfl) ⟨by decide, by decide⟩ ⟨by decide, by decide⟩

set_option maxHeartbeats 4000000 in
set_option maxRecDepth 100000 in
theorem c_P_needDivisorAboveZero (l : Launch) (D : va_G) (cI cZ cB cJ : ClassId) (sz : Nat) (hl0 : l.stackTraces = false) (oP oS oe oT o1 o2 o3 o4 : Nat) (q2 : Nat) (f2 : Nat → Int32) (n2 : Nat) (b2 : Bool) (hn2 : n2 ≤ 632) : pn_Xv l D (pn_ty cI cZ cB cJ) y_P_needDivisorAboveZero w_P_needDivisorAboveZero ({ frames := 6, cells := 1, slots := 6, locals := 82 } : Room) [.ref oP] [(oP, .inr (4, [.ref oS, .ref oe, .ref oT, .ref o1, .ref o2, .ref o3, .ref o4])), (o2, .inr (1, [.ref q2, .int (nI n2), .int (pn_b b2)])), (q2, .inl (cI, 632, .inl f2))] sz 1 6 (S := Unit) (SX := Unit) (fun _ => 0 < n2 ∧ b2 = false) (fun _ => [(oP, .inr (4, [.ref oS, .ref oe, .ref oT, .ref o1, .ref o2, .ref o3, .ref o4])), (o2, .inr (1, [.ref q2, .int (nI n2), .int (pn_b b2)])), (q2, .inl (cI, 632, .inl f2))]) (fun E _ => E = "java/lang/ArithmeticException" ∧ ¬ (0 < n2 ∧ b2 = false)) (fun _ => [(oP, .inr (4, [.ref oS, .ref oe, .ref oT, .ref o1, .ref o2, .ref o3, .ref o4])), (o2, .inr (1, [.ref q2, .int (nI n2), .int (pn_b b2)])), (q2, .inl (cI, 632, .inl f2))]) := by
  refine pn_xstart (by decide) (Nat.le_of_ble_eq_true rfl) ?_
  intro p e s m below meth c A Q ls hQ hAe Fx hr hlocks hout hN hE hK hP hD hS hA hl
  have hx := Fx.1
  have hb := Fx.2.1
  have hl : lv_has ls 1 [(0, .ref oP)] := hl
  refine lv_aload_n hx hb d_P_needDivisorAboveZero_0 rfl (lv_at hl 0 rfl) ?_
  refine pw_get Fx hK hP fld_P 0 rfl 4 (by decide) kw_116 (v := .ref o2) rfl d_P_needDivisorAboveZero_1 ?_
  refine pn_bi (wr := [(oP, .inr (4, [.ref oS, .ref oe, .ref oT, .ref o1, .ref o2, .ref o3, .ref o4]))]) [1, 2] [0] hP hD hS hA (pn_rVN [] [] Fx hK hN hP hD [1, 2] rfl rfl (c_R_signum l D cI cZ cB cJ _ o2 q2 f2 n2 b2 hn2) kn_440 cal_R_signum inst_R_signum sel_R_signum ⟨by decide, by decide⟩ ⟨rfl, rfl⟩ 0 rfl rfl rfl rfl hl.1 (Nat.le_of_ble_eq_true rfl) d_P_needDivisorAboveZero_4 ⟨by decide, by decide⟩) rfl rfl rfl (by decide) (fun r_4 u_4 H locs hw hP hD hS => ?_)
  obtain ⟨⟩ := u_4
  obtain rfl := hw
  have hP : va_P D pn_cl [(oP, .inr (4, [.ref oS, .ref oe, .ref oT, .ref o1, .ref o2, .ref o3, .ref o4])), (o2, .inr (1, [.ref q2, .int (nI n2), .int (pn_b b2)])), (q2, .inl (cI, 632, .inl f2))] H := hP
  have hD : va_D A [(oP, .inr (4, [.ref oS, .ref oe, .ref oT, .ref o1, .ref o2, .ref o3, .ref o4])), (o2, .inr (1, [.ref q2, .int (nI n2), .int (pn_b b2)])), (q2, .inl (cI, 632, .inl f2))] := hD
  refine lv_if_gt (tgt := 20) hx hb d_P_needDivisorAboveZero_7 (by decide) (fun h_7 => ?_) (fun h_7 => ?_)
  · skip
    have hyes : 0 < n2 ∧ b2 = false := by by_cases z : n2 = 0; (· rw [if_pos z] at h_7; exact absurd h_7 (by decide)); (· rw [if_neg z] at h_7; by_cases y : b2 = true; (· rw [if_pos y] at h_7; exact absurd h_7 (by decide)); (· exact ⟨by omega, by cases b2 with | false => rfl | true => exact absurd rfl y⟩))
    exact pn_xretv (()) Fx hr hlocks hQ hAe hP hD hS (by (try dsimp only); first | done | exact (hyes)) ⟨by decide, by decide⟩ d_P_needDivisorAboveZero_20
  · skip
    have hno : ¬ (0 < n2 ∧ b2 = false) := fun z => h_7 (by rw [if_neg (by omega), if_neg (by rw [z.2]; decide)]; decide)
    exact pn_throw (()) thr_div hl0 Fx hlocks hout hE hQ hAe hP hD hS (by (try dsimp only); first | done | exact (⟨rfl, hno⟩)) hl.1 d_P_needDivisorAboveZero_10 d_P_needDivisorAboveZero_13 d_P_needDivisorAboveZero_14 d_P_needDivisorAboveZero_16 d_P_needDivisorAboveZero_19 (by decide) (Nat.le_of_ble_eq_true rfl) ⟨by decide, by decide⟩ ⟨by decide, by decide⟩
