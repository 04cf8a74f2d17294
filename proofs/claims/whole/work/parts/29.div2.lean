/-- the divisor shifted up until its highest bit is set: nothing goes out above -/
theorem pn_norm {fb g : Nat → Int32} {n y : Nat} (hz : pn_nz fb (n + 1)) (hy : y = 32 - pn_len (pn_u (fb n))) (hV : pn_V g (n + 2) = pn_V fb (n + 1) * 2 ^ y) :
    pn_V g (n + 1) = pn_V fb (n + 1) * 2 ^ y ∧ 2147483648 ≤ pn_u (g n) := by
  have hu := pn_u_nonneg (fb n)
  have hp := pn_u_pos (hz n rfl)
  have hl32 := pn_len_u (fb n)
  have hl := pn_len_V hz
  obtain ⟨j, hj⟩ : ∃ j, pn_len (pn_u (fb n)) = j + 1 := ⟨pn_len (pn_u (fb n)) - 1, by have := pn_len_eq0 hu; omega⟩
  have v0 := pn_V_nonneg fb (n + 1)
  have b1 := (pn_len_le v0 (32 * n + (j + 1))).mp (by omega)
  have b2 := (pn_len_lt v0 (32 * n + j)).mp (by omega)
  have hy2 : y = 31 - j := by omega
  have hp2 : (0 : Int) < 2 ^ y := by rw [pn_two]; have := Nat.two_pow_pos y; omega
  have c1 : pn_V fb (n + 1) * 2 ^ y < pn_E (n + 1) := by
    have : pn_E (n + 1) = 2 ^ (32 * n + (j + 1)) * 2 ^ y := by rw [pn_E_two, ← Int.pow_add]; congr 1; omega
    rw [this]
    exact Int.mul_lt_mul_of_pos_right b1 hp2
  have c2 : 2147483648 * pn_E n ≤ pn_V fb (n + 1) * 2 ^ y := by
    have : 2147483648 * pn_E n = 2 ^ (32 * n + j) * 2 ^ y := by
      rw [pn_E_two, ← Int.pow_add, show (2147483648 : Int) = 2 ^ 31 from rfl, ← Int.pow_add]; congr 1; omega
    rw [this]
    exact pn_mul_le b2 (by omega)
  have d0 := pn_V_nonneg g (n + 1)
  have hE := pn_E_pos (n + 1)
  have e0 : pn_u (g (n + 1)) = 0 := by
    have h1 := pn_V_s g (n + 1)
    have h2 := pn_u_nonneg (g (n + 1))
    rcases (show pn_u (g (n + 1)) = 0 ∨ 1 ≤ pn_u (g (n + 1)) by omega) with z | z
    · exact z
    · have h3 := pn_mul_le z (show 0 ≤ pn_E (n + 1) by omega)
      rw [show n + 1 + 1 = n + 2 from rfl] at h1
      omega
  have e1 : pn_V g (n + 1) = pn_V fb (n + 1) * 2 ^ y := by
    have h1 := pn_V_s g (n + 1)
    rw [show n + 1 + 1 = n + 2 from rfl, e0, Int.zero_mul] at h1
    omega
  refine ⟨e1, ?_⟩
  have f1 := pn_V_s g n
  have f2 := pn_V_lt g n
  rcases (show pn_u (g n) + 1 ≤ 2147483648 ∨ 2147483648 ≤ pn_u (g n) by omega) with z | z
  · have f3 := pn_mul_le z (Int.le_of_lt (pn_E_pos n))
    rw [Int.add_mul] at f3
    omega
  · exact z
theorem pn_top_le {D g : Nat → Int32} {n : Nat} {Vd : Int} (hV : pn_V g (n + 1) = Vd) (h : pn_V D (n + 1) < Vd) : pn_u (D n) ≤ pn_u (g n) := by
  have h1 := pn_V_s D n
  have h2 := pn_V_nonneg D n
  have h3 := pn_V_s g n
  have h4 := pn_V_lt g n
  rcases (show pn_u (D n) ≤ pn_u (g n) ∨ pn_u (g n) + 1 ≤ pn_u (D n) by omega) with z | z
  · exact z
  · have f3 := pn_mul_le z (Int.le_of_lt (pn_E_pos n))
    rw [Int.add_mul] at f3
    omega
theorem pn_three (D : Nat → Int32) (m : Nat) : pn_V D (m + 3) = ((pn_u (D (m + 2)) * 4294967296 + pn_u (D (m + 1))) * 4294967296 + pn_u (D m)) * pn_E m + pn_V D m := by
  rw [pn_V_s, pn_V_s, pn_V_s, pn_E_s (m + 1), pn_E_s m]
  grind
theorem pn_twoL (g : Nat → Int32) (m : Nat) : pn_V g (m + 2) = (pn_u (g (m + 1)) * 4294967296 + pn_u (g m)) * pn_E m + pn_V g m := by
  rw [pn_V_s, pn_V_s, pn_E_s m]
  grind
theorem pn_gs {D g : Nat → Int32} {a m : Nat} {Q Vd : Int} (hVd : pn_V g (m + 2) = Vd) (hr : pn_V (pn_sh D (a + 1)) (m + 2) < Vd) (hh : 2147483648 ≤ pn_u (g (m + 1))) (h0 : 0 ≤ Q) (h1 : Q ≤ 4294967295)
    (h2 : Q * (pn_u (g (m + 1)) * 4294967296 + pn_u (g m)) ≤ (pn_u (D (a + (m + 2))) * 4294967296 + pn_u (D (a + (m + 2) - 1))) * 4294967296 + pn_u (D (a + (m + 2) - 2)))
    (h3 : Q = 4294967295 ∨ (pn_u (D (a + (m + 2))) * 4294967296 + pn_u (D (a + (m + 2) - 1))) * 4294967296 + pn_u (D (a + (m + 2) - 2)) < (Q + 1) * (pn_u (g (m + 1)) * 4294967296 + pn_u (g m))) :
    Q * Vd ≤ pn_V (pn_sh D a) (m + 3) + Vd ∧ pn_V (pn_sh D a) (m + 3) < (Q + 1) * Vd := by
  have room := pn_div_room (D := D) (k := a) (n := m + 2) hr
  rw [show m + 2 + 1 = m + 3 from rfl] at room
  have e1 := pn_three (pn_sh D a) m
  have e2 := pn_twoL g m
  have s1 : pn_sh D a (m + 2) = D (a + (m + 2)) := rfl
  have s2 : pn_sh D a (m + 1) = D (a + (m + 2) - 1) := by show D (a + (m + 1)) = _; congr 1
  have s3 : pn_sh D a m = D (a + (m + 2) - 2) := by show D (a + m) = _; congr 1
  rw [s1, s2, s3] at e1
  rw [hVd] at e2
  rw [e1, e2] at room ⊢
  have u0 := pn_u_nonneg (g m)
  exact pn_kn_q (pn_E_pos m) (pn_V_nonneg _ _) (pn_V_lt _ _) (pn_V_nonneg _ _) (pn_V_lt _ _) (by omega) h0 h1 h2 h3 room
theorem pn_sl_end {Va Vb P R Q : Int} (hP : 0 < P) (hVb : 0 < Vb) (hT : Va * P = Vb * P * (1 * Q) + R) (h0 : 0 ≤ R) (h1 : R < Vb * P) : Q = Va / Vb ∧ R / P = Va % Vb ∧ Vb * P / P = Vb := by
  have e : R = (Va - Vb * Q) * P := by grind
  have e2 : R / P = Va - Vb * Q := by rw [e]; exact Int.mul_ediv_cancel _ (by omega)
  have l0 : 0 ≤ Va - Vb * Q := by rw [← e2]; exact Int.ediv_nonneg h0 (by omega)
  have l1 : Va - Vb * Q < Vb := by rw [← e2]; exact Int.ediv_lt_of_lt_mul hP h1
  have dm := pn_divmod (v := Va) (q := Q) (r := Va - Vb * Q) hVb (by rw [Int.mul_comm Q]; omega) l0 l1
  exact ⟨dm.1.symm, by rw [e2, dm.2], Int.mul_ediv_cancel _ (by omega)⟩
theorem pn_sl_start {g1 g2 : Nat → Int32} {na n : Nat} {Vd P : Int} (hn : n + 2 ≤ na) (hc : pn_u (g1 na) < P) (hP : P ≤ 2147483648) (hh : 2147483648 ≤ pn_u (g2 (n + 1))) (hVd : pn_V g2 (n + 2) = Vd) : pn_V (pn_sh g1 (na - (n + 2) + 1)) (n + 2) < Vd := by
  have e1 := pn_V_s (pn_sh g1 (na - (n + 2) + 1)) (n + 1)
  have e2 : pn_sh g1 (na - (n + 2) + 1) (n + 1) = g1 na := by show g1 (na - (n + 2) + 1 + (n + 1)) = _; congr 1; omega
  have e3 := pn_V_lt (pn_sh g1 (na - (n + 2) + 1)) (n + 1)
  have e4 := pn_V_s g2 (n + 1)
  have e5 := pn_V_nonneg g2 (n + 1)
  have e6 := pn_mul_le (show pn_u (g1 na) + 1 ≤ pn_u (g2 (n + 1)) by omega) (Int.le_of_lt (pn_E_pos (n + 1)))
  rw [Int.add_mul] at e6
  rw [e2] at e1
  rw [show n + 1 + 1 = n + 2 from rfl] at e1 e4
  omega
theorem pn_V_sh0 (q : Nat → Int32) (n : Nat) : pn_V (pn_sh q 0) n = pn_V q n := pn_V_congr (fun i _ => by unfold pn_sh; rw [Nat.zero_add])

set_option maxHeartbeats 4000000 in
set_option maxRecDepth 100000 in
theorem c_D_splitByLong (l : Launch) (D : va_G) (cI cZ cB cJ : ClassId) (sz : Nat) (oa qa : Nat) (fa : Nat → Int32) (na : Nat) (ba : Bool) (ob qb : Nat) (fb : Nat → Int32) (n : Nat) (bb : Bool) (ot qt : Nat) (ft : Nat → Int32) (nt : Nat) (bt : Bool) (hna : na ≤ 630) (hnn : n + 2 ≤ na) (hzb : pn_nz fb (n + 2)) : pn_Cv l D (pn_ty cI cZ cB cJ) y_D_splitByLong w_D_splitByLong ({ frames := 2, cells := 0, slots := 0, locals := 80 } : Room) [.ref oa, .ref ob, .ref ot] [(oa, .inr (1, [.ref qa, .int (nI na), .int (pn_b ba)])), (qa, .inl (cI, 632, .inl fa)), (ob, .inr (1, [.ref qb, .int (nI (n + 2)), .int (pn_b bb)])), (qb, .inl (cI, 632, .inl fb)), (ot, .inr (1, [.ref qt, .int (nI nt), .int (pn_b bt)])), (qt, .inl (cI, 632, .inl ft))] sz (S := ((Nat → Int32) × Nat) × ((Nat → Int32) × Nat) × ((Nat → Int32) × Nat)) (fun u => (u.1.2 ≤ 632 ∧ pn_nz u.1.1 u.1.2 ∧ pn_V u.1.1 u.1.2 = pn_V fa na % pn_V fb (n + 2)) ∧ (u.2.1.2 ≤ 632 ∧ pn_nz u.2.1.1 u.2.1.2 ∧ pn_V u.2.1.1 u.2.1.2 = pn_V fb (n + 2)) ∧ (u.2.2.2 ≤ 632 ∧ pn_nz u.2.2.1 u.2.2.2 ∧ pn_V u.2.2.1 u.2.2.2 = pn_V fa na / pn_V fb (n + 2))) (fun u => [(oa, .inr (1, [.ref qa, .int (nI u.1.2), .int (pn_b false)])), (qa, .inl (cI, 632, .inl u.1.1)), (ob, .inr (1, [.ref qb, .int (nI u.2.1.2), .int (pn_b false)])), (qb, .inl (cI, 632, .inl u.2.1.1)), (ot, .inr (1, [.ref qt, .int (nI u.2.2.2), .int (pn_b false)])), (qt, .inl (cI, 632, .inl u.2.2.1))]) := by
  refine pn_start (by decide) (Nat.le_of_ble_eq_true rfl) ?_
  intro p e s m below meth c A Q ls hQ hAe Fx hr hlocks hN hK hP hD hS hA hl
  have hx := Fx.1
  have hb := Fx.2.1
  have hl : lv_has ls 9 [(0, .ref oa), (1, .ref ob), (2, .ref ot)] := hl
  have hut := pn_u_pos (hzb (n + 1) rfl)
  have hy31 : (32 - pn_len (pn_u (fb (n + 1)))) ≤ 31 := by have e := pn_len_eq0 (pn_u_nonneg (fb (n + 1))); omega
  have hPb := pn_pow_bd hy31
  refine lv_aload_n hx hb d_D_splitByLong_0 rfl (lv_at hl 1 rfl) ?_
  refine pw_getN Fx hN hK hP fld_R 2 rfl 1 (by decide) kn_95 (v := .int (nI (n + 2))) rfl d_D_splitByLong_1 ?_
  refine lv_istore_n (lv' := [(3, .int (nI (n + 2))), (0, .ref oa), (1, .ref ob), (2, .ref ot)]) hx hb d_D_splitByLong_4 rfl hl (by decide) rfl (fun ls hl => ?_)
  refine lv_aload_n hx hb d_D_splitByLong_5 rfl (lv_at hl 1 rfl) ?_
  refine pw_getN Fx hN hK hP fld_R 0 rfl 1 (by decide) kn_95 (v := .int (nI na)) rfl d_D_splitByLong_6 ?_
  refine lv_iload_n hx hb d_D_splitByLong_9 rfl (lv_at hl 0 rfl) ?_
  refine lv_isub hx hb d_D_splitByLong_10 ?_
  refine pn_topi (nI (na - (n + 2))) (pk_sub (by omega)) ?_
  refine lv_istore (lv' := [(4, .int (nI (na - (n + 2)))), (3, .int (nI (n + 2))), (0, .ref oa), (1, .ref ob), (2, .ref ot)]) hx hb d_D_splitByLong_11 hl (by decide) rfl (fun ls hl => ?_)
  refine lv_aload_n hx hb d_D_splitByLong_13 rfl (lv_at hl 3 rfl) ?_
  refine pw_getN Fx hN hK hP fld_R 2 rfl 0 (by decide) kn_91 (v := .ref qb) rfl d_D_splitByLong_14 ?_
  refine lv_iload_n hx hb d_D_splitByLong_17 rfl (lv_at hl 1 rfl) ?_
  refine lv_iconst (v := nI 1) hx hb d_D_splitByLong_18 (by decide) ?_
  refine lv_isub hx hb d_D_splitByLong_19 ?_
  refine pn_topi (nI (n + 1)) (by rw [pk_sub (by omega)]; congr 1) ?_
  refine pw_iald Fx hK hP 3 0 (f := fb) rfl rfl (k := n + 1) (by omega) (by decide) d_D_splitByLong_20 ?_
  refine pn_bi (wr := [(oa, .inr (1, [.ref qa, .int (nI na), .int (pn_b ba)])), (qa, .inl (cI, 632, .inl fa)), (ob, .inr (1, [.ref qb, .int (nI (n + 2)), .int (pn_b bb)])), (qb, .inl (cI, 632, .inl fb)), (ot, .inr (1, [.ref qt, .int (nI nt), .int (pn_b bt)])), (qt, .inl (cI, 632, .inl ft))]) [] [0, 1, 2, 3, 4, 5] hP hD hS hA (pn_rS [.int (fb (n + 1))] [] Fx hK hN hP hD [] rfl rfl (c_J_nlz l D cI cZ cB cJ _ (fb (n + 1))) kw_481 cal_J_nlz stat_J_nlz ⟨by decide, by decide⟩ ⟨rfl, rfl⟩ rfl hl.1 (Nat.le_of_ble_eq_true rfl) d_D_splitByLong_21 ⟨Nat.zero_le _, Nat.zero_le _⟩) rfl rfl rfl (by decide) (fun r_21 u_21 H locs hw hP hD hS => ?_)
  obtain ⟨⟩ := u_21
  obtain rfl := hw
  have hP : va_P D pn_cl [(oa, .inr (1, [.ref qa, .int (nI na), .int (pn_b ba)])), (qa, .inl (cI, 632, .inl fa)), (ob, .inr (1, [.ref qb, .int (nI (n + 2)), .int (pn_b bb)])), (qb, .inl (cI, 632, .inl fb)), (ot, .inr (1, [.ref qt, .int (nI nt), .int (pn_b bt)])), (qt, .inl (cI, 632, .inl ft))] H := hP
  have hD : va_D A [(oa, .inr (1, [.ref qa, .int (nI na), .int (pn_b ba)])), (qa, .inl (cI, 632, .inl fa)), (ob, .inr (1, [.ref qb, .int (nI (n + 2)), .int (pn_b bb)])), (qb, .inl (cI, 632, .inl fb)), (ot, .inr (1, [.ref qt, .int (nI nt), .int (pn_b bt)])), (qt, .inl (cI, 632, .inl ft))] := hD
  refine lv_istore (lv' := [(5, .int (nI (32 - pn_len (pn_u (fb (n + 1)))))), (4, .int (nI (na - (n + 2)))), (3, .int (nI (n + 2))), (0, .ref oa), (1, .ref ob), (2, .ref ot)]) hx hb d_D_splitByLong_24 hl (by decide) rfl (fun ls hl => ?_)
  refine lv_aload_n hx hb d_D_splitByLong_26 rfl (lv_at hl 3 rfl) ?_
  refine lv_iload hx hb d_D_splitByLong_27 (lv_at hl 0 rfl) ?_
  refine pn_bv (wr := [(ob, .inr (1, [.ref qb, .int (nI (n + 2)), .int (pn_b bb)])), (qb, .inl (cI, 632, .inl fb)), (ot, .inr (1, [.ref qt, .int (nI nt), .int (pn_b bt)])), (qt, .inl (cI, 632, .inl ft))]) [0, 1] [2, 3, 4, 5] hP hD hS hA (pn_rVN [.int (nI (32 - pn_len (pn_u (fb (n + 1)))))] [] Fx hK hN hP hD [0, 1] rfl rfl (c_R_shiftUp l D cI cZ cB cJ _ oa qa fa na ba (32 - pn_len (pn_u (fb (n + 1)))) (by omega) hy31) kn_482 cal_R_shiftUp inst_R_shiftUp sel_R_shiftUp ⟨by decide, by decide⟩ ⟨rfl, rfl⟩ 0 rfl rfl rfl rfl hl.1 (Nat.le_of_ble_eq_true rfl) d_D_splitByLong_29 ⟨Nat.zero_le _, Nat.zero_le _⟩) rfl rfl rfl (by decide) (fun u_29 H locs hw hP hD hS => ?_)
  obtain ⟨hVa1, hca1⟩ := hw
  have hP : va_P D pn_cl [(ob, .inr (1, [.ref qb, .int (nI (n + 2)), .int (pn_b bb)])), (qb, .inl (cI, 632, .inl fb)), (ot, .inr (1, [.ref qt, .int (nI nt), .int (pn_b bt)])), (qt, .inl (cI, 632, .inl ft)), (oa, .inr (1, [.ref qa, .int (nI na), .int (pn_b ba)])), (qa, .inl (cI, 632, .inl u_29))] H := hP
  have hD : va_D A [(ob, .inr (1, [.ref qb, .int (nI (n + 2)), .int (pn_b bb)])), (qb, .inl (cI, 632, .inl fb)), (ot, .inr (1, [.ref qt, .int (nI nt), .int (pn_b bt)])), (qt, .inl (cI, 632, .inl ft)), (oa, .inr (1, [.ref qa, .int (nI na), .int (pn_b ba)])), (qa, .inl (cI, 632, .inl u_29))] := hD
  refine lv_aload_n hx hb d_D_splitByLong_32 rfl (lv_at hl 4 rfl) ?_
  refine lv_iload hx hb d_D_splitByLong_33 (lv_at hl 0 rfl) ?_
  refine pn_bv (wr := [(ot, .inr (1, [.ref qt, .int (nI nt), .int (pn_b bt)])), (qt, .inl (cI, 632, .inl ft)), (oa, .inr (1, [.ref qa, .int (nI na), .int (pn_b ba)])), (qa, .inl (cI, 632, .inl u_29))]) [0, 1] [2, 3, 4, 5] hP hD hS hA (pn_rVN [.int (nI (32 - pn_len (pn_u (fb (n + 1)))))] [] Fx hK hN hP hD [0, 1] rfl rfl (c_R_shiftUp l D cI cZ cB cJ _ ob qb fb (n + 2) bb (32 - pn_len (pn_u (fb (n + 1)))) (by omega) hy31) kn_482 cal_R_shiftUp inst_R_shiftUp sel_R_shiftUp ⟨by decide, by decide⟩ ⟨rfl, rfl⟩ 0 rfl rfl rfl rfl hl.1 (Nat.le_of_ble_eq_true rfl) d_D_splitByLong_35 ⟨Nat.zero_le _, Nat.zero_le _⟩) rfl rfl rfl (by decide) (fun u_35 H locs hw hP hD hS => ?_)
  obtain ⟨hVb1, hcb1⟩ := hw
  have hP : va_P D pn_cl [(ot, .inr (1, [.ref qt, .int (nI nt), .int (pn_b bt)])), (qt, .inl (cI, 632, .inl ft)), (oa, .inr (1, [.ref qa, .int (nI na), .int (pn_b ba)])), (qa, .inl (cI, 632, .inl u_29)), (ob, .inr (1, [.ref qb, .int (nI (n + 2)), .int (pn_b bb)])), (qb, .inl (cI, 632, .inl u_35))] H := hP
  have hD : va_D A [(ot, .inr (1, [.ref qt, .int (nI nt), .int (pn_b bt)])), (qt, .inl (cI, 632, .inl ft)), (oa, .inr (1, [.ref qa, .int (nI na), .int (pn_b ba)])), (qa, .inl (cI, 632, .inl u_29)), (ob, .inr (1, [.ref qb, .int (nI (n + 2)), .int (pn_b bb)])), (qb, .inl (cI, 632, .inl u_35))] := hD
  have hno := pn_norm hzb rfl hVb1
  refine lv_iload hx hb d_D_splitByLong_38 (lv_at hl 1 rfl) ?_
  refine pn_topi (pn_I (((na - (n + 2) + 1 : Nat) : Int) - 1)) ((pn_dec_n _).symm) ?_
  refine lv_istore (lv' := [(6, .int (pn_I (((na - (n + 2) + 1 : Nat) : Int) - 1))), (5, .int (nI (32 - pn_len (pn_u (fb (n + 1)))))), (4, .int (nI (na - (n + 2)))), (3, .int (nI (n + 2))), (0, .ref oa), (1, .ref ob), (2, .ref ot)]) hx hb d_D_splitByLong_40 hl (by decide) rfl (fun ls hl => ?_)
  have loop42 : ∀ (N : Nat) (k : Nat) (Dv : Nat → Int32) (qv : Nat → Int32), k < N → (k ≤ na - (n + 2) + 1) → (pn_V fa na * 2 ^ (32 - pn_len (pn_u (fb (n + 1)))) = pn_V fb (n + 2) * 2 ^ (32 - pn_len (pn_u (fb (n + 1)))) * (pn_E k * pn_V (pn_sh qv k) (na - (n + 2) + 1 - k)) + pn_V Dv (k + (n + 2))) → (pn_V (pn_sh Dv k) (n + 2) < pn_V fb (n + 2) * 2 ^ (32 - pn_len (pn_u (fb (n + 1))))) → ∀ (H : Heap) (locs : List Loc) (ls : Array Slot), lv_has ls 9 [(6, .int (pn_I ((k : Int) - 1))), (5, .int (nI (32 - pn_len (pn_u (fb (n + 1)))))), (4, .int (nI (na - (n + 2)))), (3, .int (nI (n + 2))), (0, .ref oa), (1, .ref ob), (2, .ref ot)] → va_P D pn_cl [(oa, .inr (1, [.ref qa, .int (nI na), .int (pn_b ba)])), (qa, .inl (cI, 632, .inl Dv)), (ob, .inr (1, [.ref qb, .int (nI (n + 2)), .int (pn_b bb)])), (qb, .inl (cI, 632, .inl u_35)), (ot, .inr (1, [.ref qt, .int (nI nt), .int (pn_b bt)])), (qt, .inl (cI, 632, .inl qv))] H → va_D A [(oa, .inr (1, [.ref qa, .int (nI na), .int (pn_b ba)])), (qa, .inl (cI, 632, .inl Dv)), (ob, .inr (1, [.ref qb, .int (nI (n + 2)), .int (pn_b bb)])), (qb, .inl (cI, 632, .inl u_35)), (ot, .inr (1, [.ref qt, .int (nI nt), .int (pn_b bt)])), (qt, .inl (cI, 632, .inl qv))] → va_S A s.heap H locs → W p l e ({ frames := 2, cells := 0, slots := 0, locals := 80 } : Room) s m ([.ref oa, .ref ob, .ref ot] : List Value).toArray below meth c H locs 0 0 Q (F0 m 42 ls []) := by
    intro N
    induction N with
    | zero => intro k Dv qv hM; exact absurd hM (Nat.not_lt_zero _)
    | succ N ih42 =>
      intro k Dv qv hM42 hk hT hrr H locs ls hl hP hD hS
      refine lv_iload hx hb d_D_splitByLong_42 (lv_at hl 0 rfl) ?_
      refine lv_if_lt (tgt := 133) hx hb d_D_splitByLong_44 (by decide) (fun h_44 => ?_) (fun h_44 => ?_)
      · skip
        have hk0 := pn_dec_0 (by omega) h_44
        subst hk0
        refine lv_aload_n hx hb d_D_splitByLong_133 rfl (lv_at hl 6 rfl) ?_
        refine lv_iload hx hb d_D_splitByLong_134 (lv_at hl 2 rfl) ?_
        refine lv_iconst (v := nI 1) hx hb d_D_splitByLong_136 (by decide) ?_
        refine pw_iadd hx hb d_D_splitByLong_137 ?_
        refine pn_bv (wr := [(oa, .inr (1, [.ref qa, .int (nI na), .int (pn_b ba)])), (qa, .inl (cI, 632, .inl Dv)), (ob, .inr (1, [.ref qb, .int (nI (n + 2)), .int (pn_b bb)])), (qb, .inl (cI, 632, .inl u_35))]) [4, 5] [0, 1, 2, 3] hP hD hS hA (pn_rVN [.int (nI (na - (n + 2) + 1))] [] Fx hK hN hP hD [4, 5] rfl rfl (c_R_fit l D cI cZ cB cJ _ ot qt qv nt (na - (n + 2) + 1) bt (by omega)) kn_464 cal_R_fit inst_R_fit sel_R_fit ⟨by decide, by decide⟩ ⟨rfl, rfl⟩ 0 rfl rfl rfl rfl hl.1 (Nat.le_of_ble_eq_true rfl) d_D_splitByLong_138 ⟨Nat.zero_le _, Nat.zero_le _⟩) rfl rfl rfl (by decide) (fun u_138 H locs hw hP hD hS => ?_)
        obtain ⟨hjt, hVt, hzt⟩ := hw
        have hP : va_P D pn_cl [(oa, .inr (1, [.ref qa, .int (nI na), .int (pn_b ba)])), (qa, .inl (cI, 632, .inl Dv)), (ob, .inr (1, [.ref qb, .int (nI (n + 2)), .int (pn_b bb)])), (qb, .inl (cI, 632, .inl u_35)), (ot, .inr (1, [.ref qt, .int (nI u_138), .int (pn_b false)])), (qt, .inl (cI, 632, .inl qv))] H := hP
        have hD : va_D A [(oa, .inr (1, [.ref qa, .int (nI na), .int (pn_b ba)])), (qa, .inl (cI, 632, .inl Dv)), (ob, .inr (1, [.ref qb, .int (nI (n + 2)), .int (pn_b bb)])), (qb, .inl (cI, 632, .inl u_35)), (ot, .inr (1, [.ref qt, .int (nI u_138), .int (pn_b false)])), (qt, .inl (cI, 632, .inl qv))] := hD
        refine lv_aload_n hx hb d_D_splitByLong_141 rfl (lv_at hl 4 rfl) ?_
        refine lv_iload_n hx hb d_D_splitByLong_142 rfl (lv_at hl 3 rfl) ?_
        refine pn_bv (wr := [(ob, .inr (1, [.ref qb, .int (nI (n + 2)), .int (pn_b bb)])), (qb, .inl (cI, 632, .inl u_35)), (ot, .inr (1, [.ref qt, .int (nI u_138), .int (pn_b false)])), (qt, .inl (cI, 632, .inl qv))]) [0, 1] [2, 3, 4, 5] hP hD hS hA (pn_rVN [.int (nI (n + 2))] [] Fx hK hN hP hD [0, 1] rfl rfl (c_R_fit l D cI cZ cB cJ _ oa qa Dv na (n + 2) ba (by omega)) kn_464 cal_R_fit inst_R_fit sel_R_fit ⟨by decide, by decide⟩ ⟨rfl, rfl⟩ 0 rfl rfl rfl rfl hl.1 (Nat.le_of_ble_eq_true rfl) d_D_splitByLong_143 ⟨Nat.zero_le _, Nat.zero_le _⟩) rfl rfl rfl (by decide) (fun u_143 H locs hw hP hD hS => ?_)
        obtain ⟨hja, hVa2, hza2⟩ := hw
        have hP : va_P D pn_cl [(ob, .inr (1, [.ref qb, .int (nI (n + 2)), .int (pn_b bb)])), (qb, .inl (cI, 632, .inl u_35)), (ot, .inr (1, [.ref qt, .int (nI u_138), .int (pn_b false)])), (qt, .inl (cI, 632, .inl qv)), (oa, .inr (1, [.ref qa, .int (nI u_143), .int (pn_b false)])), (qa, .inl (cI, 632, .inl Dv))] H := hP
        have hD : va_D A [(ob, .inr (1, [.ref qb, .int (nI (n + 2)), .int (pn_b bb)])), (qb, .inl (cI, 632, .inl u_35)), (ot, .inr (1, [.ref qt, .int (nI u_138), .int (pn_b false)])), (qt, .inl (cI, 632, .inl qv)), (oa, .inr (1, [.ref qa, .int (nI u_143), .int (pn_b false)])), (qa, .inl (cI, 632, .inl Dv))] := hD
        refine lv_aload_n hx hb d_D_splitByLong_146 rfl (lv_at hl 4 rfl) ?_
        refine lv_iload hx hb d_D_splitByLong_147 (lv_at hl 1 rfl) ?_
        refine pn_bv (wr := [(ob, .inr (1, [.ref qb, .int (nI (n + 2)), .int (pn_b bb)])), (qb, .inl (cI, 632, .inl u_35)), (ot, .inr (1, [.ref qt, .int (nI u_138), .int (pn_b false)])), (qt, .inl (cI, 632, .inl qv))]) [4, 5] [0, 1, 2, 3] hP hD hS hA (pn_rVN [.int (nI (32 - pn_len (pn_u (fb (n + 1)))))] [] Fx hK hN hP hD [4, 5] rfl rfl (c_R_shiftDown l D cI cZ cB cJ _ oa qa Dv u_143 false (32 - pn_len (pn_u (fb (n + 1)))) (by omega) hy31) kn_498 cal_R_shiftDown inst_R_shiftDown sel_R_shiftDown ⟨by decide, by decide⟩ ⟨rfl, rfl⟩ 0 rfl rfl rfl rfl hl.1 (Nat.le_of_ble_eq_true rfl) d_D_splitByLong_149 ⟨Nat.zero_le _, Nat.zero_le _⟩) rfl rfl rfl (by decide) (fun u_149 H locs hw hP hD hS => ?_)
        obtain ⟨ga, ja⟩ := u_149
        obtain ⟨hjga, hVga, hzga⟩ := hw
        have hP : va_P D pn_cl [(ob, .inr (1, [.ref qb, .int (nI (n + 2)), .int (pn_b bb)])), (qb, .inl (cI, 632, .inl u_35)), (ot, .inr (1, [.ref qt, .int (nI u_138), .int (pn_b false)])), (qt, .inl (cI, 632, .inl qv)), (oa, .inr (1, [.ref qa, .int (nI ja), .int (pn_b false)])), (qa, .inl (cI, 632, .inl ga))] H := hP
        have hD : va_D A [(ob, .inr (1, [.ref qb, .int (nI (n + 2)), .int (pn_b bb)])), (qb, .inl (cI, 632, .inl u_35)), (ot, .inr (1, [.ref qt, .int (nI u_138), .int (pn_b false)])), (qt, .inl (cI, 632, .inl qv)), (oa, .inr (1, [.ref qa, .int (nI ja), .int (pn_b false)])), (qa, .inl (cI, 632, .inl ga))] := hD
        refine lv_aload_n hx hb d_D_splitByLong_152 rfl (lv_at hl 5 rfl) ?_
        refine lv_iload hx hb d_D_splitByLong_153 (lv_at hl 1 rfl) ?_
        refine pn_bv (wr := [(ot, .inr (1, [.ref qt, .int (nI u_138), .int (pn_b false)])), (qt, .inl (cI, 632, .inl qv)), (oa, .inr (1, [.ref qa, .int (nI ja), .int (pn_b false)])), (qa, .inl (cI, 632, .inl ga))]) [0, 1] [2, 3, 4, 5] hP hD hS hA (pn_rVN [.int (nI (32 - pn_len (pn_u (fb (n + 1)))))] [] Fx hK hN hP hD [0, 1] rfl rfl (c_R_shiftDown l D cI cZ cB cJ _ ob qb u_35 (n + 2) bb (32 - pn_len (pn_u (fb (n + 1)))) (by omega) hy31) kn_498 cal_R_shiftDown inst_R_shiftDown sel_R_shiftDown ⟨by decide, by decide⟩ ⟨rfl, rfl⟩ 0 rfl rfl rfl rfl hl.1 (Nat.le_of_ble_eq_true rfl) d_D_splitByLong_155 ⟨Nat.zero_le _, Nat.zero_le _⟩) rfl rfl rfl (by decide) (fun u_155 H locs hw hP hD hS => ?_)
        obtain ⟨gb, jb⟩ := u_155
        obtain ⟨hjgb, hVgb, hzgb⟩ := hw
        have hP : va_P D pn_cl [(ot, .inr (1, [.ref qt, .int (nI u_138), .int (pn_b false)])), (qt, .inl (cI, 632, .inl qv)), (oa, .inr (1, [.ref qa, .int (nI ja), .int (pn_b false)])), (qa, .inl (cI, 632, .inl ga)), (ob, .inr (1, [.ref qb, .int (nI jb), .int (pn_b false)])), (qb, .inl (cI, 632, .inl gb))] H := hP
        have hD : va_D A [(ot, .inr (1, [.ref qt, .int (nI u_138), .int (pn_b false)])), (qt, .inl (cI, 632, .inl qv)), (oa, .inr (1, [.ref qa, .int (nI ja), .int (pn_b false)])), (qa, .inl (cI, 632, .inl ga)), (ob, .inr (1, [.ref qb, .int (nI jb), .int (pn_b false)])), (qb, .inl (cI, 632, .inl gb))] := hD
        exact pn_retv (((ga, ja), (gb, jb), (qv, u_138))) Fx hr hlocks hQ hAe (hP.sub [2, 3, 4, 5, 0, 1] rfl) (hD.sub [2, 3, 4, 5, 0, 1] (by decide) rfl) hS (by (try dsimp only); first | done | exact (by have fin := pn_sl_end (Va := pn_V fa na) (Vb := pn_V fb (n + 2)) (P := 2 ^ (32 - pn_len (pn_u (fb (n + 1))))) (R := pn_V Dv (n + 2)) (Q := pn_V qv (na - (n + 2) + 1)) (by omega) (by have z : pn_E (n + 1) ≤ pn_V fb (n + 2) := pn_V_low hzb; have z2 := pn_E_pos (n + 1); omega) (by rw [pn_E_0, Nat.sub_zero, pn_V_sh0, Nat.zero_add] at hT; exact hT) (pn_V_nonneg _ _) (by rw [pn_V_sh0] at hrr; exact hrr); exact ⟨⟨by omega, hzga, by rw [hVga, hVa2]; exact fin.2.1⟩, ⟨by omega, hzgb, by rw [hVgb, hno.1]; exact fin.2.2⟩, ⟨by omega, hzt, by rw [hVt]; exact fin.1⟩⟩)) d_D_splitByLong_158
      · skip
        obtain ⟨j, rfl⟩ := pn_dec_s h_44
        rw [pn_dec_n] at hl
        refine lv_aload_n hx hb d_D_splitByLong_47 rfl (lv_at hl 4 rfl) ?_
        refine pw_getN Fx hN hK hP fld_R 0 rfl 0 (by decide) kn_91 (v := .ref qa) rfl d_D_splitByLong_48 ?_
        refine lv_iload hx hb d_D_splitByLong_51 (lv_at hl 0 rfl) ?_
        refine lv_iload_n hx hb d_D_splitByLong_53 rfl (lv_at hl 3 rfl) ?_
        refine pw_iadd hx hb d_D_splitByLong_54 ?_
        refine lv_aload_n hx hb d_D_splitByLong_55 rfl (lv_at hl 5 rfl) ?_
        refine pw_getN Fx hN hK hP fld_R 2 rfl 0 (by decide) kn_91 (v := .ref qb) rfl d_D_splitByLong_56 ?_
        refine lv_iload_n hx hb d_D_splitByLong_59 rfl (lv_at hl 3 rfl) ?_
        refine lv_iconst (v := nI 1) hx hb d_D_splitByLong_60 (by decide) ?_
        refine lv_isub hx hb d_D_splitByLong_61 ?_
        refine pn_topi (nI (n + 1)) (by rw [pk_sub (by omega)]; congr 1) ?_
        refine pw_iald Fx hK hP 3 0 (f := u_35) rfl rfl (k := n + 1) (by omega) (by decide) d_D_splitByLong_62 ?_
        refine pw_i2l hx hb d_D_splitByLong_63 ?_
        refine lv_ldc2 hx hb Fx.2.2.2.1 (Fx.2.2.2.2 _ kw_486) d_D_splitByLong_64 ?_
        refine pw_limb hx hb d_D_splitByLong_67 ?_
        refine lv_aload_n hx hb d_D_splitByLong_68 rfl (lv_at hl 5 rfl) ?_
        refine pw_getN Fx hN hK hP fld_R 2 rfl 0 (by decide) kn_91 (v := .ref qb) rfl d_D_splitByLong_69 ?_
        refine lv_iload_n hx hb d_D_splitByLong_72 rfl (lv_at hl 3 rfl) ?_
        refine lv_iconst (v := nI 2) hx hb d_D_splitByLong_73 (by decide) ?_
        refine lv_isub hx hb d_D_splitByLong_74 ?_
        refine pn_topi (nI n) (by rw [pk_sub (by omega)]; congr 1) ?_
        refine pw_iald Fx hK hP 3 0 (f := u_35) rfl rfl (k := n) (by omega) (by decide) d_D_splitByLong_75 ?_
        refine pw_i2l hx hb d_D_splitByLong_76 ?_
        refine lv_ldc2 hx hb Fx.2.2.2.1 (Fx.2.2.2.2 _ kw_486) d_D_splitByLong_77 ?_
        refine pw_limb hx hb d_D_splitByLong_80 ?_
        refine pn_bl (wr := [(oa, .inr (1, [.ref qa, .int (nI na), .int (pn_b ba)])), (ob, .inr (1, [.ref qb, .int (nI (n + 2)), .int (pn_b bb)])), (qb, .inl (cI, 632, .inl u_35)), (ot, .inr (1, [.ref qt, .int (nI nt), .int (pn_b bt)])), (qt, .inl (cI, 632, .inl qv))]) [1] [0, 2, 3, 4, 5] hP hD hS hA (pn_rS [.ref qa, .int (nI (j + (n + 2))), .long (pn_L (pn_u (u_35 (n + 1)))), .long (pn_L (pn_u (u_35 n)))] [] Fx hK hN hP hD [1] rfl rfl (c_D_guess l D cI cZ cB cJ _ qa Dv (j + (n + 2)) (pn_u (u_35 (n + 1))) (pn_u (u_35 n)) (by omega) (by omega) hno.2 (pn_u_lt _) (pn_u_nonneg _) (pn_u_lt _) (pn_top_le (D := pn_sh Dv (j + 1)) (n := n + 1) hno.1 hrr |> fun z => by have e : pn_sh Dv (j + 1) (n + 1) = Dv (j + (n + 2)) := (by show Dv (j + 1 + (n + 1)) = _; congr 1; omega); rw [e] at z; exact z)) kw_487 cal_D_guess stat_D_guess ⟨by decide, by decide⟩ ⟨rfl, rfl⟩ rfl hl.1 (Nat.le_of_ble_eq_true rfl) d_D_splitByLong_81 ⟨Nat.zero_le _, Nat.zero_le _⟩) rfl rfl rfl (by decide) (fun r_81 u_81 H locs hw hP hD hS => ?_)
        obtain ⟨⟩ := u_81
        obtain ⟨Qg, rfl, hQ0, hQ1, hQ2, hQ3⟩ := hw
        have hP : va_P D pn_cl [(oa, .inr (1, [.ref qa, .int (nI na), .int (pn_b ba)])), (ob, .inr (1, [.ref qb, .int (nI (n + 2)), .int (pn_b bb)])), (qb, .inl (cI, 632, .inl u_35)), (ot, .inr (1, [.ref qt, .int (nI nt), .int (pn_b bt)])), (qt, .inl (cI, 632, .inl qv)), (qa, .inl (cI, 632, .inl Dv))] H := hP
        have hD : va_D A [(oa, .inr (1, [.ref qa, .int (nI na), .int (pn_b ba)])), (ob, .inr (1, [.ref qb, .int (nI (n + 2)), .int (pn_b bb)])), (qb, .inl (cI, 632, .inl u_35)), (ot, .inr (1, [.ref qt, .int (nI nt), .int (pn_b bt)])), (qt, .inl (cI, 632, .inl qv)), (qa, .inl (cI, 632, .inl Dv))] := hD
        have gs := pn_gs (a := j) hno.1 hrr hno.2 hQ0 hQ1 hQ2 hQ3
        refine lv_lstore (lv' := [(7, .long (pn_L Qg)), (6, .int (nI j)), (5, .int (nI (32 - pn_len (pn_u (fb (n + 1)))))), (4, .int (nI (na - (n + 2)))), (3, .int (nI (n + 2))), (0, .ref oa), (1, .ref ob), (2, .ref ot)]) hx hb d_D_splitByLong_84 hl (by decide) rfl (fun ls hl => ?_)
        refine lv_aload_n hx hb d_D_splitByLong_86 rfl (lv_at hl 5 rfl) ?_
        refine pw_getN Fx hN hK hP fld_R 0 rfl 0 (by decide) kn_91 (v := .ref qa) rfl d_D_splitByLong_87 ?_
        refine lv_iload hx hb d_D_splitByLong_90 (lv_at hl 1 rfl) ?_
        refine lv_aload_n hx hb d_D_splitByLong_92 rfl (lv_at hl 6 rfl) ?_
        refine lv_lload hx hb d_D_splitByLong_93 (lv_at hl 0 rfl) ?_
        refine pn_bi (wr := [(oa, .inr (1, [.ref qa, .int (nI na), .int (pn_b ba)])), (ot, .inr (1, [.ref qt, .int (nI nt), .int (pn_b bt)])), (qt, .inl (cI, 632, .inl qv))]) [5, 1, 2] [0, 3, 4] hP hD hS hA (pn_rS [.ref qa, .int (nI j), .ref ob, .long (pn_L Qg)] [] Fx hK hN hP hD [5, 1, 2] rfl rfl (c_D_takeMultiple l D cI cZ cB cJ _ qa Dv ob qb u_35 (n + 2) bb Qg j hQ0 hQ1 (by omega)) kw_492 cal_D_takeMultiple stat_D_takeMultiple ⟨by decide, by decide⟩ ⟨rfl, rfl⟩ rfl hl.1 (Nat.le_of_ble_eq_true rfl) d_D_splitByLong_95 ⟨Nat.zero_le _, Nat.zero_le _⟩) rfl rfl rfl (by decide) (fun r_95 u_95 H locs hw hP hD hS => ?_)
        obtain ⟨k1, rfl, hu1, hV1⟩ := hw
        have hP : va_P D pn_cl [(oa, .inr (1, [.ref qa, .int (nI na), .int (pn_b ba)])), (ot, .inr (1, [.ref qt, .int (nI nt), .int (pn_b bt)])), (qt, .inl (cI, 632, .inl qv)), (qa, .inl (cI, 632, .inl u_95)), (ob, .inr (1, [.ref qb, .int (nI (n + 2)), .int (pn_b bb)])), (qb, .inl (cI, 632, .inl u_35))] H := hP
        have hD : va_D A [(oa, .inr (1, [.ref qa, .int (nI na), .int (pn_b ba)])), (ot, .inr (1, [.ref qt, .int (nI nt), .int (pn_b bt)])), (qt, .inl (cI, 632, .inl qv)), (qa, .inl (cI, 632, .inl u_95)), (ob, .inr (1, [.ref qb, .int (nI (n + 2)), .int (pn_b bb)])), (qb, .inl (cI, 632, .inl u_35))] := hD
        refine pw_ifb_eq (tgt := 117) hx hb d_D_splitByLong_98 (by decide) (fun h_98 => ?_) (fun h_98 => ?_)
        · skip
          have hcl : k1 ≤ pn_u (Dv (j + (n + 2))) := by have z := of_decide_eq_false h_98; omega
          have st := pn_div_ok (w0 := pn_V (pn_sh Dv j) (n + 2)) (w1 := pn_V (pn_sh u_95 j) (n + 2)) (top := pn_u (Dv (j + (n + 2)))) (c := k1) (f := Qg) (Vd := pn_V fb (n + 2) * 2 ^ (32 - pn_len (pn_u (fb (n + 1))))) (E := pn_E (n + 2)) (U := pn_V (pn_sh Dv j) (n + 3)) (pn_V_s _ _) (by rw [hno.1] at hV1; exact hV1) (pn_V_nonneg _ _) (by rw [← hno.1]; exact Int.le_of_lt (pn_V_lt _ _)) gs.2 hcl (pn_E_pos _)
          have hD2 : ∀ i, i < j → u_95 i = Dv i := fun i hi => hu1 i (Or.inl hi)
          have hQn : Qg < 4294967296 := by omega
          refine lv_aload_n hx hb d_D_splitByLong_117 rfl (lv_at hl 7 rfl) ?_
          refine pw_getN Fx hN hK hP fld_R 1 rfl 0 (by decide) kn_91 (v := .ref qt) rfl d_D_splitByLong_118 ?_
          refine lv_iload hx hb d_D_splitByLong_121 (lv_at hl 1 rfl) ?_
          refine lv_lload hx hb d_D_splitByLong_123 (lv_at hl 0 rfl) ?_
          refine pw_l2i hx hb d_D_splitByLong_125 ?_
          refine pw_iast Fx hK hP hD hS 2 0 (f := qv) rfl rfl (k := j) (by omega) (by decide) (w' := [(oa, .inr (1, [.ref qa, .int (nI na), .int (pn_b ba)])), (ot, .inr (1, [.ref qt, .int (nI nt), .int (pn_b bt)])), (qt, .inl (cI, 632, .inl (upd qv j (pn_I Qg)))), (qa, .inl (cI, 632, .inl u_95)), (ob, .inr (1, [.ref qb, .int (nI (n + 2)), .int (pn_b bb)])), (qb, .inl (cI, 632, .inl u_35))]) rfl d_D_splitByLong_126 (fun H locs hP hD hS => ?_)
          refine lv_iinc (v := pn_I ((j : Int) - 1)) (lv' := [(6, .int (pn_I ((j : Int) - 1))), (7, .long (pn_L Qg)), (5, .int (nI (32 - pn_len (pn_u (fb (n + 1)))))), (4, .int (nI (na - (n + 2)))), (3, .int (nI (n + 2))), (0, .ref oa), (1, .ref ob), (2, .ref ot)]) hx hb d_D_splitByLong_127 hl (k := 1) rfl (pn_dec' _) (by decide) rfl (fun ls hl => ?_)
          refine lv_goto (tgt := 42) hx hb d_D_splitByLong_130 (by decide) ?_
          exact ih42 j _ _ (by omega) (by omega) (by have z := pn_div_next (D2 := u_95) (f := Qg) hT hD2 st.1 hQ0 hQn; rw [show na - (n + 2) + 1 - j = na - (n + 2) + 1 - (j + 1) + 1 by omega]; exact z) st.2 _ _ _ (lv_sub hl [0, 2, 3, 4, 5, 6, 7] rfl) (hP.sub [0, 3, 4, 5, 1, 2] rfl) (hD.sub [0, 3, 4, 5, 1, 2] (by decide) rfl) hS
        · skip
          have hcl : pn_u (Dv (j + (n + 2))) < k1 := of_decide_eq_true h_98
          refine lv_aload_n hx hb d_D_splitByLong_101 rfl (lv_at hl 5 rfl) ?_
          refine pw_getN Fx hN hK hP fld_R 0 rfl 0 (by decide) kn_91 (v := .ref qa) rfl d_D_splitByLong_102 ?_
          refine lv_iload hx hb d_D_splitByLong_105 (lv_at hl 1 rfl) ?_
          refine lv_aload_n hx hb d_D_splitByLong_107 rfl (lv_at hl 6 rfl) ?_
          refine pn_bv (wr := [(oa, .inr (1, [.ref qa, .int (nI na), .int (pn_b ba)])), (ot, .inr (1, [.ref qt, .int (nI nt), .int (pn_b bt)])), (qt, .inl (cI, 632, .inl qv))]) [3, 4, 5] [0, 1, 2] hP hD hS hA (pn_rS [.ref qa, .int (nI j), .ref ob] [] Fx hK hN hP hD [3, 4, 5] rfl rfl (c_D_putBack l D cI cZ cB cJ _ qa u_95 ob qb u_35 (n + 2) bb j (by omega)) kw_495 cal_D_putBack stat_D_putBack ⟨by decide, by decide⟩ ⟨rfl, rfl⟩ rfl hl.1 (Nat.le_of_ble_eq_true rfl) d_D_splitByLong_108 ⟨Nat.zero_le _, Nat.zero_le _⟩) rfl rfl rfl (by decide) (fun u_108 H locs hw hP hD hS => ?_)
          obtain ⟨k2, hu2, hV2⟩ := hw
          have hP : va_P D pn_cl [(oa, .inr (1, [.ref qa, .int (nI na), .int (pn_b ba)])), (ot, .inr (1, [.ref qt, .int (nI nt), .int (pn_b bt)])), (qt, .inl (cI, 632, .inl qv)), (qa, .inl (cI, 632, .inl u_108)), (ob, .inr (1, [.ref qb, .int (nI (n + 2)), .int (pn_b bb)])), (qb, .inl (cI, 632, .inl u_35))] H := hP
          have hD : va_D A [(oa, .inr (1, [.ref qa, .int (nI na), .int (pn_b ba)])), (ot, .inr (1, [.ref qt, .int (nI nt), .int (pn_b bt)])), (qt, .inl (cI, 632, .inl qv)), (qa, .inl (cI, 632, .inl u_108)), (ob, .inr (1, [.ref qb, .int (nI (n + 2)), .int (pn_b bb)])), (qb, .inl (cI, 632, .inl u_35))] := hD
          have st := pn_div_back (w0 := pn_V (pn_sh Dv j) (n + 2)) (w1 := pn_V (pn_sh u_95 j) (n + 2)) (w2 := pn_V (pn_sh u_108 j) (n + 2)) (top := pn_u (Dv (j + (n + 2)))) (c := k1) (c2 := k2) (f := Qg) (Vd := pn_V fb (n + 2) * 2 ^ (32 - pn_len (pn_u (fb (n + 1))))) (E := pn_E (n + 2)) (U := pn_V (pn_sh Dv j) (n + 3)) (pn_V_s _ _) (by rw [hno.1] at hV1; exact hV1) (pn_V_lt _ _) (by rw [hno.1, Int.one_mul] at hV2; exact hV2) (pn_V_nonneg _ _) (pn_V_lt _ _) (by rw [← hno.1]; exact Int.le_of_lt (pn_V_lt _ _)) gs.1 hcl (pn_E_pos _)
          have hD2 : ∀ i, i < j → u_108 i = Dv i := fun i hi => by rw [hu2 i (Or.inl hi)]; exact hu1 i (Or.inl hi)
          have hQ5 : 0 ≤ Qg - 1 := by rcases (show Qg = 0 ∨ 1 ≤ Qg by omega) with z | z; (· exfalso; have a1 := st.1; have a2 := st.2; have a3 := pn_V_nonneg (pn_sh Dv j) (n + 3); rw [z] at a1; generalize pn_V fb (n + 2) * 2 ^ (32 - pn_len (pn_u (fb (n + 1)))) = VD at *; omega); (· omega)
          have hQn : Qg - 1 < 4294967296 := by omega
          refine lv_lload hx hb d_D_splitByLong_111 (lv_at hl 0 rfl) ?_
          refine lv_lconst (v := pn_L 1) hx hb d_D_splitByLong_113 (by decide) ?_
          refine pw_lsub hx hb d_D_splitByLong_114 ?_
          refine lv_lstore (lv' := [(7, .long (pn_L (Qg - 1))), (6, .int (nI j)), (5, .int (nI (32 - pn_len (pn_u (fb (n + 1)))))), (4, .int (nI (na - (n + 2)))), (3, .int (nI (n + 2))), (0, .ref oa), (1, .ref ob), (2, .ref ot)]) hx hb d_D_splitByLong_115 hl (by decide) rfl (fun ls hl => ?_)
          refine lv_aload_n hx hb d_D_splitByLong_117 rfl (lv_at hl 7 rfl) ?_
          refine pw_getN Fx hN hK hP fld_R 1 rfl 0 (by decide) kn_91 (v := .ref qt) rfl d_D_splitByLong_118 ?_
          refine lv_iload hx hb d_D_splitByLong_121 (lv_at hl 1 rfl) ?_
          refine lv_lload hx hb d_D_splitByLong_123 (lv_at hl 0 rfl) ?_
          refine pw_l2i hx hb d_D_splitByLong_125 ?_
          refine pw_iast Fx hK hP hD hS 2 0 (f := qv) rfl rfl (k := j) (by omega) (by decide) (w' := [(oa, .inr (1, [.ref qa, .int (nI na), .int (pn_b ba)])), (ot, .inr (1, [.ref qt, .int (nI nt), .int (pn_b bt)])), (qt, .inl (cI, 632, .inl (upd qv j (pn_I (Qg - 1))))), (qa, .inl (cI, 632, .inl u_108)), (ob, .inr (1, [.ref qb, .int (nI (n + 2)), .int (pn_b bb)])), (qb, .inl (cI, 632, .inl u_35))]) rfl d_D_splitByLong_126 (fun H locs hP hD hS => ?_)
          refine lv_iinc (v := pn_I ((j : Int) - 1)) (lv' := [(6, .int (pn_I ((j : Int) - 1))), (7, .long (pn_L (Qg - 1))), (5, .int (nI (32 - pn_len (pn_u (fb (n + 1)))))), (4, .int (nI (na - (n + 2)))), (3, .int (nI (n + 2))), (0, .ref oa), (1, .ref ob), (2, .ref ot)]) hx hb d_D_splitByLong_127 hl (k := 1) rfl (pn_dec' _) (by decide) rfl (fun ls hl => ?_)
          refine lv_goto (tgt := 42) hx hb d_D_splitByLong_130 (by decide) ?_
          exact ih42 j _ _ (by omega) (by omega) (by have z := pn_div_next (D2 := u_108) (f := Qg - 1) hT hD2 st.1 hQ5 hQn; rw [show na - (n + 2) + 1 - j = na - (n + 2) + 1 - (j + 1) + 1 by omega]; exact z) st.2 _ _ _ (lv_sub hl [0, 2, 3, 4, 5, 6, 7] rfl) (hP.sub [0, 3, 4, 5, 1, 2] rfl) (hD.sub [0, 3, 4, 5, 1, 2] (by decide) rfl) hS
  exact loop42 _ (na - (n + 2) + 1) u_29 ft (Nat.lt_succ_self _) (Nat.le_refl _) (by rw [Nat.sub_self, pn_V_0, Int.mul_zero, Int.mul_zero, Int.zero_add, show na - (n + 2) + 1 + (n + 2) = na + 1 by omega]; exact hVa1.symm) (pn_sl_start hnn hca1 hPb.2 hno.2 hno.1) _ _ _ hl (hP.sub [2, 3, 4, 5, 0, 1] rfl) (hD.sub [2, 3, 4, 5, 0, 1] (by decide) rfl) hS
