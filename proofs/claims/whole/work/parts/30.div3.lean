theorem pn_cmp_nonneg {x y : Int} : 0 ≤ pn_cmp x y ↔ y ≤ x := by
  unfold pn_cmp
  split
  · exact ⟨fun h => absurd h (by decide), fun h => by omega⟩
  · split
    · exact ⟨fun _ => by omega, fun _ => by decide⟩
    · exact ⟨fun _ => by omega, fun _ => by decide⟩
theorem pn_nz_le {f g : Nat → Int32} {n m : Nat} (hf : pn_nz f n) (h : pn_V f n ≤ pn_V g m) : n ≤ m := by
  rcases Nat.lt_or_ge m n with z | z
  · have := pn_V_fewer (f := g) hf z
    omega
  · exact z
theorem pn_V_pos {f : Nat → Int32} {n : Nat} (h : pn_nz f n) (h0 : 0 < n) : 0 < pn_V f n := by
  obtain ⟨k, rfl⟩ : ∃ k, n = k + 1 := ⟨n - 1, by omega⟩
  have h1 := pn_V_low h
  have h2 := pn_E_pos k
  omega

set_option maxHeartbeats 4000000 in
set_option maxRecDepth 100000 in
theorem c_D_split (l : Launch) (D : va_G) (cI cZ cB cJ : ClassId) (sz : Nat) (oa qa : Nat) (fa : Nat → Int32) (na : Nat) (ba : Bool) (ob qb : Nat) (fb : Nat → Int32) (nb : Nat) (bb : Bool) (ot qt : Nat) (ft : Nat → Int32) (nt : Nat) (bt : Bool) (hna : na ≤ 630) (hnb : nb ≤ 630) (hza : pn_nz fa na) (hzb : pn_nz fb nb) (hb0 : 0 < nb) : pn_Cv l D (pn_ty cI cZ cB cJ) y_D_split w_D_split ({ frames := 3, cells := 0, slots := 0, locals := 110 } : Room) [.ref oa, .ref ob, .ref ot] [(oa, .inr (1, [.ref qa, .int (nI na), .int (pn_b ba)])), (qa, .inl (cI, 632, .inl fa)), (ob, .inr (1, [.ref qb, .int (nI nb), .int (pn_b bb)])), (qb, .inl (cI, 632, .inl fb)), (ot, .inr (1, [.ref qt, .int (nI nt), .int (pn_b bt)])), (qt, .inl (cI, 632, .inl ft))] sz (S := ((Nat → Int32) × Nat) × ((Nat → Int32) × Nat × Bool) × ((Nat → Int32) × Nat)) (fun u => (u.1.2 ≤ 632 ∧ pn_nz u.1.1 u.1.2 ∧ pn_V u.1.1 u.1.2 = pn_V fa na % pn_V fb nb) ∧ (u.2.1.2.1 ≤ 632 ∧ pn_nz u.2.1.1 u.2.1.2.1 ∧ pn_V u.2.1.1 u.2.1.2.1 = pn_V fb nb) ∧ (u.2.2.2 ≤ 632 ∧ pn_nz u.2.2.1 u.2.2.2 ∧ pn_V u.2.2.1 u.2.2.2 = pn_V fa na / pn_V fb nb)) (fun u => [(oa, .inr (1, [.ref qa, .int (nI u.1.2), .int (pn_b false)])), (qa, .inl (cI, 632, .inl u.1.1)), (ob, .inr (1, [.ref qb, .int (nI u.2.1.2.1), .int (pn_b u.2.1.2.2)])), (qb, .inl (cI, 632, .inl u.2.1.1)), (ot, .inr (1, [.ref qt, .int (nI u.2.2.2), .int (pn_b false)])), (qt, .inl (cI, 632, .inl u.2.2.1))]) := by
  refine pn_start (by decide) (Nat.le_of_ble_eq_true rfl) ?_
  intro p e s m below meth c A Q ls hQ hAe Fx hr hlocks hN hK hP hD hS hA hl
  have hx := Fx.1
  have hb := Fx.2.1
  have hl : lv_has ls 5 [(0, .ref oa), (1, .ref ob), (2, .ref ot)] := hl
  have hVb := pn_V_pos hzb hb0
  have hVa := pn_V_nonneg fa na
  refine lv_aload_n hx hb d_D_split_0 rfl (lv_at hl 0 rfl) ?_
  refine lv_aload_n hx hb d_D_split_1 rfl (lv_at hl 1 rfl) ?_
  refine pn_bi (wr := [(ot, .inr (1, [.ref qt, .int (nI nt), .int (pn_b bt)])), (qt, .inl (cI, 632, .inl ft))]) [0, 1, 2, 3] [4, 5] hP hD hS hA (pn_rVN [.ref ob] [] Fx hK hN hP hD [0, 1, 2, 3] rfl rfl (c_R_compareSize l D cI cZ cB cJ _ oa qa fa na ba ob qb fb nb bb (by omega) (by omega) hza hzb) kn_463 cal_R_compareSize inst_R_compareSize sel_R_compareSize ⟨by decide, by decide⟩ ⟨rfl, rfl⟩ 0 rfl rfl rfl rfl hl.1 (Nat.le_of_ble_eq_true rfl) d_D_split_2 ⟨Nat.zero_le _, Nat.zero_le _⟩) rfl rfl rfl (by decide) (fun r_2 u_2 H locs hw hP hD hS => ?_)
  obtain ⟨⟩ := u_2
  obtain rfl := hw
  have hP : va_P D pn_cl [(ot, .inr (1, [.ref qt, .int (nI nt), .int (pn_b bt)])), (qt, .inl (cI, 632, .inl ft)), (oa, .inr (1, [.ref qa, .int (nI na), .int (pn_b ba)])), (qa, .inl (cI, 632, .inl fa)), (ob, .inr (1, [.ref qb, .int (nI nb), .int (pn_b bb)])), (qb, .inl (cI, 632, .inl fb))] H := hP
  have hD : va_D A [(ot, .inr (1, [.ref qt, .int (nI nt), .int (pn_b bt)])), (qt, .inl (cI, 632, .inl ft)), (oa, .inr (1, [.ref qa, .int (nI na), .int (pn_b ba)])), (qa, .inl (cI, 632, .inl fa)), (ob, .inr (1, [.ref qb, .int (nI nb), .int (pn_b bb)])), (qb, .inl (cI, 632, .inl fb))] := hD
  refine lv_if_ge (tgt := 21) hx hb d_D_split_5 (by decide) (fun h_5 => ?_) (fun h_5 => ?_)
  · skip
    have hge := pn_cmp_nonneg.mp h_5
    refine lv_aload_n hx hb d_D_split_21 rfl (lv_at hl 1 rfl) ?_
    refine pw_getN Fx hN hK hP fld_R 4 rfl 1 (by decide) kn_95 (v := .int (nI nb)) rfl d_D_split_22 ?_
    refine lv_iconst (v := nI 1) hx hb d_D_split_25 (by decide) ?_
    refine pw_icmp_gt (a := nb) (b := 1) (tgt := 52) hx hb d_D_split_26 (by decide) (by omega) (by omega) (fun h_26 => ?_) (fun h_26 => ?_)
    · skip
      have hnn : nb ≤ na := pn_nz_le hzb hge
      obtain ⟨n, rfl⟩ : ∃ n, nb = n + 2 := ⟨nb - 2, by omega⟩
      refine lv_aload_n hx hb d_D_split_52 rfl (lv_at hl 0 rfl) ?_
      refine lv_aload_n hx hb d_D_split_53 rfl (lv_at hl 1 rfl) ?_
      refine lv_aload_n hx hb d_D_split_54 rfl (lv_at hl 2 rfl) ?_
      refine pn_bv (wr := []) [2, 3, 4, 5, 0, 1] [] hP hD hS hA (pn_rS [.ref oa, .ref ob, .ref ot] [] Fx hK hN hP hD [2, 3, 4, 5, 0, 1] rfl rfl (c_D_splitByLong l D cI cZ cB cJ _ oa qa fa na ba ob qb fb n bb ot qt ft nt bt hna hnn hzb) kw_478 cal_D_splitByLong stat_D_splitByLong ⟨by decide, by decide⟩ ⟨rfl, rfl⟩ rfl hl.1 (Nat.le_of_ble_eq_true rfl) d_D_split_55 ⟨Nat.zero_le _, Nat.zero_le _⟩) rfl rfl rfl (by decide) (fun u_55 H locs hw hP hD hS => ?_)
      obtain ⟨⟨g5, j5⟩, ⟨g6, j6⟩, ⟨g7, j7⟩⟩ := u_55
      have hP : va_P D pn_cl [(oa, .inr (1, [.ref qa, .int (nI j5), .int (pn_b false)])), (qa, .inl (cI, 632, .inl g5)), (ob, .inr (1, [.ref qb, .int (nI j6), .int (pn_b false)])), (qb, .inl (cI, 632, .inl g6)), (ot, .inr (1, [.ref qt, .int (nI j7), .int (pn_b false)])), (qt, .inl (cI, 632, .inl g7))] H := hP
      have hD : va_D A [(oa, .inr (1, [.ref qa, .int (nI j5), .int (pn_b false)])), (qa, .inl (cI, 632, .inl g5)), (ob, .inr (1, [.ref qb, .int (nI j6), .int (pn_b false)])), (qb, .inl (cI, 632, .inl g6)), (ot, .inr (1, [.ref qt, .int (nI j7), .int (pn_b false)])), (qt, .inl (cI, 632, .inl g7))] := hD
      exact pn_retv (((g5, j5), (g6, j6, false), (g7, j7))) Fx hr hlocks hQ hAe hP hD hS (by (try dsimp only); first | done | exact (hw)) d_D_split_58
    · skip
      have hn1 : nb = 1 := by omega
      have hd0 : 0 < pn_u (pn_cut fb nb 0) := by subst hn1; rw [pn_cut_lt (by omega)]; have z := pn_u_pos (hzb 0 rfl); omega
      have hd1 : pn_u (pn_cut fb nb 0) = pn_V fb nb := by subst hn1; rw [pn_cut_lt (by omega), pn_V_s, pn_V_0, pn_E_0]; omega
      refine lv_aload_n hx hb d_D_split_29 rfl (lv_at hl 2 rfl) ?_
      refine lv_aload_n hx hb d_D_split_30 rfl (lv_at hl 0 rfl) ?_
      refine pn_bv (wr := [(ob, .inr (1, [.ref qb, .int (nI nb), .int (pn_b bb)])), (qb, .inl (cI, 632, .inl fb))]) [0, 1, 2, 3] [4, 5] hP hD hS hA (pn_rVN [.ref oa] [] Fx hK hN hP hD [0, 1, 2, 3] rfl rfl (c_R_take l D cI cZ cB cJ _ ot qt ft nt bt oa qa fa na ba (by omega)) kn_465 cal_R_take inst_R_take sel_R_take ⟨by decide, by decide⟩ ⟨rfl, rfl⟩ 0 rfl rfl rfl rfl hl.1 (Nat.le_of_ble_eq_true rfl) d_D_split_31 ⟨Nat.zero_le _, Nat.zero_le _⟩) rfl rfl rfl (by decide) (fun u_31 H locs hw hP hD hS => ?_)
      have hP : va_P D pn_cl [(ob, .inr (1, [.ref qb, .int (nI nb), .int (pn_b bb)])), (qb, .inl (cI, 632, .inl fb)), (ot, .inr (1, [.ref qt, .int (nI na), .int (pn_b ba)])), (qt, .inl (cI, 632, .inl u_31)), (oa, .inr (1, [.ref qa, .int (nI na), .int (pn_b ba)])), (qa, .inl (cI, 632, .inl fa))] H := hP
      have hD : va_D A [(ob, .inr (1, [.ref qb, .int (nI nb), .int (pn_b bb)])), (qb, .inl (cI, 632, .inl fb)), (ot, .inr (1, [.ref qt, .int (nI na), .int (pn_b ba)])), (qt, .inl (cI, 632, .inl u_31)), (oa, .inr (1, [.ref qa, .int (nI na), .int (pn_b ba)])), (qa, .inl (cI, 632, .inl fa))] := hD
      have hVt : pn_V u_31 na = pn_V fa na := pn_V_congr hw
      refine lv_aload_n hx hb d_D_split_34 rfl (lv_at hl 2 rfl) ?_
      refine lv_aload_n hx hb d_D_split_35 rfl (lv_at hl 1 rfl) ?_
      refine lv_iconst (v := nI 0) hx hb d_D_split_36 (by decide) ?_
      refine pn_bl (wr := [(ot, .inr (1, [.ref qt, .int (nI na), .int (pn_b ba)])), (qt, .inl (cI, 632, .inl u_31)), (oa, .inr (1, [.ref qa, .int (nI na), .int (pn_b ba)])), (qa, .inl (cI, 632, .inl fa))]) [0, 1] [2, 3, 4, 5] hP hD hS hA (pn_rVN [.int (nI 0)] [.ref ot] Fx hK hN hP hD [0, 1] rfl rfl (c_R_limbAt l D cI cZ cB cJ _ ob qb fb nb 0 bb (by omega) (by omega)) kn_469 cal_R_limbAt inst_R_limbAt sel_R_limbAt ⟨by decide, by decide⟩ ⟨rfl, rfl⟩ 0 rfl rfl rfl rfl hl.1 (Nat.le_of_ble_eq_true rfl) d_D_split_37 ⟨Nat.zero_le _, Nat.zero_le _⟩) rfl rfl rfl (by decide) (fun r_37 u_37 H locs hw hP hD hS => ?_)
      obtain ⟨⟩ := u_37
      obtain rfl := hw
      have hP : va_P D pn_cl [(ot, .inr (1, [.ref qt, .int (nI na), .int (pn_b ba)])), (qt, .inl (cI, 632, .inl u_31)), (oa, .inr (1, [.ref qa, .int (nI na), .int (pn_b ba)])), (qa, .inl (cI, 632, .inl fa)), (ob, .inr (1, [.ref qb, .int (nI nb), .int (pn_b bb)])), (qb, .inl (cI, 632, .inl fb))] H := hP
      have hD : va_D A [(ot, .inr (1, [.ref qt, .int (nI na), .int (pn_b ba)])), (qt, .inl (cI, 632, .inl u_31)), (oa, .inr (1, [.ref qa, .int (nI na), .int (pn_b ba)])), (qa, .inl (cI, 632, .inl fa)), (ob, .inr (1, [.ref qb, .int (nI nb), .int (pn_b bb)])), (qb, .inl (cI, 632, .inl fb))] := hD
      refine pn_bl (wr := [(oa, .inr (1, [.ref qa, .int (nI na), .int (pn_b ba)])), (qa, .inl (cI, 632, .inl fa)), (ob, .inr (1, [.ref qb, .int (nI nb), .int (pn_b bb)])), (qb, .inl (cI, 632, .inl fb))]) [0, 1] [2, 3, 4, 5] hP hD hS hA (pn_rVN [.long (pn_L (pn_u (pn_cut fb nb 0)))] [] Fx hK hN hP hD [0, 1] rfl rfl (c_R_shrink l D cI cZ cB cJ _ ot qt u_31 na ba (pn_u (pn_cut fb nb 0)) (by omega) hd0 (pn_u_lt _)) kn_470 cal_R_shrink inst_R_shrink sel_R_shrink ⟨by decide, by decide⟩ ⟨rfl, rfl⟩ 0 rfl rfl rfl rfl hl.1 (Nat.le_of_ble_eq_true rfl) d_D_split_40 ⟨Nat.zero_le _, Nat.zero_le _⟩) rfl rfl rfl (by decide) (fun r_40 u_40 H locs hw hP hD hS => ?_)
      obtain ⟨g2, j2⟩ := u_40
      obtain ⟨rfl, hj2, hV2, hz2⟩ := hw
      have hP : va_P D pn_cl [(oa, .inr (1, [.ref qa, .int (nI na), .int (pn_b ba)])), (qa, .inl (cI, 632, .inl fa)), (ob, .inr (1, [.ref qb, .int (nI nb), .int (pn_b bb)])), (qb, .inl (cI, 632, .inl fb)), (ot, .inr (1, [.ref qt, .int (nI j2), .int (pn_b false)])), (qt, .inl (cI, 632, .inl g2))] H := hP
      have hD : va_D A [(oa, .inr (1, [.ref qa, .int (nI na), .int (pn_b ba)])), (qa, .inl (cI, 632, .inl fa)), (ob, .inr (1, [.ref qb, .int (nI nb), .int (pn_b bb)])), (qb, .inl (cI, 632, .inl fb)), (ot, .inr (1, [.ref qt, .int (nI j2), .int (pn_b false)])), (qt, .inl (cI, 632, .inl g2))] := hD
      have m0 := Int.emod_nonneg (pn_V u_31 na) (show pn_u (pn_cut fb nb 0) ≠ 0 by omega)
      have m1 := Int.emod_lt_of_pos (pn_V u_31 na) hd0
      have m2 := pn_u_lt (pn_cut fb nb 0)
      refine lv_lstore_n (lv' := [(3, .long (pn_L (pn_V u_31 na % pn_u (pn_cut fb nb 0)))), (0, .ref oa), (1, .ref ob), (2, .ref ot)]) hx hb d_D_split_43 rfl hl (by decide) rfl (fun ls hl => ?_)
      refine lv_aload_n hx hb d_D_split_44 rfl (lv_at hl 1 rfl) ?_
      refine lv_lload_n hx hb d_D_split_45 rfl (lv_at hl 0 rfl) ?_
      refine pn_bv (wr := [(ob, .inr (1, [.ref qb, .int (nI nb), .int (pn_b bb)])), (qb, .inl (cI, 632, .inl fb)), (ot, .inr (1, [.ref qt, .int (nI j2), .int (pn_b false)])), (qt, .inl (cI, 632, .inl g2))]) [0, 1] [2, 3, 4, 5] hP hD hS hA (pn_rVN [.long (pn_L (pn_V u_31 na % pn_u (pn_cut fb nb 0)))] [] Fx hK hN hP hD [0, 1] rfl rfl (c_R_become l D cI cZ cB cJ _ oa qa fa na ba (pn_V u_31 na % pn_u (pn_cut fb nb 0)) (by omega) (by omega)) kn_477 cal_R_become inst_R_become sel_R_become ⟨by decide, by decide⟩ ⟨rfl, rfl⟩ 0 rfl rfl rfl rfl hl.1 (Nat.le_of_ble_eq_true rfl) d_D_split_46 ⟨Nat.zero_le _, Nat.zero_le _⟩) rfl rfl rfl (by decide) (fun u_46 H locs hw hP hD hS => ?_)
      obtain ⟨g3, j3, b3⟩ := u_46
      obtain ⟨hj3, hV3, hz3, hb3⟩ := hw
      have hP : va_P D pn_cl [(ob, .inr (1, [.ref qb, .int (nI nb), .int (pn_b bb)])), (qb, .inl (cI, 632, .inl fb)), (ot, .inr (1, [.ref qt, .int (nI j2), .int (pn_b false)])), (qt, .inl (cI, 632, .inl g2)), (oa, .inr (1, [.ref qa, .int (nI j3), .int (pn_b b3)])), (qa, .inl (cI, 632, .inl g3))] H := hP
      have hD : va_D A [(ob, .inr (1, [.ref qb, .int (nI nb), .int (pn_b bb)])), (qb, .inl (cI, 632, .inl fb)), (ot, .inr (1, [.ref qt, .int (nI j2), .int (pn_b false)])), (qt, .inl (cI, 632, .inl g2)), (oa, .inr (1, [.ref qa, .int (nI j3), .int (pn_b b3)])), (qa, .inl (cI, 632, .inl g3))] := hD
      dsimp only at hj3 hV3 hz3 hb3
      rw [decide_eq_false (by omega)] at hb3
      subst hb3
      refine lv_goto (tgt := 58) hx hb d_D_split_49 (by decide) ?_
      exact pn_retv (((g3, j3), (fb, nb, bb), (g2, j2))) Fx hr hlocks hQ hAe (hP.sub [4, 5, 0, 1, 2, 3] rfl) (hD.sub [4, 5, 0, 1, 2, 3] (by decide) rfl) hS (by (try dsimp only); first | done | exact (⟨⟨by omega, hz3, by rw [hV3, ← hd1, ← hVt]; omega⟩, ⟨by omega, hzb, rfl⟩, ⟨by omega, hz2, by rw [hV2, ← hd1, ← hVt]⟩⟩)) d_D_split_58
  · skip
    have hlt : pn_V fa na < pn_V fb nb := Int.not_le.mp (fun z => h_5 (pn_cmp_nonneg.mpr z))
    refine lv_aload_n hx hb d_D_split_8 rfl (lv_at hl 2 rfl) ?_
    refine lv_iconst (v := nI 0) hx hb d_D_split_9 (by decide) ?_
    refine pn_bv (wr := [(oa, .inr (1, [.ref qa, .int (nI na), .int (pn_b ba)])), (qa, .inl (cI, 632, .inl fa)), (ob, .inr (1, [.ref qb, .int (nI nb), .int (pn_b bb)])), (qb, .inl (cI, 632, .inl fb))]) [0, 1] [2, 3, 4, 5] hP hD hS hA (pn_rVN [.int (nI 0)] [] Fx hK hN hP hD [0, 1] rfl rfl (c_R_fit l D cI cZ cB cJ _ ot qt ft nt 0 bt (by omega)) kn_464 cal_R_fit inst_R_fit sel_R_fit ⟨by decide, by decide⟩ ⟨rfl, rfl⟩ 0 rfl rfl rfl rfl hl.1 (Nat.le_of_ble_eq_true rfl) d_D_split_10 ⟨Nat.zero_le _, Nat.zero_le _⟩) rfl rfl rfl (by decide) (fun u_10 H locs hw hP hD hS => ?_)
    obtain ⟨hj, hVj, hzj⟩ := hw
    have hP : va_P D pn_cl [(oa, .inr (1, [.ref qa, .int (nI na), .int (pn_b ba)])), (qa, .inl (cI, 632, .inl fa)), (ob, .inr (1, [.ref qb, .int (nI nb), .int (pn_b bb)])), (qb, .inl (cI, 632, .inl fb)), (ot, .inr (1, [.ref qt, .int (nI u_10), .int (pn_b false)])), (qt, .inl (cI, 632, .inl ft))] H := hP
    have hD : va_D A [(oa, .inr (1, [.ref qa, .int (nI na), .int (pn_b ba)])), (qa, .inl (cI, 632, .inl fa)), (ob, .inr (1, [.ref qb, .int (nI nb), .int (pn_b bb)])), (qb, .inl (cI, 632, .inl fb)), (ot, .inr (1, [.ref qt, .int (nI u_10), .int (pn_b false)])), (qt, .inl (cI, 632, .inl ft))] := hD
    refine lv_aload_n hx hb d_D_split_13 rfl (lv_at hl 0 rfl) ?_
    refine lv_iconst (v := nI 0) hx hb d_D_split_14 (by decide) ?_
    refine pn_topi (pn_b false) (by decide) ?_
    refine pw_putN Fx hN hK hP hD hS fld_R 0 rfl 2 (by decide) kn_101 rfl (pn_b_nar _) (pn_b_fit _) (Nat.le_of_ble_eq_true rfl) (w' := [(oa, .inr (1, [.ref qa, .int (nI na), .int (pn_b false)])), (qa, .inl (cI, 632, .inl fa)), (ob, .inr (1, [.ref qb, .int (nI nb), .int (pn_b bb)])), (qb, .inl (cI, 632, .inl fb)), (ot, .inr (1, [.ref qt, .int (nI u_10), .int (pn_b false)])), (qt, .inl (cI, 632, .inl ft))]) rfl d_D_split_15 (fun H locs hP hD hS => ?_)
    refine lv_goto (tgt := 58) hx hb d_D_split_18 (by decide) ?_
    exact pn_retv (((fa, na), (fb, nb, bb), (ft, u_10))) Fx hr hlocks hQ hAe hP hD hS (by (try dsimp only); first | done | exact (⟨⟨by omega, hza, (Int.emod_eq_of_lt hVa hlt).symm⟩, ⟨by omega, hzb, rfl⟩, ⟨by omega, hzj, by rw [hVj, pn_V_0]; exact (Int.ediv_eq_zero_of_lt hVa hlt).symm⟩⟩)) d_D_split_58
