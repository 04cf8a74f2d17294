theorem pn_bs_sum {ba bb v X : Bool} {A B : Int} (hX : X = (bb != v)) (h : ba = X) : pn_sg X (A + B) = pn_sg ba A + pn_sg (bb != v) B := by
  subst h; rw [← hX]; cases ba <;> simp only [pn_sg_f, pn_sg_t] <;> omega
theorem pn_bs_d1 {ba bb v X : Bool} {A B : Int} (hX : X = (bb != v)) (h : ba ≠ X) : pn_sg ba (A - B) = pn_sg ba A + pn_sg (bb != v) B := by
  rw [← hX]; cases ba <;> cases X <;> first | exact absurd rfl h | (simp only [pn_sg_f, pn_sg_t]; omega)
theorem pn_bs_d2 {ba bb v X : Bool} {A B : Int} (hX : X = (bb != v)) (h : ba ≠ X) : pn_sg X (B - A) = pn_sg ba A + pn_sg (bb != v) B := by
  rw [← hX]; cases ba <;> cases X <;> first | exact absurd rfl h | (simp only [pn_sg_f, pn_sg_t]; omega)

set_option maxHeartbeats 4000000 in
set_option maxRecDepth 100000 in
theorem c_R_becomeSum (l : Launch) (D : va_G) (cI cZ cB cJ : ClassId) (sz : Nat) (ot qt : Nat) (ft : Nat → Int32) (nt : Nat) (bt : Bool) (oa qa : Nat) (fa : Nat → Int32) (na : Nat) (ba : Bool) (ob qb : Nat) (fb : Nat → Int32) (nb : Nat) (bb : Bool) (v : Bool) (hna : na ≤ 631) (hnb : nb ≤ 631) (hza : pn_nz fa na) (hzb : pn_nz fb nb) : pn_Cv l D (pn_ty cI cZ cB cJ) y_R_becomeSum w_R_becomeSum ({ frames := 2, cells := 0, slots := 0, locals := 60 } : Room) [.ref ot, .ref oa, .ref ob, .int (pn_b v)] [(ot, .inr (1, [.ref qt, .int (nI nt), .int (pn_b bt)])), (qt, .inl (cI, 632, .inl ft)), (oa, .inr (1, [.ref qa, .int (nI na), .int (pn_b ba)])), (qa, .inl (cI, 632, .inl fa)), (ob, .inr (1, [.ref qb, .int (nI nb), .int (pn_b bb)])), (qb, .inl (cI, 632, .inl fb))] sz (S := (Nat → Int32) × Nat × Bool) (fun u => u.2.1 ≤ max na nb + 1 ∧ pn_nz u.1 u.2.1 ∧ pn_sg u.2.2 (pn_V u.1 u.2.1) = pn_sg ba (pn_V fa na) + pn_sg (bb != v) (pn_V fb nb) ∧ (u.2.2 = true → 0 < u.2.1)) (fun u => [(ot, .inr (1, [.ref qt, .int (nI u.2.1), .int (pn_b u.2.2)])), (qt, .inl (cI, 632, .inl u.1)), (oa, .inr (1, [.ref qa, .int (nI na), .int (pn_b ba)])), (qa, .inl (cI, 632, .inl fa)), (ob, .inr (1, [.ref qb, .int (nI nb), .int (pn_b bb)])), (qb, .inl (cI, 632, .inl fb))]) := by
  refine pn_start (by decide) (Nat.le_of_ble_eq_true rfl) ?_
  intro p e s m below meth c A Q ls hQ hAe Fx hr hlocks hN hK hP hD hS hA hl
  have hx := Fx.1
  have hb := Fx.2.1
  have hl : lv_has ls 5 [(0, .ref ot), (1, .ref oa), (2, .ref ob), (3, .int (pn_b v))] := hl
  refine lv_aload_n hx hb d_R_becomeSum_0 rfl (lv_at hl 2 rfl) ?_
  refine pw_get Fx hK hP fld_R 4 rfl 2 (by decide) kw_99 (v := .int (pn_b bb)) rfl d_R_becomeSum_1 ?_
  refine lv_iload_n hx hb d_R_becomeSum_4 rfl (lv_at hl 3 rfl) ?_
  refine pw_icmpb_eq (tgt := 12) hx hb d_R_becomeSum_5 (by decide) (fun h_5 => ?_) (fun h_5 => ?_)
  · skip
    have hX : false = (bb != v) := by rw [h_5]; simp
    refine lv_iconst (v := pn_b false) hx hb d_R_becomeSum_12 (by decide) ?_
    refine lv_istore (lv' := [(4, .int (pn_b false)), (0, .ref ot), (1, .ref oa), (2, .ref ob), (3, .int (pn_b v))]) hx hb d_R_becomeSum_13 hl (by decide) rfl (fun ls hl => ?_)
    refine lv_aload_n hx hb d_R_becomeSum_15 rfl (lv_at hl 2 rfl) ?_
    refine pw_get Fx hK hP fld_R 2 rfl 2 (by decide) kw_99 (v := .int (pn_b ba)) rfl d_R_becomeSum_16 ?_
    refine lv_iload hx hb d_R_becomeSum_19 (lv_at hl 0 rfl) ?_
    refine pw_icmpb_ne (tgt := 39) hx hb d_R_becomeSum_21 (by decide) (fun h_21 => ?_) (fun h_21 => ?_)
    · skip
      refine lv_aload_n hx hb d_R_becomeSum_39 rfl (lv_at hl 2 rfl) ?_
      refine lv_aload_n hx hb d_R_becomeSum_40 rfl (lv_at hl 3 rfl) ?_
      refine pn_bi (wr := [(ot, .inr (1, [.ref qt, .int (nI nt), .int (pn_b bt)])), (qt, .inl (cI, 632, .inl ft))]) [2, 3, 4, 5] [0, 1] hP hD hS hA (pn_rV [.ref ob] [] Fx hK hN hP hD [2, 3, 4, 5] rfl rfl (c_R_compareSize l D cI cZ cB cJ _ oa qa fa na ba ob qb fb nb bb (by omega) (by omega) hza hzb) kw_366 cal_R_compareSize inst_R_compareSize sel_R_compareSize ⟨by decide, by decide⟩ ⟨rfl, rfl⟩ 0 rfl rfl rfl rfl hl.1 (Nat.le_of_ble_eq_true rfl) d_R_becomeSum_41 ⟨Nat.zero_le _, Nat.zero_le _⟩) rfl rfl rfl (by decide) (fun r_41 u_41 H locs hw hP hD hS => ?_)
      obtain ⟨⟩ := u_41
      obtain rfl := hw
      have hP : va_P D pn_cl [(ot, .inr (1, [.ref qt, .int (nI nt), .int (pn_b bt)])), (qt, .inl (cI, 632, .inl ft)), (oa, .inr (1, [.ref qa, .int (nI na), .int (pn_b ba)])), (qa, .inl (cI, 632, .inl fa)), (ob, .inr (1, [.ref qb, .int (nI nb), .int (pn_b bb)])), (qb, .inl (cI, 632, .inl fb))] H := hP
      have hD : va_D A [(ot, .inr (1, [.ref qt, .int (nI nt), .int (pn_b bt)])), (qt, .inl (cI, 632, .inl ft)), (oa, .inr (1, [.ref qa, .int (nI na), .int (pn_b ba)])), (qa, .inl (cI, 632, .inl fa)), (ob, .inr (1, [.ref qb, .int (nI nb), .int (pn_b bb)])), (qb, .inl (cI, 632, .inl fb))] := hD
      refine lv_if_lt (tgt := 64) hx hb d_R_becomeSum_44 (by decide) (fun h_44 => ?_) (fun h_44 => ?_)
      · skip
        have hlt := pn_cmp_neg.mp h_44
        refine lv_aload_n hx hb d_R_becomeSum_64 rfl (lv_at hl 1 rfl) ?_
        refine lv_aload_n hx hb d_R_becomeSum_65 rfl (lv_at hl 3 rfl) ?_
        refine lv_aload_n hx hb d_R_becomeSum_66 rfl (lv_at hl 2 rfl) ?_
        refine pn_bv (wr := []) [0, 1, 4, 5, 2, 3] [] hP hD hS hA (pn_rV [.ref ob, .ref oa] [] Fx hK hN hP hD [0, 1, 4, 5, 2, 3] rfl rfl (c_R_becomeSizeDifference l D cI cZ cB cJ _ ot qt ft nt bt ob qb fb nb bb oa qa fa na ba (by omega) (by omega) hza (by omega)) kw_370 cal_R_becomeSizeDifference inst_R_becomeSizeDifference sel_R_becomeSizeDifference ⟨by decide, by decide⟩ ⟨rfl, rfl⟩ 0 rfl rfl rfl rfl hl.1 (Nat.le_of_ble_eq_true rfl) d_R_becomeSum_67 ⟨Nat.zero_le _, Nat.zero_le _⟩) rfl rfl rfl (by decide) (fun u_67 H locs hw hP hD hS => ?_)
        obtain ⟨g1, j1⟩ := u_67
        obtain ⟨hj1, hV1, hz1⟩ := hw
        have hP : va_P D pn_cl [(ot, .inr (1, [.ref qt, .int (nI j1), .int (pn_b false)])), (qt, .inl (cI, 632, .inl g1)), (ob, .inr (1, [.ref qb, .int (nI nb), .int (pn_b bb)])), (qb, .inl (cI, 632, .inl fb)), (oa, .inr (1, [.ref qa, .int (nI na), .int (pn_b ba)])), (qa, .inl (cI, 632, .inl fa))] H := hP
        have hD : va_D A [(ot, .inr (1, [.ref qt, .int (nI j1), .int (pn_b false)])), (qt, .inl (cI, 632, .inl g1)), (ob, .inr (1, [.ref qb, .int (nI nb), .int (pn_b bb)])), (qb, .inl (cI, 632, .inl fb)), (oa, .inr (1, [.ref qa, .int (nI na), .int (pn_b ba)])), (qa, .inl (cI, 632, .inl fa))] := hD
        refine lv_aload_n hx hb d_R_becomeSum_70 rfl (lv_at hl 1 rfl) ?_
        refine lv_iload hx hb d_R_becomeSum_71 (lv_at hl 0 rfl) ?_
        refine pn_bv (wr := [(ob, .inr (1, [.ref qb, .int (nI nb), .int (pn_b bb)])), (qb, .inl (cI, 632, .inl fb)), (oa, .inr (1, [.ref qa, .int (nI na), .int (pn_b ba)])), (qa, .inl (cI, 632, .inl fa))]) [0, 1] [2, 3, 4, 5] hP hD hS hA (pn_rV [.int (pn_b false)] [] Fx hK hN hP hD [0, 1] rfl rfl (c_R_turnBelowIf l D cI cZ cB cJ _ ot qt g1 j1 false false (by omega)) kw_294 cal_R_turnBelowIf inst_R_turnBelowIf sel_R_turnBelowIf ⟨by decide, by decide⟩ ⟨rfl, rfl⟩ 0 rfl rfl rfl rfl hl.1 (Nat.le_of_ble_eq_true rfl) d_R_becomeSum_73 ⟨Nat.zero_le _, Nat.zero_le _⟩) rfl rfl rfl (by decide) (fun u_73 H locs hw hP hD hS => ?_)
        have hP : va_P D pn_cl [(ob, .inr (1, [.ref qb, .int (nI nb), .int (pn_b bb)])), (qb, .inl (cI, 632, .inl fb)), (oa, .inr (1, [.ref qa, .int (nI na), .int (pn_b ba)])), (qa, .inl (cI, 632, .inl fa)), (ot, .inr (1, [.ref qt, .int (nI j1), .int (pn_b u_73)])), (qt, .inl (cI, 632, .inl g1))] H := hP
        have hD : va_D A [(ob, .inr (1, [.ref qb, .int (nI nb), .int (pn_b bb)])), (qb, .inl (cI, 632, .inl fb)), (oa, .inr (1, [.ref qa, .int (nI na), .int (pn_b ba)])), (qa, .inl (cI, 632, .inl fa)), (ot, .inr (1, [.ref qt, .int (nI j1), .int (pn_b u_73)])), (qt, .inl (cI, 632, .inl g1))] := hD
        have hs := pn_sg_fix (f := g1) hw
        have hfin : pn_sg u_73 (pn_V g1 j1) = pn_sg ba (pn_V fa na) + pn_sg (bb != v) (pn_V fb nb) := by rw [hs.1, hV1]; exact pn_bs_d2 hX h_21
        exact pn_retv ((g1, j1, u_73)) Fx hr hlocks hQ hAe (hP.sub [4, 5, 2, 3, 0, 1] rfl) (hD.sub [4, 5, 2, 3, 0, 1] (by decide) rfl) hS (by (try dsimp only); first | done | exact (⟨by omega, hz1, hfin, hs.2⟩)) d_R_becomeSum_76
      · skip
        have hge : pn_V fb nb ≤ pn_V fa na := Int.not_lt.mp (fun z => h_44 (pn_cmp_neg.mpr z))
        refine lv_aload_n hx hb d_R_becomeSum_47 rfl (lv_at hl 1 rfl) ?_
        refine lv_aload_n hx hb d_R_becomeSum_48 rfl (lv_at hl 2 rfl) ?_
        refine lv_aload_n hx hb d_R_becomeSum_49 rfl (lv_at hl 3 rfl) ?_
        refine pn_bv (wr := []) [0, 1, 2, 3, 4, 5] [] hP hD hS hA (pn_rV [.ref oa, .ref ob] [] Fx hK hN hP hD [0, 1, 2, 3, 4, 5] rfl rfl (c_R_becomeSizeDifference l D cI cZ cB cJ _ ot qt ft nt bt oa qa fa na ba ob qb fb nb bb (by omega) (by omega) hzb hge) kw_370 cal_R_becomeSizeDifference inst_R_becomeSizeDifference sel_R_becomeSizeDifference ⟨by decide, by decide⟩ ⟨rfl, rfl⟩ 0 rfl rfl rfl rfl hl.1 (Nat.le_of_ble_eq_true rfl) d_R_becomeSum_50 ⟨Nat.zero_le _, Nat.zero_le _⟩) rfl rfl rfl (by decide) (fun u_50 H locs hw hP hD hS => ?_)
        obtain ⟨g1, j1⟩ := u_50
        obtain ⟨hj1, hV1, hz1⟩ := hw
        have hP : va_P D pn_cl [(ot, .inr (1, [.ref qt, .int (nI j1), .int (pn_b false)])), (qt, .inl (cI, 632, .inl g1)), (oa, .inr (1, [.ref qa, .int (nI na), .int (pn_b ba)])), (qa, .inl (cI, 632, .inl fa)), (ob, .inr (1, [.ref qb, .int (nI nb), .int (pn_b bb)])), (qb, .inl (cI, 632, .inl fb))] H := hP
        have hD : va_D A [(ot, .inr (1, [.ref qt, .int (nI j1), .int (pn_b false)])), (qt, .inl (cI, 632, .inl g1)), (oa, .inr (1, [.ref qa, .int (nI na), .int (pn_b ba)])), (qa, .inl (cI, 632, .inl fa)), (ob, .inr (1, [.ref qb, .int (nI nb), .int (pn_b bb)])), (qb, .inl (cI, 632, .inl fb))] := hD
        refine lv_aload_n hx hb d_R_becomeSum_53 rfl (lv_at hl 1 rfl) ?_
        refine lv_aload_n hx hb d_R_becomeSum_54 rfl (lv_at hl 2 rfl) ?_
        refine pw_get Fx hK hP fld_R 2 rfl 2 (by decide) kw_99 (v := .int (pn_b ba)) rfl d_R_becomeSum_55 ?_
        refine pn_bv (wr := [(oa, .inr (1, [.ref qa, .int (nI na), .int (pn_b ba)])), (qa, .inl (cI, 632, .inl fa)), (ob, .inr (1, [.ref qb, .int (nI nb), .int (pn_b bb)])), (qb, .inl (cI, 632, .inl fb))]) [0, 1] [2, 3, 4, 5] hP hD hS hA (pn_rV [.int (pn_b ba)] [] Fx hK hN hP hD [0, 1] rfl rfl (c_R_turnBelowIf l D cI cZ cB cJ _ ot qt g1 j1 false ba (by omega)) kw_294 cal_R_turnBelowIf inst_R_turnBelowIf sel_R_turnBelowIf ⟨by decide, by decide⟩ ⟨rfl, rfl⟩ 0 rfl rfl rfl rfl hl.1 (Nat.le_of_ble_eq_true rfl) d_R_becomeSum_58 ⟨Nat.zero_le _, Nat.zero_le _⟩) rfl rfl rfl (by decide) (fun u_58 H locs hw hP hD hS => ?_)
        have hP : va_P D pn_cl [(oa, .inr (1, [.ref qa, .int (nI na), .int (pn_b ba)])), (qa, .inl (cI, 632, .inl fa)), (ob, .inr (1, [.ref qb, .int (nI nb), .int (pn_b bb)])), (qb, .inl (cI, 632, .inl fb)), (ot, .inr (1, [.ref qt, .int (nI j1), .int (pn_b u_58)])), (qt, .inl (cI, 632, .inl g1))] H := hP
        have hD : va_D A [(oa, .inr (1, [.ref qa, .int (nI na), .int (pn_b ba)])), (qa, .inl (cI, 632, .inl fa)), (ob, .inr (1, [.ref qb, .int (nI nb), .int (pn_b bb)])), (qb, .inl (cI, 632, .inl fb)), (ot, .inr (1, [.ref qt, .int (nI j1), .int (pn_b u_58)])), (qt, .inl (cI, 632, .inl g1))] := hD
        have hs := pn_sg_fix (f := g1) hw
        have hfin : pn_sg u_58 (pn_V g1 j1) = pn_sg ba (pn_V fa na) + pn_sg (bb != v) (pn_V fb nb) := by rw [hs.1, hV1]; exact pn_bs_d1 hX h_21
        refine lv_goto (tgt := 76) hx hb d_R_becomeSum_61 (by decide) ?_
        exact pn_retv ((g1, j1, u_58)) Fx hr hlocks hQ hAe (hP.sub [4, 5, 0, 1, 2, 3] rfl) (hD.sub [4, 5, 0, 1, 2, 3] (by decide) rfl) hS (by (try dsimp only); first | done | exact (⟨by omega, hz1, hfin, hs.2⟩)) d_R_becomeSum_76
    · skip
      refine lv_aload_n hx hb d_R_becomeSum_24 rfl (lv_at hl 1 rfl) ?_
      refine lv_aload_n hx hb d_R_becomeSum_25 rfl (lv_at hl 2 rfl) ?_
      refine lv_aload_n hx hb d_R_becomeSum_26 rfl (lv_at hl 3 rfl) ?_
      refine pn_bv (wr := []) [0, 1, 2, 3, 4, 5] [] hP hD hS hA (pn_rV [.ref oa, .ref ob] [] Fx hK hN hP hD [0, 1, 2, 3, 4, 5] rfl rfl (c_R_becomeSizeSum l D cI cZ cB cJ _ ot qt ft nt bt oa qa fa na ba ob qb fb nb bb hna hnb) kw_354 cal_R_becomeSizeSum inst_R_becomeSizeSum sel_R_becomeSizeSum ⟨by decide, by decide⟩ ⟨rfl, rfl⟩ 0 rfl rfl rfl rfl hl.1 (Nat.le_of_ble_eq_true rfl) d_R_becomeSum_27 ⟨Nat.zero_le _, Nat.zero_le _⟩) rfl rfl rfl (by decide) (fun u_27 H locs hw hP hD hS => ?_)
      obtain ⟨g1, j1⟩ := u_27
      obtain ⟨hj1, hV1, hz1⟩ := hw
      have hP : va_P D pn_cl [(ot, .inr (1, [.ref qt, .int (nI j1), .int (pn_b false)])), (qt, .inl (cI, 632, .inl g1)), (oa, .inr (1, [.ref qa, .int (nI na), .int (pn_b ba)])), (qa, .inl (cI, 632, .inl fa)), (ob, .inr (1, [.ref qb, .int (nI nb), .int (pn_b bb)])), (qb, .inl (cI, 632, .inl fb))] H := hP
      have hD : va_D A [(ot, .inr (1, [.ref qt, .int (nI j1), .int (pn_b false)])), (qt, .inl (cI, 632, .inl g1)), (oa, .inr (1, [.ref qa, .int (nI na), .int (pn_b ba)])), (qa, .inl (cI, 632, .inl fa)), (ob, .inr (1, [.ref qb, .int (nI nb), .int (pn_b bb)])), (qb, .inl (cI, 632, .inl fb))] := hD
      refine lv_aload_n hx hb d_R_becomeSum_30 rfl (lv_at hl 1 rfl) ?_
      refine lv_iload hx hb d_R_becomeSum_31 (lv_at hl 0 rfl) ?_
      refine pn_bv (wr := [(oa, .inr (1, [.ref qa, .int (nI na), .int (pn_b ba)])), (qa, .inl (cI, 632, .inl fa)), (ob, .inr (1, [.ref qb, .int (nI nb), .int (pn_b bb)])), (qb, .inl (cI, 632, .inl fb))]) [0, 1] [2, 3, 4, 5] hP hD hS hA (pn_rV [.int (pn_b false)] [] Fx hK hN hP hD [0, 1] rfl rfl (c_R_turnBelowIf l D cI cZ cB cJ _ ot qt g1 j1 false false (by omega)) kw_294 cal_R_turnBelowIf inst_R_turnBelowIf sel_R_turnBelowIf ⟨by decide, by decide⟩ ⟨rfl, rfl⟩ 0 rfl rfl rfl rfl hl.1 (Nat.le_of_ble_eq_true rfl) d_R_becomeSum_33 ⟨Nat.zero_le _, Nat.zero_le _⟩) rfl rfl rfl (by decide) (fun u_33 H locs hw hP hD hS => ?_)
      have hP : va_P D pn_cl [(oa, .inr (1, [.ref qa, .int (nI na), .int (pn_b ba)])), (qa, .inl (cI, 632, .inl fa)), (ob, .inr (1, [.ref qb, .int (nI nb), .int (pn_b bb)])), (qb, .inl (cI, 632, .inl fb)), (ot, .inr (1, [.ref qt, .int (nI j1), .int (pn_b u_33)])), (qt, .inl (cI, 632, .inl g1))] H := hP
      have hD : va_D A [(oa, .inr (1, [.ref qa, .int (nI na), .int (pn_b ba)])), (qa, .inl (cI, 632, .inl fa)), (ob, .inr (1, [.ref qb, .int (nI nb), .int (pn_b bb)])), (qb, .inl (cI, 632, .inl fb)), (ot, .inr (1, [.ref qt, .int (nI j1), .int (pn_b u_33)])), (qt, .inl (cI, 632, .inl g1))] := hD
      have hs := pn_sg_fix (f := g1) hw
      have hfin : pn_sg u_33 (pn_V g1 j1) = pn_sg ba (pn_V fa na) + pn_sg (bb != v) (pn_V fb nb) := by rw [hs.1, hV1]; exact pn_bs_sum hX h_21
      refine lv_goto (tgt := 76) hx hb d_R_becomeSum_36 (by decide) ?_
      exact pn_retv ((g1, j1, u_33)) Fx hr hlocks hQ hAe (hP.sub [4, 5, 0, 1, 2, 3] rfl) (hD.sub [4, 5, 0, 1, 2, 3] (by decide) rfl) hS (by (try dsimp only); first | done | exact (⟨by omega, hz1, hfin, hs.2⟩)) d_R_becomeSum_76
  · skip
    have hX : true = (bb != v) := by simp [h_5]
    refine lv_iconst (v := pn_b true) hx hb d_R_becomeSum_8 (by decide) ?_
    refine lv_goto (tgt := 13) hx hb d_R_becomeSum_9 (by decide) ?_
    refine lv_istore (lv' := [(4, .int (pn_b true)), (0, .ref ot), (1, .ref oa), (2, .ref ob), (3, .int (pn_b v))]) hx hb d_R_becomeSum_13 hl (by decide) rfl (fun ls hl => ?_)
    refine lv_aload_n hx hb d_R_becomeSum_15 rfl (lv_at hl 2 rfl) ?_
    refine pw_get Fx hK hP fld_R 2 rfl 2 (by decide) kw_99 (v := .int (pn_b ba)) rfl d_R_becomeSum_16 ?_
    refine lv_iload hx hb d_R_becomeSum_19 (lv_at hl 0 rfl) ?_
    refine pw_icmpb_ne (tgt := 39) hx hb d_R_becomeSum_21 (by decide) (fun h_21 => ?_) (fun h_21 => ?_)
    · skip
      refine lv_aload_n hx hb d_R_becomeSum_39 rfl (lv_at hl 2 rfl) ?_
      refine lv_aload_n hx hb d_R_becomeSum_40 rfl (lv_at hl 3 rfl) ?_
      refine pn_bi (wr := [(ot, .inr (1, [.ref qt, .int (nI nt), .int (pn_b bt)])), (qt, .inl (cI, 632, .inl ft))]) [2, 3, 4, 5] [0, 1] hP hD hS hA (pn_rV [.ref ob] [] Fx hK hN hP hD [2, 3, 4, 5] rfl rfl (c_R_compareSize l D cI cZ cB cJ _ oa qa fa na ba ob qb fb nb bb (by omega) (by omega) hza hzb) kw_366 cal_R_compareSize inst_R_compareSize sel_R_compareSize ⟨by decide, by decide⟩ ⟨rfl, rfl⟩ 0 rfl rfl rfl rfl hl.1 (Nat.le_of_ble_eq_true rfl) d_R_becomeSum_41 ⟨Nat.zero_le _, Nat.zero_le _⟩) rfl rfl rfl (by decide) (fun r_41 u_41 H locs hw hP hD hS => ?_)
      obtain ⟨⟩ := u_41
      obtain rfl := hw
      have hP : va_P D pn_cl [(ot, .inr (1, [.ref qt, .int (nI nt), .int (pn_b bt)])), (qt, .inl (cI, 632, .inl ft)), (oa, .inr (1, [.ref qa, .int (nI na), .int (pn_b ba)])), (qa, .inl (cI, 632, .inl fa)), (ob, .inr (1, [.ref qb, .int (nI nb), .int (pn_b bb)])), (qb, .inl (cI, 632, .inl fb))] H := hP
      have hD : va_D A [(ot, .inr (1, [.ref qt, .int (nI nt), .int (pn_b bt)])), (qt, .inl (cI, 632, .inl ft)), (oa, .inr (1, [.ref qa, .int (nI na), .int (pn_b ba)])), (qa, .inl (cI, 632, .inl fa)), (ob, .inr (1, [.ref qb, .int (nI nb), .int (pn_b bb)])), (qb, .inl (cI, 632, .inl fb))] := hD
      refine lv_if_lt (tgt := 64) hx hb d_R_becomeSum_44 (by decide) (fun h_44 => ?_) (fun h_44 => ?_)
      · skip
        have hlt := pn_cmp_neg.mp h_44
        refine lv_aload_n hx hb d_R_becomeSum_64 rfl (lv_at hl 1 rfl) ?_
        refine lv_aload_n hx hb d_R_becomeSum_65 rfl (lv_at hl 3 rfl) ?_
        refine lv_aload_n hx hb d_R_becomeSum_66 rfl (lv_at hl 2 rfl) ?_
        refine pn_bv (wr := []) [0, 1, 4, 5, 2, 3] [] hP hD hS hA (pn_rV [.ref ob, .ref oa] [] Fx hK hN hP hD [0, 1, 4, 5, 2, 3] rfl rfl (c_R_becomeSizeDifference l D cI cZ cB cJ _ ot qt ft nt bt ob qb fb nb bb oa qa fa na ba (by omega) (by omega) hza (by omega)) kw_370 cal_R_becomeSizeDifference inst_R_becomeSizeDifference sel_R_becomeSizeDifference ⟨by decide, by decide⟩ ⟨rfl, rfl⟩ 0 rfl rfl rfl rfl hl.1 (Nat.le_of_ble_eq_true rfl) d_R_becomeSum_67 ⟨Nat.zero_le _, Nat.zero_le _⟩) rfl rfl rfl (by decide) (fun u_67 H locs hw hP hD hS => ?_)
        obtain ⟨g1, j1⟩ := u_67
        obtain ⟨hj1, hV1, hz1⟩ := hw
        have hP : va_P D pn_cl [(ot, .inr (1, [.ref qt, .int (nI j1), .int (pn_b false)])), (qt, .inl (cI, 632, .inl g1)), (ob, .inr (1, [.ref qb, .int (nI nb), .int (pn_b bb)])), (qb, .inl (cI, 632, .inl fb)), (oa, .inr (1, [.ref qa, .int (nI na), .int (pn_b ba)])), (qa, .inl (cI, 632, .inl fa))] H := hP
        have hD : va_D A [(ot, .inr (1, [.ref qt, .int (nI j1), .int (pn_b false)])), (qt, .inl (cI, 632, .inl g1)), (ob, .inr (1, [.ref qb, .int (nI nb), .int (pn_b bb)])), (qb, .inl (cI, 632, .inl fb)), (oa, .inr (1, [.ref qa, .int (nI na), .int (pn_b ba)])), (qa, .inl (cI, 632, .inl fa))] := hD
        refine lv_aload_n hx hb d_R_becomeSum_70 rfl (lv_at hl 1 rfl) ?_
        refine lv_iload hx hb d_R_becomeSum_71 (lv_at hl 0 rfl) ?_
        refine pn_bv (wr := [(ob, .inr (1, [.ref qb, .int (nI nb), .int (pn_b bb)])), (qb, .inl (cI, 632, .inl fb)), (oa, .inr (1, [.ref qa, .int (nI na), .int (pn_b ba)])), (qa, .inl (cI, 632, .inl fa))]) [0, 1] [2, 3, 4, 5] hP hD hS hA (pn_rV [.int (pn_b true)] [] Fx hK hN hP hD [0, 1] rfl rfl (c_R_turnBelowIf l D cI cZ cB cJ _ ot qt g1 j1 false true (by omega)) kw_294 cal_R_turnBelowIf inst_R_turnBelowIf sel_R_turnBelowIf ⟨by decide, by decide⟩ ⟨rfl, rfl⟩ 0 rfl rfl rfl rfl hl.1 (Nat.le_of_ble_eq_true rfl) d_R_becomeSum_73 ⟨Nat.zero_le _, Nat.zero_le _⟩) rfl rfl rfl (by decide) (fun u_73 H locs hw hP hD hS => ?_)
        have hP : va_P D pn_cl [(ob, .inr (1, [.ref qb, .int (nI nb), .int (pn_b bb)])), (qb, .inl (cI, 632, .inl fb)), (oa, .inr (1, [.ref qa, .int (nI na), .int (pn_b ba)])), (qa, .inl (cI, 632, .inl fa)), (ot, .inr (1, [.ref qt, .int (nI j1), .int (pn_b u_73)])), (qt, .inl (cI, 632, .inl g1))] H := hP
        have hD : va_D A [(ob, .inr (1, [.ref qb, .int (nI nb), .int (pn_b bb)])), (qb, .inl (cI, 632, .inl fb)), (oa, .inr (1, [.ref qa, .int (nI na), .int (pn_b ba)])), (qa, .inl (cI, 632, .inl fa)), (ot, .inr (1, [.ref qt, .int (nI j1), .int (pn_b u_73)])), (qt, .inl (cI, 632, .inl g1))] := hD
        have hs := pn_sg_fix (f := g1) hw
        have hfin : pn_sg u_73 (pn_V g1 j1) = pn_sg ba (pn_V fa na) + pn_sg (bb != v) (pn_V fb nb) := by rw [hs.1, hV1]; exact pn_bs_d2 hX h_21
        exact pn_retv ((g1, j1, u_73)) Fx hr hlocks hQ hAe (hP.sub [4, 5, 2, 3, 0, 1] rfl) (hD.sub [4, 5, 2, 3, 0, 1] (by decide) rfl) hS (by (try dsimp only); first | done | exact (⟨by omega, hz1, hfin, hs.2⟩)) d_R_becomeSum_76
      · skip
        have hge : pn_V fb nb ≤ pn_V fa na := Int.not_lt.mp (fun z => h_44 (pn_cmp_neg.mpr z))
        refine lv_aload_n hx hb d_R_becomeSum_47 rfl (lv_at hl 1 rfl) ?_
        refine lv_aload_n hx hb d_R_becomeSum_48 rfl (lv_at hl 2 rfl) ?_
        refine lv_aload_n hx hb d_R_becomeSum_49 rfl (lv_at hl 3 rfl) ?_
        refine pn_bv (wr := []) [0, 1, 2, 3, 4, 5] [] hP hD hS hA (pn_rV [.ref oa, .ref ob] [] Fx hK hN hP hD [0, 1, 2, 3, 4, 5] rfl rfl (c_R_becomeSizeDifference l D cI cZ cB cJ _ ot qt ft nt bt oa qa fa na ba ob qb fb nb bb (by omega) (by omega) hzb hge) kw_370 cal_R_becomeSizeDifference inst_R_becomeSizeDifference sel_R_becomeSizeDifference ⟨by decide, by decide⟩ ⟨rfl, rfl⟩ 0 rfl rfl rfl rfl hl.1 (Nat.le_of_ble_eq_true rfl) d_R_becomeSum_50 ⟨Nat.zero_le _, Nat.zero_le _⟩) rfl rfl rfl (by decide) (fun u_50 H locs hw hP hD hS => ?_)
        obtain ⟨g1, j1⟩ := u_50
        obtain ⟨hj1, hV1, hz1⟩ := hw
        have hP : va_P D pn_cl [(ot, .inr (1, [.ref qt, .int (nI j1), .int (pn_b false)])), (qt, .inl (cI, 632, .inl g1)), (oa, .inr (1, [.ref qa, .int (nI na), .int (pn_b ba)])), (qa, .inl (cI, 632, .inl fa)), (ob, .inr (1, [.ref qb, .int (nI nb), .int (pn_b bb)])), (qb, .inl (cI, 632, .inl fb))] H := hP
        have hD : va_D A [(ot, .inr (1, [.ref qt, .int (nI j1), .int (pn_b false)])), (qt, .inl (cI, 632, .inl g1)), (oa, .inr (1, [.ref qa, .int (nI na), .int (pn_b ba)])), (qa, .inl (cI, 632, .inl fa)), (ob, .inr (1, [.ref qb, .int (nI nb), .int (pn_b bb)])), (qb, .inl (cI, 632, .inl fb))] := hD
        refine lv_aload_n hx hb d_R_becomeSum_53 rfl (lv_at hl 1 rfl) ?_
        refine lv_aload_n hx hb d_R_becomeSum_54 rfl (lv_at hl 2 rfl) ?_
        refine pw_get Fx hK hP fld_R 2 rfl 2 (by decide) kw_99 (v := .int (pn_b ba)) rfl d_R_becomeSum_55 ?_
        refine pn_bv (wr := [(oa, .inr (1, [.ref qa, .int (nI na), .int (pn_b ba)])), (qa, .inl (cI, 632, .inl fa)), (ob, .inr (1, [.ref qb, .int (nI nb), .int (pn_b bb)])), (qb, .inl (cI, 632, .inl fb))]) [0, 1] [2, 3, 4, 5] hP hD hS hA (pn_rV [.int (pn_b ba)] [] Fx hK hN hP hD [0, 1] rfl rfl (c_R_turnBelowIf l D cI cZ cB cJ _ ot qt g1 j1 false ba (by omega)) kw_294 cal_R_turnBelowIf inst_R_turnBelowIf sel_R_turnBelowIf ⟨by decide, by decide⟩ ⟨rfl, rfl⟩ 0 rfl rfl rfl rfl hl.1 (Nat.le_of_ble_eq_true rfl) d_R_becomeSum_58 ⟨Nat.zero_le _, Nat.zero_le _⟩) rfl rfl rfl (by decide) (fun u_58 H locs hw hP hD hS => ?_)
        have hP : va_P D pn_cl [(oa, .inr (1, [.ref qa, .int (nI na), .int (pn_b ba)])), (qa, .inl (cI, 632, .inl fa)), (ob, .inr (1, [.ref qb, .int (nI nb), .int (pn_b bb)])), (qb, .inl (cI, 632, .inl fb)), (ot, .inr (1, [.ref qt, .int (nI j1), .int (pn_b u_58)])), (qt, .inl (cI, 632, .inl g1))] H := hP
        have hD : va_D A [(oa, .inr (1, [.ref qa, .int (nI na), .int (pn_b ba)])), (qa, .inl (cI, 632, .inl fa)), (ob, .inr (1, [.ref qb, .int (nI nb), .int (pn_b bb)])), (qb, .inl (cI, 632, .inl fb)), (ot, .inr (1, [.ref qt, .int (nI j1), .int (pn_b u_58)])), (qt, .inl (cI, 632, .inl g1))] := hD
        have hs := pn_sg_fix (f := g1) hw
        have hfin : pn_sg u_58 (pn_V g1 j1) = pn_sg ba (pn_V fa na) + pn_sg (bb != v) (pn_V fb nb) := by rw [hs.1, hV1]; exact pn_bs_d1 hX h_21
        refine lv_goto (tgt := 76) hx hb d_R_becomeSum_61 (by decide) ?_
        exact pn_retv ((g1, j1, u_58)) Fx hr hlocks hQ hAe (hP.sub [4, 5, 0, 1, 2, 3] rfl) (hD.sub [4, 5, 0, 1, 2, 3] (by decide) rfl) hS (by (try dsimp only); first | done | exact (⟨by omega, hz1, hfin, hs.2⟩)) d_R_becomeSum_76
    · skip
      refine lv_aload_n hx hb d_R_becomeSum_24 rfl (lv_at hl 1 rfl) ?_
      refine lv_aload_n hx hb d_R_becomeSum_25 rfl (lv_at hl 2 rfl) ?_
      refine lv_aload_n hx hb d_R_becomeSum_26 rfl (lv_at hl 3 rfl) ?_
      refine pn_bv (wr := []) [0, 1, 2, 3, 4, 5] [] hP hD hS hA (pn_rV [.ref oa, .ref ob] [] Fx hK hN hP hD [0, 1, 2, 3, 4, 5] rfl rfl (c_R_becomeSizeSum l D cI cZ cB cJ _ ot qt ft nt bt oa qa fa na ba ob qb fb nb bb hna hnb) kw_354 cal_R_becomeSizeSum inst_R_becomeSizeSum sel_R_becomeSizeSum ⟨by decide, by decide⟩ ⟨rfl, rfl⟩ 0 rfl rfl rfl rfl hl.1 (Nat.le_of_ble_eq_true rfl) d_R_becomeSum_27 ⟨Nat.zero_le _, Nat.zero_le _⟩) rfl rfl rfl (by decide) (fun u_27 H locs hw hP hD hS => ?_)
      obtain ⟨g1, j1⟩ := u_27
      obtain ⟨hj1, hV1, hz1⟩ := hw
      have hP : va_P D pn_cl [(ot, .inr (1, [.ref qt, .int (nI j1), .int (pn_b false)])), (qt, .inl (cI, 632, .inl g1)), (oa, .inr (1, [.ref qa, .int (nI na), .int (pn_b ba)])), (qa, .inl (cI, 632, .inl fa)), (ob, .inr (1, [.ref qb, .int (nI nb), .int (pn_b bb)])), (qb, .inl (cI, 632, .inl fb))] H := hP
      have hD : va_D A [(ot, .inr (1, [.ref qt, .int (nI j1), .int (pn_b false)])), (qt, .inl (cI, 632, .inl g1)), (oa, .inr (1, [.ref qa, .int (nI na), .int (pn_b ba)])), (qa, .inl (cI, 632, .inl fa)), (ob, .inr (1, [.ref qb, .int (nI nb), .int (pn_b bb)])), (qb, .inl (cI, 632, .inl fb))] := hD
      refine lv_aload_n hx hb d_R_becomeSum_30 rfl (lv_at hl 1 rfl) ?_
      refine lv_iload hx hb d_R_becomeSum_31 (lv_at hl 0 rfl) ?_
      refine pn_bv (wr := [(oa, .inr (1, [.ref qa, .int (nI na), .int (pn_b ba)])), (qa, .inl (cI, 632, .inl fa)), (ob, .inr (1, [.ref qb, .int (nI nb), .int (pn_b bb)])), (qb, .inl (cI, 632, .inl fb))]) [0, 1] [2, 3, 4, 5] hP hD hS hA (pn_rV [.int (pn_b true)] [] Fx hK hN hP hD [0, 1] rfl rfl (c_R_turnBelowIf l D cI cZ cB cJ _ ot qt g1 j1 false true (by omega)) kw_294 cal_R_turnBelowIf inst_R_turnBelowIf sel_R_turnBelowIf ⟨by decide, by decide⟩ ⟨rfl, rfl⟩ 0 rfl rfl rfl rfl hl.1 (Nat.le_of_ble_eq_true rfl) d_R_becomeSum_33 ⟨Nat.zero_le _, Nat.zero_le _⟩) rfl rfl rfl (by decide) (fun u_33 H locs hw hP hD hS => ?_)
      have hP : va_P D pn_cl [(oa, .inr (1, [.ref qa, .int (nI na), .int (pn_b ba)])), (qa, .inl (cI, 632, .inl fa)), (ob, .inr (1, [.ref qb, .int (nI nb), .int (pn_b bb)])), (qb, .inl (cI, 632, .inl fb)), (ot, .inr (1, [.ref qt, .int (nI j1), .int (pn_b u_33)])), (qt, .inl (cI, 632, .inl g1))] H := hP
      have hD : va_D A [(oa, .inr (1, [.ref qa, .int (nI na), .int (pn_b ba)])), (qa, .inl (cI, 632, .inl fa)), (ob, .inr (1, [.ref qb, .int (nI nb), .int (pn_b bb)])), (qb, .inl (cI, 632, .inl fb)), (ot, .inr (1, [.ref qt, .int (nI j1), .int (pn_b u_33)])), (qt, .inl (cI, 632, .inl g1))] := hD
      have hs := pn_sg_fix (f := g1) hw
      have hfin : pn_sg u_33 (pn_V g1 j1) = pn_sg ba (pn_V fa na) + pn_sg (bb != v) (pn_V fb nb) := by rw [hs.1, hV1]; exact pn_bs_sum hX h_21
      refine lv_goto (tgt := 76) hx hb d_R_becomeSum_36 (by decide) ?_
      exact pn_retv ((g1, j1, u_33)) Fx hr hlocks hQ hAe (hP.sub [4, 5, 0, 1, 2, 3] rfl) (hD.sub [4, 5, 0, 1, 2, 3] (by decide) rfl) hS (by (try dsimp only); first | done | exact (⟨by omega, hz1, hfin, hs.2⟩)) d_R_becomeSum_76
