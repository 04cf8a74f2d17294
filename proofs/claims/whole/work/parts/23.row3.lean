theorem pn_sum_end {fa fb g : Nat → Int32} {na nb : Nat} {c : Int} (hc0 : 0 ≤ c) (hc : c ≤ 1) (hV : pn_V g (max na nb) + c * pn_E (max na nb) = pn_V (pn_cut fa na) (max na nb) + pn_V (pn_cut fb nb) (max na nb)) : pn_V (upd g (max na nb) (pn_I c)) (max na nb + 1) = pn_V fa na + pn_V fb nb := by
  rw [pn_V_cut (Nat.le_max_left na nb), pn_V_cut (Nat.le_max_right na nb)] at hV
  rw [pn_V_upS, pn_u_Ilt hc0 (by omega)]
  exact hV
theorem pn_diff_end {fa fb g : Nat → Int32} {na nb : Nat} {c : Int} (hz : pn_nz fb nb) (hge : pn_V fb nb ≤ pn_V fa na) (hV : pn_V g na + c * pn_E na = pn_V (pn_cut fa na) na - pn_V (pn_cut fb nb) na) : pn_V g na = pn_V fa na - pn_V fb nb := by
  have hn : nb ≤ na := by
    rcases Nat.lt_or_ge na nb with z | z
    · have := pn_V_fewer (f := fa) hz z
      omega
    · exact z
  rw [pn_V_cut (Nat.le_refl na), pn_V_cut hn] at hV
  have h1 := pn_V_lt fa na
  have h2 := pn_V_nonneg fb nb
  have h3 := pn_apart (a := pn_V g na) (b := pn_V fa na - pn_V fb nb) (x := c) (y := 0) (E := pn_E na) (pn_V_nonneg g na) (pn_V_lt g na) (by omega) (by omega) (by omega)
  exact h3.2

set_option maxHeartbeats 4000000 in
set_option maxRecDepth 100000 in
theorem c_R_becomeSizeSum (l : Launch) (D : va_G) (cI cZ cB cJ : ClassId) (sz : Nat) (ot qt : Nat) (ft : Nat → Int32) (nt : Nat) (bt : Bool) (oa qa : Nat) (fa : Nat → Int32) (na : Nat) (ba : Bool) (ob qb : Nat) (fb : Nat → Int32) (nb : Nat) (bb : Bool) (hna : na ≤ 631) (hnb : nb ≤ 631) : pn_Cv l D (pn_ty cI cZ cB cJ) y_R_becomeSizeSum w_R_becomeSizeSum ({ frames := 1, cells := 0, slots := 0, locals := 32 } : Room) [.ref ot, .ref oa, .ref ob] [(ot, .inr (1, [.ref qt, .int (nI nt), .int (pn_b bt)])), (qt, .inl (cI, 632, .inl ft)), (oa, .inr (1, [.ref qa, .int (nI na), .int (pn_b ba)])), (qa, .inl (cI, 632, .inl fa)), (ob, .inr (1, [.ref qb, .int (nI nb), .int (pn_b bb)])), (qb, .inl (cI, 632, .inl fb))] sz (S := (Nat → Int32) × Nat) (fun u => u.2 ≤ max na nb + 1 ∧ pn_V u.1 u.2 = pn_V fa na + pn_V fb nb ∧ pn_nz u.1 u.2) (fun u => [(ot, .inr (1, [.ref qt, .int (nI u.2), .int (pn_b false)])), (qt, .inl (cI, 632, .inl u.1)), (oa, .inr (1, [.ref qa, .int (nI na), .int (pn_b ba)])), (qa, .inl (cI, 632, .inl fa)), (ob, .inr (1, [.ref qb, .int (nI nb), .int (pn_b bb)])), (qb, .inl (cI, 632, .inl fb))]) := by
  refine pn_start (by decide) (Nat.le_of_ble_eq_true rfl) ?_
  intro p e s m below meth c A Q ls hQ hAe Fx hr hlocks hN hK hP hD hS hA hl
  have hx := Fx.1
  have hb := Fx.2.1
  have hl : lv_has ls 7 [(0, .ref ot), (1, .ref oa), (2, .ref ob)] := hl
  refine lv_aload_n hx hb d_R_becomeSizeSum_0 rfl (lv_at hl 1 rfl) ?_
  refine pw_get Fx hK hP fld_R 2 rfl 1 (by decide) kw_93 (v := .int (nI na)) rfl d_R_becomeSizeSum_1 ?_
  refine lv_aload_n hx hb d_R_becomeSizeSum_4 rfl (lv_at hl 2 rfl) ?_
  refine pw_get Fx hK hP fld_R 4 rfl 1 (by decide) kw_93 (v := .int (nI nb)) rfl d_R_becomeSizeSum_5 ?_
  refine pw_max Fx hl.1 kw_358 (a := na) (b := nb) (by omega) (by omega) (rest := []) (by decide) (Nat.le_of_ble_eq_true rfl) ⟨Nat.zero_le _, Nat.zero_le _⟩ d_R_becomeSizeSum_8 ?_
  refine lv_istore_n (lv' := [(3, .int (nI (max na nb))), (0, .ref ot), (1, .ref oa), (2, .ref ob)]) hx hb d_R_becomeSizeSum_11 rfl hl (by decide) rfl (fun ls hl => ?_)
  refine lv_lconst (v := pn_L 0) hx hb d_R_becomeSizeSum_12 (by decide) ?_
  refine lv_lstore (lv' := [(4, .long (pn_L 0)), (3, .int (nI (max na nb))), (0, .ref ot), (1, .ref oa), (2, .ref ob)]) hx hb d_R_becomeSizeSum_13 hl (by decide) rfl (fun ls hl => ?_)
  refine lv_iconst (v := nI 0) hx hb d_R_becomeSizeSum_15 (by decide) ?_
  refine lv_istore (lv' := [(6, .int (nI 0)), (4, .long (pn_L 0)), (3, .int (nI (max na nb))), (0, .ref ot), (1, .ref oa), (2, .ref ob)]) hx hb d_R_becomeSizeSum_16 hl (by decide) rfl (fun ls hl => ?_)
  have loop18 : ∀ (N : Nat) (i : Nat) (g : Nat → Int32) (c0 : Int), max na nb - i < N → (i ≤ max na nb) → (0 ≤ c0 ∧ c0 ≤ 1) → (pn_V g i + c0 * pn_E i = pn_V (pn_cut fa na) i + pn_V (pn_cut fb nb) i) → ∀ (H : Heap) (locs : List Loc) (ls : Array Slot), lv_has ls 7 [(6, .int (nI i)), (4, .long (pn_L c0)), (3, .int (nI (max na nb))), (0, .ref ot), (1, .ref oa), (2, .ref ob)] → va_P D pn_cl [(ot, .inr (1, [.ref qt, .int (nI nt), .int (pn_b bt)])), (qt, .inl (cI, 632, .inl g)), (oa, .inr (1, [.ref qa, .int (nI na), .int (pn_b ba)])), (qa, .inl (cI, 632, .inl fa)), (ob, .inr (1, [.ref qb, .int (nI nb), .int (pn_b bb)])), (qb, .inl (cI, 632, .inl fb))] H → va_D A [(ot, .inr (1, [.ref qt, .int (nI nt), .int (pn_b bt)])), (qt, .inl (cI, 632, .inl g)), (oa, .inr (1, [.ref qa, .int (nI na), .int (pn_b ba)])), (qa, .inl (cI, 632, .inl fa)), (ob, .inr (1, [.ref qb, .int (nI nb), .int (pn_b bb)])), (qb, .inl (cI, 632, .inl fb))] → va_S A s.heap H locs → W p l e ({ frames := 1, cells := 0, slots := 0, locals := 32 } : Room) s m ([.ref ot, .ref oa, .ref ob] : List Value).toArray below meth c H locs 0 0 Q (F0 m 18 ls []) := by
    intro N
    induction N with
    | zero => intro i g c0 hM; exact absurd hM (Nat.not_lt_zero _)
    | succ N ih18 =>
      intro i g c0 hM18 hi hc hV H locs ls hl hP hD hS
      refine lv_iload hx hb d_R_becomeSizeSum_18 (lv_at hl 0 rfl) ?_
      refine lv_iload_n hx hb d_R_becomeSizeSum_20 rfl (lv_at hl 2 rfl) ?_
      refine pw_icmp_ge (a := i) (b := max na nb) (tgt := 65) hx hb d_R_becomeSizeSum_21 (by decide) (by omega) (by omega) (fun h_21 => ?_) (fun h_21 => ?_)
      · skip
        obtain rfl : i = max na nb := by omega
        refine lv_aload_n hx hb d_R_becomeSizeSum_65 rfl (lv_at hl 3 rfl) ?_
        refine pw_get Fx hK hP fld_R 0 rfl 0 (by decide) kw_89 (v := .ref qt) rfl d_R_becomeSizeSum_66 ?_
        refine lv_iload_n hx hb d_R_becomeSizeSum_69 rfl (lv_at hl 2 rfl) ?_
        refine lv_lload hx hb d_R_becomeSizeSum_70 (lv_at hl 1 rfl) ?_
        refine pw_l2i hx hb d_R_becomeSizeSum_72 ?_
        refine pw_iast Fx hK hP hD hS 1 0 (f := g) rfl rfl (k := max na nb) (by omega) (by decide) (w' := [(ot, .inr (1, [.ref qt, .int (nI nt), .int (pn_b bt)])), (qt, .inl (cI, 632, .inl (upd g (max na nb) (pn_I c0)))), (oa, .inr (1, [.ref qa, .int (nI na), .int (pn_b ba)])), (qa, .inl (cI, 632, .inl fa)), (ob, .inr (1, [.ref qb, .int (nI nb), .int (pn_b bb)])), (qb, .inl (cI, 632, .inl fb))]) rfl d_R_becomeSizeSum_73 (fun H locs hP hD hS => ?_)
        refine lv_aload_n hx hb d_R_becomeSizeSum_74 rfl (lv_at hl 3 rfl) ?_
        refine lv_iload_n hx hb d_R_becomeSizeSum_75 rfl (lv_at hl 2 rfl) ?_
        refine lv_iconst (v := nI 1) hx hb d_R_becomeSizeSum_76 (by decide) ?_
        refine pw_iadd hx hb d_R_becomeSizeSum_77 ?_
        refine pn_bv (wr := [(oa, .inr (1, [.ref qa, .int (nI na), .int (pn_b ba)])), (qa, .inl (cI, 632, .inl fa)), (ob, .inr (1, [.ref qb, .int (nI nb), .int (pn_b bb)])), (qb, .inl (cI, 632, .inl fb))]) [0, 1] [2, 3, 4, 5] hP hD hS hA (pn_rV [.int (nI (max na nb + 1))] [] Fx hK hN hP hD [0, 1] rfl rfl (c_R_fit l D cI cZ cB cJ _ ot qt (upd g (max na nb) (pn_I c0)) nt (max na nb + 1) bt (by omega)) kw_226 cal_R_fit inst_R_fit sel_R_fit ⟨by decide, by decide⟩ ⟨rfl, rfl⟩ 0 rfl rfl rfl rfl hl.1 (Nat.le_of_ble_eq_true rfl) d_R_becomeSizeSum_78 ⟨Nat.zero_le _, Nat.zero_le _⟩) rfl rfl rfl (by decide) (fun u_78 H locs hw hP hD hS => ?_)
        obtain ⟨hj, hVj, hzj⟩ := hw
        have hP : va_P D pn_cl [(oa, .inr (1, [.ref qa, .int (nI na), .int (pn_b ba)])), (qa, .inl (cI, 632, .inl fa)), (ob, .inr (1, [.ref qb, .int (nI nb), .int (pn_b bb)])), (qb, .inl (cI, 632, .inl fb)), (ot, .inr (1, [.ref qt, .int (nI u_78), .int (pn_b false)])), (qt, .inl (cI, 632, .inl (upd g (max na nb) (pn_I c0))))] H := hP
        have hD : va_D A [(oa, .inr (1, [.ref qa, .int (nI na), .int (pn_b ba)])), (qa, .inl (cI, 632, .inl fa)), (ob, .inr (1, [.ref qb, .int (nI nb), .int (pn_b bb)])), (qb, .inl (cI, 632, .inl fb)), (ot, .inr (1, [.ref qt, .int (nI u_78), .int (pn_b false)])), (qt, .inl (cI, 632, .inl (upd g (max na nb) (pn_I c0))))] := hD
        exact pn_retv ((upd g (max na nb) (pn_I c0), u_78)) Fx hr hlocks hQ hAe (hP.sub [4, 5, 0, 1, 2, 3] rfl) (hD.sub [4, 5, 0, 1, 2, 3] (by decide) rfl) hS (⟨hj, by rw [hVj]; exact pn_sum_end hc.1 hc.2 hV, hzj⟩) d_R_becomeSizeSum_81
      · skip
        refine lv_lload hx hb d_R_becomeSizeSum_24 (lv_at hl 1 rfl) ?_
        refine lv_aload_n hx hb d_R_becomeSizeSum_26 rfl (lv_at hl 4 rfl) ?_
        refine lv_iload hx hb d_R_becomeSizeSum_27 (lv_at hl 0 rfl) ?_
        refine pn_bl (wr := [(ot, .inr (1, [.ref qt, .int (nI nt), .int (pn_b bt)])), (qt, .inl (cI, 632, .inl g)), (ob, .inr (1, [.ref qb, .int (nI nb), .int (pn_b bb)])), (qb, .inl (cI, 632, .inl fb))]) [2, 3] [0, 1, 4, 5] hP hD hS hA (pn_rV [.int (nI i)] [.long (pn_L c0)] Fx hK hN hP hD [2, 3] rfl rfl (c_R_limbAt l D cI cZ cB cJ _ oa qa fa na i ba (by omega) (by omega)) kw_361 cal_R_limbAt inst_R_limbAt sel_R_limbAt ⟨by decide, by decide⟩ ⟨rfl, rfl⟩ 0 rfl rfl rfl rfl hl.1 (Nat.le_of_ble_eq_true rfl) d_R_becomeSizeSum_29 ⟨Nat.zero_le _, Nat.zero_le _⟩) rfl rfl rfl (by decide) (fun r_29 u_29 H locs hw hP hD hS => ?_)
        obtain ⟨⟩ := u_29
        obtain rfl := hw
        have hP : va_P D pn_cl [(ot, .inr (1, [.ref qt, .int (nI nt), .int (pn_b bt)])), (qt, .inl (cI, 632, .inl g)), (ob, .inr (1, [.ref qb, .int (nI nb), .int (pn_b bb)])), (qb, .inl (cI, 632, .inl fb)), (oa, .inr (1, [.ref qa, .int (nI na), .int (pn_b ba)])), (qa, .inl (cI, 632, .inl fa))] H := hP
        have hD : va_D A [(ot, .inr (1, [.ref qt, .int (nI nt), .int (pn_b bt)])), (qt, .inl (cI, 632, .inl g)), (ob, .inr (1, [.ref qb, .int (nI nb), .int (pn_b bb)])), (qb, .inl (cI, 632, .inl fb)), (oa, .inr (1, [.ref qa, .int (nI na), .int (pn_b ba)])), (qa, .inl (cI, 632, .inl fa))] := hD
        refine lv_aload_n hx hb d_R_becomeSizeSum_32 rfl (lv_at hl 5 rfl) ?_
        refine lv_iload hx hb d_R_becomeSizeSum_33 (lv_at hl 0 rfl) ?_
        refine pn_bl (wr := [(ot, .inr (1, [.ref qt, .int (nI nt), .int (pn_b bt)])), (qt, .inl (cI, 632, .inl g)), (oa, .inr (1, [.ref qa, .int (nI na), .int (pn_b ba)])), (qa, .inl (cI, 632, .inl fa))]) [2, 3] [0, 1, 4, 5] hP hD hS hA (pn_rV [.int (nI i)] [.long (pn_L (pn_u (pn_cut fa na i))), .long (pn_L c0)] Fx hK hN hP hD [2, 3] rfl rfl (c_R_limbAt l D cI cZ cB cJ _ ob qb fb nb i bb (by omega) (by omega)) kw_361 cal_R_limbAt inst_R_limbAt sel_R_limbAt ⟨by decide, by decide⟩ ⟨rfl, rfl⟩ 0 rfl rfl rfl rfl hl.1 (Nat.le_of_ble_eq_true rfl) d_R_becomeSizeSum_35 ⟨Nat.zero_le _, Nat.zero_le _⟩) rfl rfl rfl (by decide) (fun r_35 u_35 H locs hw hP hD hS => ?_)
        obtain ⟨⟩ := u_35
        obtain rfl := hw
        have hP : va_P D pn_cl [(ot, .inr (1, [.ref qt, .int (nI nt), .int (pn_b bt)])), (qt, .inl (cI, 632, .inl g)), (oa, .inr (1, [.ref qa, .int (nI na), .int (pn_b ba)])), (qa, .inl (cI, 632, .inl fa)), (ob, .inr (1, [.ref qb, .int (nI nb), .int (pn_b bb)])), (qb, .inl (cI, 632, .inl fb))] H := hP
        have hD : va_D A [(ot, .inr (1, [.ref qt, .int (nI nt), .int (pn_b bt)])), (qt, .inl (cI, 632, .inl g)), (oa, .inr (1, [.ref qa, .int (nI na), .int (pn_b ba)])), (qa, .inl (cI, 632, .inl fa)), (ob, .inr (1, [.ref qb, .int (nI nb), .int (pn_b bb)])), (qb, .inl (cI, 632, .inl fb))] := hD
        refine pw_ladd hx hb d_R_becomeSizeSum_38 ?_
        have u1 := pn_u_lt (pn_cut fa na i)
        have u2 := pn_u_lt (pn_cut fb nb i)
        have u3 := pn_u_nonneg (pn_cut fa na i)
        have u4 := pn_u_nonneg (pn_cut fb nb i)
        obtain ⟨t, ht⟩ : ∃ t, t = c0 + (pn_u (pn_cut fa na i) + pn_u (pn_cut fb nb i)) := ⟨_, rfl⟩
        refine pw_ladd hx hb d_R_becomeSizeSum_39 ?_
        refine pn_topl (pn_L t) (by rw [ht]) ?_
        refine lv_lstore (lv' := [(4, .long (pn_L t)), (6, .int (nI i)), (3, .int (nI (max na nb))), (0, .ref ot), (1, .ref oa), (2, .ref ob)]) hx hb d_R_becomeSizeSum_40 hl (by decide) rfl (fun ls hl => ?_)
        refine lv_aload_n hx hb d_R_becomeSizeSum_42 rfl (lv_at hl 3 rfl) ?_
        refine pw_get Fx hK hP fld_R 0 rfl 0 (by decide) kw_89 (v := .ref qt) rfl d_R_becomeSizeSum_43 ?_
        refine lv_iload hx hb d_R_becomeSizeSum_46 (lv_at hl 1 rfl) ?_
        refine lv_lload hx hb d_R_becomeSizeSum_48 (lv_at hl 0 rfl) ?_
        refine pw_l2i hx hb d_R_becomeSizeSum_50 ?_
        refine pw_iast Fx hK hP hD hS 1 0 (f := g) rfl rfl (k := i) (by omega) (by decide) (w' := [(ot, .inr (1, [.ref qt, .int (nI nt), .int (pn_b bt)])), (qt, .inl (cI, 632, .inl (upd g i (pn_I t)))), (oa, .inr (1, [.ref qa, .int (nI na), .int (pn_b ba)])), (qa, .inl (cI, 632, .inl fa)), (ob, .inr (1, [.ref qb, .int (nI nb), .int (pn_b bb)])), (qb, .inl (cI, 632, .inl fb))]) rfl d_R_becomeSizeSum_51 (fun H locs hP hD hS => ?_)
        refine lv_lload hx hb d_R_becomeSizeSum_52 (lv_at hl 0 rfl) ?_
        refine lv_bipush (v := 32) hx hb d_R_becomeSizeSum_54 (by decide) ?_
        refine pw_lushr32 hx hb d_R_becomeSizeSum_56 (by omega) (by omega) ?_
        refine lv_lstore (lv' := [(4, .long (pn_L (t / 4294967296))), (6, .int (nI i)), (3, .int (nI (max na nb))), (0, .ref ot), (1, .ref oa), (2, .ref ob)]) hx hb d_R_becomeSizeSum_57 hl (by decide) rfl (fun ls hl => ?_)
        refine lv_iinc (v := nI (i + 1)) (lv' := [(6, .int (nI (i + 1))), (4, .long (pn_L (t / 4294967296))), (3, .int (nI (max na nb))), (0, .ref ot), (1, .ref oa), (2, .ref ob)]) hx hb d_R_becomeSizeSum_59 hl (k := 1) rfl (nI_add _ 1) (by decide) rfl (fun ls hl => ?_)
        refine lv_goto (tgt := 18) hx hb d_R_becomeSizeSum_62 (by decide) ?_
        exact ih18 (i + 1) _ (t / 4294967296) (by omega) (by omega) (by omega) (by rw [pn_put hV]; simp only [pn_V_s]; rw [ht]; grind) _ _ _ hl hP hD hS
  exact loop18 _ 0 ft 0 (Nat.lt_succ_self _) (Nat.zero_le _) (by decide) rfl _ _ _ hl hP hD hS

set_option maxHeartbeats 4000000 in
set_option maxRecDepth 100000 in
theorem c_R_becomeSizeSum2 (l : Launch) (D : va_G) (cI cZ cB cJ : ClassId) (sz : Nat) (ot qt : Nat) (ft : Nat → Int32) (nt : Nat) (bt : Bool) (oa qa : Nat) (fa : Nat → Int32) (na : Nat) (ba : Bool) (hna : na ≤ 631) : pn_Cv l D (pn_ty cI cZ cB cJ) y_R_becomeSizeSum w_R_becomeSizeSum ({ frames := 1, cells := 0, slots := 0, locals := 32 } : Room) [.ref ot, .ref oa, .ref oa] [(ot, .inr (1, [.ref qt, .int (nI nt), .int (pn_b bt)])), (qt, .inl (cI, 632, .inl ft)), (oa, .inr (1, [.ref qa, .int (nI na), .int (pn_b ba)])), (qa, .inl (cI, 632, .inl fa))] sz (S := (Nat → Int32) × Nat) (fun u => u.2 ≤ max na na + 1 ∧ pn_V u.1 u.2 = pn_V fa na + pn_V fa na ∧ pn_nz u.1 u.2) (fun u => [(ot, .inr (1, [.ref qt, .int (nI u.2), .int (pn_b false)])), (qt, .inl (cI, 632, .inl u.1)), (oa, .inr (1, [.ref qa, .int (nI na), .int (pn_b ba)])), (qa, .inl (cI, 632, .inl fa))]) := by
  refine pn_start (by decide) (Nat.le_of_ble_eq_true rfl) ?_
  intro p e s m below meth c A Q ls hQ hAe Fx hr hlocks hN hK hP hD hS hA hl
  have hx := Fx.1
  have hb := Fx.2.1
  have hl : lv_has ls 7 [(0, .ref ot), (1, .ref oa), (2, .ref oa)] := hl
  refine lv_aload_n hx hb d_R_becomeSizeSum_0 rfl (lv_at hl 1 rfl) ?_
  refine pw_get Fx hK hP fld_R 2 rfl 1 (by decide) kw_93 (v := .int (nI na)) rfl d_R_becomeSizeSum_1 ?_
  refine lv_aload_n hx hb d_R_becomeSizeSum_4 rfl (lv_at hl 2 rfl) ?_
  refine pw_get Fx hK hP fld_R 2 rfl 1 (by decide) kw_93 (v := .int (nI na)) rfl d_R_becomeSizeSum_5 ?_
  refine pw_max Fx hl.1 kw_358 (a := na) (b := na) (by omega) (by omega) (rest := []) (by decide) (Nat.le_of_ble_eq_true rfl) ⟨Nat.zero_le _, Nat.zero_le _⟩ d_R_becomeSizeSum_8 ?_
  refine lv_istore_n (lv' := [(3, .int (nI (max na na))), (0, .ref ot), (1, .ref oa), (2, .ref oa)]) hx hb d_R_becomeSizeSum_11 rfl hl (by decide) rfl (fun ls hl => ?_)
  refine lv_lconst (v := pn_L 0) hx hb d_R_becomeSizeSum_12 (by decide) ?_
  refine lv_lstore (lv' := [(4, .long (pn_L 0)), (3, .int (nI (max na na))), (0, .ref ot), (1, .ref oa), (2, .ref oa)]) hx hb d_R_becomeSizeSum_13 hl (by decide) rfl (fun ls hl => ?_)
  refine lv_iconst (v := nI 0) hx hb d_R_becomeSizeSum_15 (by decide) ?_
  refine lv_istore (lv' := [(6, .int (nI 0)), (4, .long (pn_L 0)), (3, .int (nI (max na na))), (0, .ref ot), (1, .ref oa), (2, .ref oa)]) hx hb d_R_becomeSizeSum_16 hl (by decide) rfl (fun ls hl => ?_)
  have loop18 : ∀ (N : Nat) (i : Nat) (g : Nat → Int32) (c0 : Int), max na na - i < N → (i ≤ max na na) → (0 ≤ c0 ∧ c0 ≤ 1) → (pn_V g i + c0 * pn_E i = pn_V (pn_cut fa na) i + pn_V (pn_cut fa na) i) → ∀ (H : Heap) (locs : List Loc) (ls : Array Slot), lv_has ls 7 [(6, .int (nI i)), (4, .long (pn_L c0)), (3, .int (nI (max na na))), (0, .ref ot), (1, .ref oa), (2, .ref oa)] → va_P D pn_cl [(ot, .inr (1, [.ref qt, .int (nI nt), .int (pn_b bt)])), (qt, .inl (cI, 632, .inl g)), (oa, .inr (1, [.ref qa, .int (nI na), .int (pn_b ba)])), (qa, .inl (cI, 632, .inl fa))] H → va_D A [(ot, .inr (1, [.ref qt, .int (nI nt), .int (pn_b bt)])), (qt, .inl (cI, 632, .inl g)), (oa, .inr (1, [.ref qa, .int (nI na), .int (pn_b ba)])), (qa, .inl (cI, 632, .inl fa))] → va_S A s.heap H locs → W p l e ({ frames := 1, cells := 0, slots := 0, locals := 32 } : Room) s m ([.ref ot, .ref oa, .ref oa] : List Value).toArray below meth c H locs 0 0 Q (F0 m 18 ls []) := by
    intro N
    induction N with
    | zero => intro i g c0 hM; exact absurd hM (Nat.not_lt_zero _)
    | succ N ih18 =>
      intro i g c0 hM18 hi hc hV H locs ls hl hP hD hS
      refine lv_iload hx hb d_R_becomeSizeSum_18 (lv_at hl 0 rfl) ?_
      refine lv_iload_n hx hb d_R_becomeSizeSum_20 rfl (lv_at hl 2 rfl) ?_
      refine pw_icmp_ge (a := i) (b := max na na) (tgt := 65) hx hb d_R_becomeSizeSum_21 (by decide) (by omega) (by omega) (fun h_21 => ?_) (fun h_21 => ?_)
      · skip
        obtain rfl : i = max na na := by omega
        refine lv_aload_n hx hb d_R_becomeSizeSum_65 rfl (lv_at hl 3 rfl) ?_
        refine pw_get Fx hK hP fld_R 0 rfl 0 (by decide) kw_89 (v := .ref qt) rfl d_R_becomeSizeSum_66 ?_
        refine lv_iload_n hx hb d_R_becomeSizeSum_69 rfl (lv_at hl 2 rfl) ?_
        refine lv_lload hx hb d_R_becomeSizeSum_70 (lv_at hl 1 rfl) ?_
        refine pw_l2i hx hb d_R_becomeSizeSum_72 ?_
        refine pw_iast Fx hK hP hD hS 1 0 (f := g) rfl rfl (k := max na na) (by omega) (by decide) (w' := [(ot, .inr (1, [.ref qt, .int (nI nt), .int (pn_b bt)])), (qt, .inl (cI, 632, .inl (upd g (max na na) (pn_I c0)))), (oa, .inr (1, [.ref qa, .int (nI na), .int (pn_b ba)])), (qa, .inl (cI, 632, .inl fa))]) rfl d_R_becomeSizeSum_73 (fun H locs hP hD hS => ?_)
        refine lv_aload_n hx hb d_R_becomeSizeSum_74 rfl (lv_at hl 3 rfl) ?_
        refine lv_iload_n hx hb d_R_becomeSizeSum_75 rfl (lv_at hl 2 rfl) ?_
        refine lv_iconst (v := nI 1) hx hb d_R_becomeSizeSum_76 (by decide) ?_
        refine pw_iadd hx hb d_R_becomeSizeSum_77 ?_
        refine pn_bv (wr := [(oa, .inr (1, [.ref qa, .int (nI na), .int (pn_b ba)])), (qa, .inl (cI, 632, .inl fa))]) [0, 1] [2, 3] hP hD hS hA (pn_rV [.int (nI (max na na + 1))] [] Fx hK hN hP hD [0, 1] rfl rfl (c_R_fit l D cI cZ cB cJ _ ot qt (upd g (max na na) (pn_I c0)) nt (max na na + 1) bt (by omega)) kw_226 cal_R_fit inst_R_fit sel_R_fit ⟨by decide, by decide⟩ ⟨rfl, rfl⟩ 0 rfl rfl rfl rfl hl.1 (Nat.le_of_ble_eq_true rfl) d_R_becomeSizeSum_78 ⟨Nat.zero_le _, Nat.zero_le _⟩) rfl rfl rfl (by decide) (fun u_78 H locs hw hP hD hS => ?_)
        obtain ⟨hj, hVj, hzj⟩ := hw
        have hP : va_P D pn_cl [(oa, .inr (1, [.ref qa, .int (nI na), .int (pn_b ba)])), (qa, .inl (cI, 632, .inl fa)), (ot, .inr (1, [.ref qt, .int (nI u_78), .int (pn_b false)])), (qt, .inl (cI, 632, .inl (upd g (max na na) (pn_I c0))))] H := hP
        have hD : va_D A [(oa, .inr (1, [.ref qa, .int (nI na), .int (pn_b ba)])), (qa, .inl (cI, 632, .inl fa)), (ot, .inr (1, [.ref qt, .int (nI u_78), .int (pn_b false)])), (qt, .inl (cI, 632, .inl (upd g (max na na) (pn_I c0))))] := hD
        exact pn_retv ((upd g (max na na) (pn_I c0), u_78)) Fx hr hlocks hQ hAe (hP.sub [2, 3, 0, 1] rfl) (hD.sub [2, 3, 0, 1] (by decide) rfl) hS (⟨hj, by rw [hVj]; exact pn_sum_end hc.1 hc.2 hV, hzj⟩) d_R_becomeSizeSum_81
      · skip
        refine lv_lload hx hb d_R_becomeSizeSum_24 (lv_at hl 1 rfl) ?_
        refine lv_aload_n hx hb d_R_becomeSizeSum_26 rfl (lv_at hl 4 rfl) ?_
        refine lv_iload hx hb d_R_becomeSizeSum_27 (lv_at hl 0 rfl) ?_
        refine pn_bl (wr := [(ot, .inr (1, [.ref qt, .int (nI nt), .int (pn_b bt)])), (qt, .inl (cI, 632, .inl g))]) [2, 3] [0, 1] hP hD hS hA (pn_rV [.int (nI i)] [.long (pn_L c0)] Fx hK hN hP hD [2, 3] rfl rfl (c_R_limbAt l D cI cZ cB cJ _ oa qa fa na i ba (by omega) (by omega)) kw_361 cal_R_limbAt inst_R_limbAt sel_R_limbAt ⟨by decide, by decide⟩ ⟨rfl, rfl⟩ 0 rfl rfl rfl rfl hl.1 (Nat.le_of_ble_eq_true rfl) d_R_becomeSizeSum_29 ⟨Nat.zero_le _, Nat.zero_le _⟩) rfl rfl rfl (by decide) (fun r_29 u_29 H locs hw hP hD hS => ?_)
        obtain ⟨⟩ := u_29
        obtain rfl := hw
        have hP : va_P D pn_cl [(ot, .inr (1, [.ref qt, .int (nI nt), .int (pn_b bt)])), (qt, .inl (cI, 632, .inl g)), (oa, .inr (1, [.ref qa, .int (nI na), .int (pn_b ba)])), (qa, .inl (cI, 632, .inl fa))] H := hP
        have hD : va_D A [(ot, .inr (1, [.ref qt, .int (nI nt), .int (pn_b bt)])), (qt, .inl (cI, 632, .inl g)), (oa, .inr (1, [.ref qa, .int (nI na), .int (pn_b ba)])), (qa, .inl (cI, 632, .inl fa))] := hD
        refine lv_aload_n hx hb d_R_becomeSizeSum_32 rfl (lv_at hl 5 rfl) ?_
        refine lv_iload hx hb d_R_becomeSizeSum_33 (lv_at hl 0 rfl) ?_
        refine pn_bl (wr := [(ot, .inr (1, [.ref qt, .int (nI nt), .int (pn_b bt)])), (qt, .inl (cI, 632, .inl g))]) [2, 3] [0, 1] hP hD hS hA (pn_rV [.int (nI i)] [.long (pn_L (pn_u (pn_cut fa na i))), .long (pn_L c0)] Fx hK hN hP hD [2, 3] rfl rfl (c_R_limbAt l D cI cZ cB cJ _ oa qa fa na i ba (by omega) (by omega)) kw_361 cal_R_limbAt inst_R_limbAt sel_R_limbAt ⟨by decide, by decide⟩ ⟨rfl, rfl⟩ 0 rfl rfl rfl rfl hl.1 (Nat.le_of_ble_eq_true rfl) d_R_becomeSizeSum_35 ⟨Nat.zero_le _, Nat.zero_le _⟩) rfl rfl rfl (by decide) (fun r_35 u_35 H locs hw hP hD hS => ?_)
        obtain ⟨⟩ := u_35
        obtain rfl := hw
        have hP : va_P D pn_cl [(ot, .inr (1, [.ref qt, .int (nI nt), .int (pn_b bt)])), (qt, .inl (cI, 632, .inl g)), (oa, .inr (1, [.ref qa, .int (nI na), .int (pn_b ba)])), (qa, .inl (cI, 632, .inl fa))] H := hP
        have hD : va_D A [(ot, .inr (1, [.ref qt, .int (nI nt), .int (pn_b bt)])), (qt, .inl (cI, 632, .inl g)), (oa, .inr (1, [.ref qa, .int (nI na), .int (pn_b ba)])), (qa, .inl (cI, 632, .inl fa))] := hD
        refine pw_ladd hx hb d_R_becomeSizeSum_38 ?_
        have u1 := pn_u_lt (pn_cut fa na i)
        have u2 := pn_u_lt (pn_cut fa na i)
        have u3 := pn_u_nonneg (pn_cut fa na i)
        have u4 := pn_u_nonneg (pn_cut fa na i)
        obtain ⟨t, ht⟩ : ∃ t, t = c0 + (pn_u (pn_cut fa na i) + pn_u (pn_cut fa na i)) := ⟨_, rfl⟩
        refine pw_ladd hx hb d_R_becomeSizeSum_39 ?_
        refine pn_topl (pn_L t) (by rw [ht]) ?_
        refine lv_lstore (lv' := [(4, .long (pn_L t)), (6, .int (nI i)), (3, .int (nI (max na na))), (0, .ref ot), (1, .ref oa), (2, .ref oa)]) hx hb d_R_becomeSizeSum_40 hl (by decide) rfl (fun ls hl => ?_)
        refine lv_aload_n hx hb d_R_becomeSizeSum_42 rfl (lv_at hl 3 rfl) ?_
        refine pw_get Fx hK hP fld_R 0 rfl 0 (by decide) kw_89 (v := .ref qt) rfl d_R_becomeSizeSum_43 ?_
        refine lv_iload hx hb d_R_becomeSizeSum_46 (lv_at hl 1 rfl) ?_
        refine lv_lload hx hb d_R_becomeSizeSum_48 (lv_at hl 0 rfl) ?_
        refine pw_l2i hx hb d_R_becomeSizeSum_50 ?_
        refine pw_iast Fx hK hP hD hS 1 0 (f := g) rfl rfl (k := i) (by omega) (by decide) (w' := [(ot, .inr (1, [.ref qt, .int (nI nt), .int (pn_b bt)])), (qt, .inl (cI, 632, .inl (upd g i (pn_I t)))), (oa, .inr (1, [.ref qa, .int (nI na), .int (pn_b ba)])), (qa, .inl (cI, 632, .inl fa))]) rfl d_R_becomeSizeSum_51 (fun H locs hP hD hS => ?_)
        refine lv_lload hx hb d_R_becomeSizeSum_52 (lv_at hl 0 rfl) ?_
        refine lv_bipush (v := 32) hx hb d_R_becomeSizeSum_54 (by decide) ?_
        refine pw_lushr32 hx hb d_R_becomeSizeSum_56 (by omega) (by omega) ?_
        refine lv_lstore (lv' := [(4, .long (pn_L (t / 4294967296))), (6, .int (nI i)), (3, .int (nI (max na na))), (0, .ref ot), (1, .ref oa), (2, .ref oa)]) hx hb d_R_becomeSizeSum_57 hl (by decide) rfl (fun ls hl => ?_)
        refine lv_iinc (v := nI (i + 1)) (lv' := [(6, .int (nI (i + 1))), (4, .long (pn_L (t / 4294967296))), (3, .int (nI (max na na))), (0, .ref ot), (1, .ref oa), (2, .ref oa)]) hx hb d_R_becomeSizeSum_59 hl (k := 1) rfl (nI_add _ 1) (by decide) rfl (fun ls hl => ?_)
        refine lv_goto (tgt := 18) hx hb d_R_becomeSizeSum_62 (by decide) ?_
        exact ih18 (i + 1) _ (t / 4294967296) (by omega) (by omega) (by omega) (by rw [pn_put hV]; simp only [pn_V_s]; rw [ht]; grind) _ _ _ hl hP hD hS
  exact loop18 _ 0 ft 0 (Nat.lt_succ_self _) (Nat.zero_le _) (by decide) rfl _ _ _ hl hP hD hS

set_option maxHeartbeats 4000000 in
set_option maxRecDepth 100000 in
theorem c_R_becomeSizeDifference (l : Launch) (D : va_G) (cI cZ cB cJ : ClassId) (sz : Nat) (ot qt : Nat) (ft : Nat → Int32) (nt : Nat) (bt : Bool) (oa qa : Nat) (fa : Nat → Int32) (na : Nat) (ba : Bool) (ob qb : Nat) (fb : Nat → Int32) (nb : Nat) (bb : Bool) (hna : na ≤ 632) (hnb : nb ≤ 632) (hzb : pn_nz fb nb) (hge : pn_V fb nb ≤ pn_V fa na) : pn_Cv l D (pn_ty cI cZ cB cJ) y_R_becomeSizeDifference w_R_becomeSizeDifference ({ frames := 1, cells := 0, slots := 0, locals := 32 } : Room) [.ref ot, .ref oa, .ref ob] [(ot, .inr (1, [.ref qt, .int (nI nt), .int (pn_b bt)])), (qt, .inl (cI, 632, .inl ft)), (oa, .inr (1, [.ref qa, .int (nI na), .int (pn_b ba)])), (qa, .inl (cI, 632, .inl fa)), (ob, .inr (1, [.ref qb, .int (nI nb), .int (pn_b bb)])), (qb, .inl (cI, 632, .inl fb))] sz (S := (Nat → Int32) × Nat) (fun u => u.2 ≤ na ∧ pn_V u.1 u.2 = pn_V fa na - pn_V fb nb ∧ pn_nz u.1 u.2) (fun u => [(ot, .inr (1, [.ref qt, .int (nI u.2), .int (pn_b false)])), (qt, .inl (cI, 632, .inl u.1)), (oa, .inr (1, [.ref qa, .int (nI na), .int (pn_b ba)])), (qa, .inl (cI, 632, .inl fa)), (ob, .inr (1, [.ref qb, .int (nI nb), .int (pn_b bb)])), (qb, .inl (cI, 632, .inl fb))]) := by
  refine pn_start (by decide) (Nat.le_of_ble_eq_true rfl) ?_
  intro p e s m below meth c A Q ls hQ hAe Fx hr hlocks hN hK hP hD hS hA hl
  have hx := Fx.1
  have hb := Fx.2.1
  have hl : lv_has ls 6 [(0, .ref ot), (1, .ref oa), (2, .ref ob)] := hl
  refine lv_lconst (v := pn_L 0) hx hb d_R_becomeSizeDifference_0 (by decide) ?_
  refine lv_lstore_n (lv' := [(3, .long (pn_L 0)), (0, .ref ot), (1, .ref oa), (2, .ref ob)]) hx hb d_R_becomeSizeDifference_1 rfl hl (by decide) rfl (fun ls hl => ?_)
  refine lv_iconst (v := nI 0) hx hb d_R_becomeSizeDifference_2 (by decide) ?_
  refine lv_istore (lv' := [(5, .int (nI 0)), (3, .long (pn_L 0)), (0, .ref ot), (1, .ref oa), (2, .ref ob)]) hx hb d_R_becomeSizeDifference_3 hl (by decide) rfl (fun ls hl => ?_)
  have loop5 : ∀ (N : Nat) (i : Nat) (g : Nat → Int32) (c0 : Int), na - i < N → (i ≤ na) → (-1 ≤ c0 ∧ c0 ≤ 0) → (pn_V g i + c0 * pn_E i = pn_V (pn_cut fa na) i - pn_V (pn_cut fb nb) i) → ∀ (H : Heap) (locs : List Loc) (ls : Array Slot), lv_has ls 6 [(5, .int (nI i)), (3, .long (pn_L c0)), (0, .ref ot), (1, .ref oa), (2, .ref ob)] → va_P D pn_cl [(ot, .inr (1, [.ref qt, .int (nI nt), .int (pn_b bt)])), (qt, .inl (cI, 632, .inl g)), (oa, .inr (1, [.ref qa, .int (nI na), .int (pn_b ba)])), (qa, .inl (cI, 632, .inl fa)), (ob, .inr (1, [.ref qb, .int (nI nb), .int (pn_b bb)])), (qb, .inl (cI, 632, .inl fb))] H → va_D A [(ot, .inr (1, [.ref qt, .int (nI nt), .int (pn_b bt)])), (qt, .inl (cI, 632, .inl g)), (oa, .inr (1, [.ref qa, .int (nI na), .int (pn_b ba)])), (qa, .inl (cI, 632, .inl fa)), (ob, .inr (1, [.ref qb, .int (nI nb), .int (pn_b bb)])), (qb, .inl (cI, 632, .inl fb))] → va_S A s.heap H locs → W p l e ({ frames := 1, cells := 0, slots := 0, locals := 32 } : Room) s m ([.ref ot, .ref oa, .ref ob] : List Value).toArray below meth c H locs 0 0 Q (F0 m 5 ls []) := by
    intro N
    induction N with
    | zero => intro i g c0 hM; exact absurd hM (Nat.not_lt_zero _)
    | succ N ih5 =>
      intro i g c0 hM5 hi hc hV H locs ls hl hP hD hS
      refine lv_iload hx hb d_R_becomeSizeDifference_5 (lv_at hl 0 rfl) ?_
      refine lv_aload_n hx hb d_R_becomeSizeDifference_7 rfl (lv_at hl 3 rfl) ?_
      refine pw_get Fx hK hP fld_R 2 rfl 1 (by decide) kw_93 (v := .int (nI na)) rfl d_R_becomeSizeDifference_8 ?_
      refine pw_icmp_ge (a := i) (b := na) (tgt := 50) hx hb d_R_becomeSizeDifference_11 (by decide) (by omega) (by omega) (fun h_11 => ?_) (fun h_11 => ?_)
      · skip
        obtain rfl : na = i := by omega
        refine lv_aload_n hx hb d_R_becomeSizeDifference_50 rfl (lv_at hl 2 rfl) ?_
        refine lv_aload_n hx hb d_R_becomeSizeDifference_51 rfl (lv_at hl 3 rfl) ?_
        refine pw_get Fx hK hP fld_R 2 rfl 1 (by decide) kw_93 (v := .int (nI na)) rfl d_R_becomeSizeDifference_52 ?_
        refine pn_bv (wr := [(oa, .inr (1, [.ref qa, .int (nI na), .int (pn_b ba)])), (qa, .inl (cI, 632, .inl fa)), (ob, .inr (1, [.ref qb, .int (nI nb), .int (pn_b bb)])), (qb, .inl (cI, 632, .inl fb))]) [0, 1] [2, 3, 4, 5] hP hD hS hA (pn_rV [.int (nI na)] [] Fx hK hN hP hD [0, 1] rfl rfl (c_R_fit l D cI cZ cB cJ _ ot qt g nt na bt (by omega)) kw_226 cal_R_fit inst_R_fit sel_R_fit ⟨by decide, by decide⟩ ⟨rfl, rfl⟩ 0 rfl rfl rfl rfl hl.1 (Nat.le_of_ble_eq_true rfl) d_R_becomeSizeDifference_55 ⟨Nat.zero_le _, Nat.zero_le _⟩) rfl rfl rfl (by decide) (fun u_55 H locs hw hP hD hS => ?_)
        obtain ⟨hj, hVj, hzj⟩ := hw
        have hP : va_P D pn_cl [(oa, .inr (1, [.ref qa, .int (nI na), .int (pn_b ba)])), (qa, .inl (cI, 632, .inl fa)), (ob, .inr (1, [.ref qb, .int (nI nb), .int (pn_b bb)])), (qb, .inl (cI, 632, .inl fb)), (ot, .inr (1, [.ref qt, .int (nI u_55), .int (pn_b false)])), (qt, .inl (cI, 632, .inl g))] H := hP
        have hD : va_D A [(oa, .inr (1, [.ref qa, .int (nI na), .int (pn_b ba)])), (qa, .inl (cI, 632, .inl fa)), (ob, .inr (1, [.ref qb, .int (nI nb), .int (pn_b bb)])), (qb, .inl (cI, 632, .inl fb)), (ot, .inr (1, [.ref qt, .int (nI u_55), .int (pn_b false)])), (qt, .inl (cI, 632, .inl g))] := hD
        exact pn_retv ((g, u_55)) Fx hr hlocks hQ hAe (hP.sub [4, 5, 0, 1, 2, 3] rfl) (hD.sub [4, 5, 0, 1, 2, 3] (by decide) rfl) hS (⟨hj, by rw [hVj]; exact pn_diff_end hzb hge hV, hzj⟩) d_R_becomeSizeDifference_58
      · skip
        refine lv_lload_n hx hb d_R_becomeSizeDifference_14 rfl (lv_at hl 1 rfl) ?_
        refine lv_aload_n hx hb d_R_becomeSizeDifference_15 rfl (lv_at hl 3 rfl) ?_
        refine lv_iload hx hb d_R_becomeSizeDifference_16 (lv_at hl 0 rfl) ?_
        refine pn_bl (wr := [(ot, .inr (1, [.ref qt, .int (nI nt), .int (pn_b bt)])), (qt, .inl (cI, 632, .inl g)), (ob, .inr (1, [.ref qb, .int (nI nb), .int (pn_b bb)])), (qb, .inl (cI, 632, .inl fb))]) [2, 3] [0, 1, 4, 5] hP hD hS hA (pn_rV [.int (nI i)] [.long (pn_L c0)] Fx hK hN hP hD [2, 3] rfl rfl (c_R_limbAt l D cI cZ cB cJ _ oa qa fa na i ba (by omega) (by omega)) kw_361 cal_R_limbAt inst_R_limbAt sel_R_limbAt ⟨by decide, by decide⟩ ⟨rfl, rfl⟩ 0 rfl rfl rfl rfl hl.1 (Nat.le_of_ble_eq_true rfl) d_R_becomeSizeDifference_18 ⟨Nat.zero_le _, Nat.zero_le _⟩) rfl rfl rfl (by decide) (fun r_18 u_18 H locs hw hP hD hS => ?_)
        obtain ⟨⟩ := u_18
        obtain rfl := hw
        have hP : va_P D pn_cl [(ot, .inr (1, [.ref qt, .int (nI nt), .int (pn_b bt)])), (qt, .inl (cI, 632, .inl g)), (ob, .inr (1, [.ref qb, .int (nI nb), .int (pn_b bb)])), (qb, .inl (cI, 632, .inl fb)), (oa, .inr (1, [.ref qa, .int (nI na), .int (pn_b ba)])), (qa, .inl (cI, 632, .inl fa))] H := hP
        have hD : va_D A [(ot, .inr (1, [.ref qt, .int (nI nt), .int (pn_b bt)])), (qt, .inl (cI, 632, .inl g)), (ob, .inr (1, [.ref qb, .int (nI nb), .int (pn_b bb)])), (qb, .inl (cI, 632, .inl fb)), (oa, .inr (1, [.ref qa, .int (nI na), .int (pn_b ba)])), (qa, .inl (cI, 632, .inl fa))] := hD
        refine lv_aload_n hx hb d_R_becomeSizeDifference_21 rfl (lv_at hl 4 rfl) ?_
        refine lv_iload hx hb d_R_becomeSizeDifference_22 (lv_at hl 0 rfl) ?_
        refine pn_bl (wr := [(ot, .inr (1, [.ref qt, .int (nI nt), .int (pn_b bt)])), (qt, .inl (cI, 632, .inl g)), (oa, .inr (1, [.ref qa, .int (nI na), .int (pn_b ba)])), (qa, .inl (cI, 632, .inl fa))]) [2, 3] [0, 1, 4, 5] hP hD hS hA (pn_rV [.int (nI i)] [.long (pn_L (pn_u (pn_cut fa na i))), .long (pn_L c0)] Fx hK hN hP hD [2, 3] rfl rfl (c_R_limbAt l D cI cZ cB cJ _ ob qb fb nb i bb (by omega) (by omega)) kw_361 cal_R_limbAt inst_R_limbAt sel_R_limbAt ⟨by decide, by decide⟩ ⟨rfl, rfl⟩ 0 rfl rfl rfl rfl hl.1 (Nat.le_of_ble_eq_true rfl) d_R_becomeSizeDifference_24 ⟨Nat.zero_le _, Nat.zero_le _⟩) rfl rfl rfl (by decide) (fun r_24 u_24 H locs hw hP hD hS => ?_)
        obtain ⟨⟩ := u_24
        obtain rfl := hw
        have hP : va_P D pn_cl [(ot, .inr (1, [.ref qt, .int (nI nt), .int (pn_b bt)])), (qt, .inl (cI, 632, .inl g)), (oa, .inr (1, [.ref qa, .int (nI na), .int (pn_b ba)])), (qa, .inl (cI, 632, .inl fa)), (ob, .inr (1, [.ref qb, .int (nI nb), .int (pn_b bb)])), (qb, .inl (cI, 632, .inl fb))] H := hP
        have hD : va_D A [(ot, .inr (1, [.ref qt, .int (nI nt), .int (pn_b bt)])), (qt, .inl (cI, 632, .inl g)), (oa, .inr (1, [.ref qa, .int (nI na), .int (pn_b ba)])), (qa, .inl (cI, 632, .inl fa)), (ob, .inr (1, [.ref qb, .int (nI nb), .int (pn_b bb)])), (qb, .inl (cI, 632, .inl fb))] := hD
        refine pw_lsub hx hb d_R_becomeSizeDifference_27 ?_
        have u1 := pn_u_lt (pn_cut fa na i)
        have u2 := pn_u_lt (pn_cut fb nb i)
        have u3 := pn_u_nonneg (pn_cut fa na i)
        have u4 := pn_u_nonneg (pn_cut fb nb i)
        obtain ⟨t, ht⟩ : ∃ t, t = c0 + (pn_u (pn_cut fa na i) - pn_u (pn_cut fb nb i)) := ⟨_, rfl⟩
        refine pw_ladd hx hb d_R_becomeSizeDifference_28 ?_
        refine pn_topl (pn_L t) (by rw [ht]) ?_
        refine lv_lstore_n (lv' := [(3, .long (pn_L t)), (5, .int (nI i)), (0, .ref ot), (1, .ref oa), (2, .ref ob)]) hx hb d_R_becomeSizeDifference_29 rfl hl (by decide) rfl (fun ls hl => ?_)
        refine lv_aload_n hx hb d_R_becomeSizeDifference_30 rfl (lv_at hl 2 rfl) ?_
        refine pw_get Fx hK hP fld_R 0 rfl 0 (by decide) kw_89 (v := .ref qt) rfl d_R_becomeSizeDifference_31 ?_
        refine lv_iload hx hb d_R_becomeSizeDifference_34 (lv_at hl 1 rfl) ?_
        refine lv_lload_n hx hb d_R_becomeSizeDifference_36 rfl (lv_at hl 0 rfl) ?_
        refine pw_l2i hx hb d_R_becomeSizeDifference_37 ?_
        refine pw_iast Fx hK hP hD hS 1 0 (f := g) rfl rfl (k := i) (by omega) (by decide) (w' := [(ot, .inr (1, [.ref qt, .int (nI nt), .int (pn_b bt)])), (qt, .inl (cI, 632, .inl (upd g i (pn_I t)))), (oa, .inr (1, [.ref qa, .int (nI na), .int (pn_b ba)])), (qa, .inl (cI, 632, .inl fa)), (ob, .inr (1, [.ref qb, .int (nI nb), .int (pn_b bb)])), (qb, .inl (cI, 632, .inl fb))]) rfl d_R_becomeSizeDifference_38 (fun H locs hP hD hS => ?_)
        refine lv_lload_n hx hb d_R_becomeSizeDifference_39 rfl (lv_at hl 0 rfl) ?_
        refine lv_bipush (v := 32) hx hb d_R_becomeSizeDifference_40 (by decide) ?_
        refine pw_lshr32 hx hb d_R_becomeSizeDifference_42 (by omega) (by omega) ?_
        refine lv_lstore_n (lv' := [(3, .long (pn_L (t / 4294967296))), (5, .int (nI i)), (0, .ref ot), (1, .ref oa), (2, .ref ob)]) hx hb d_R_becomeSizeDifference_43 rfl hl (by decide) rfl (fun ls hl => ?_)
        refine lv_iinc (v := nI (i + 1)) (lv' := [(5, .int (nI (i + 1))), (3, .long (pn_L (t / 4294967296))), (0, .ref ot), (1, .ref oa), (2, .ref ob)]) hx hb d_R_becomeSizeDifference_44 hl (k := 1) rfl (nI_add _ 1) (by decide) rfl (fun ls hl => ?_)
        refine lv_goto (tgt := 5) hx hb d_R_becomeSizeDifference_47 (by decide) ?_
        exact ih5 (i + 1) _ (t / 4294967296) (by omega) (by omega) (by omega) (by rw [pn_put hV]; simp only [pn_V_s]; rw [ht]; grind) _ _ _ hl hP hD hS
  exact loop5 _ 0 ft 0 (Nat.lt_succ_self _) (Nat.zero_le _) (by decide) rfl _ _ _ hl hP hD hS

set_option maxHeartbeats 4000000 in
set_option maxRecDepth 100000 in
theorem c_R_take (l : Launch) (D : va_G) (cI cZ cB cJ : ClassId) (sz : Nat) (ot qt : Nat) (ft : Nat → Int32) (nt : Nat) (bt : Bool) (oa qa : Nat) (fa : Nat → Int32) (na : Nat) (ba : Bool) (hna : na ≤ 632) : pn_Cv l D (pn_ty cI cZ cB cJ) y_R_take w_R_take ({ frames := 1, cells := 0, slots := 0, locals := 40 } : Room) [.ref ot, .ref oa] [(ot, .inr (1, [.ref qt, .int (nI nt), .int (pn_b bt)])), (qt, .inl (cI, 632, .inl ft)), (oa, .inr (1, [.ref qa, .int (nI na), .int (pn_b ba)])), (qa, .inl (cI, 632, .inl fa))] sz (S := Nat → Int32) (fun g => ∀ i, i < na → g i = fa i) (fun g => [(ot, .inr (1, [.ref qt, .int (nI na), .int (pn_b ba)])), (qt, .inl (cI, 632, .inl g)), (oa, .inr (1, [.ref qa, .int (nI na), .int (pn_b ba)])), (qa, .inl (cI, 632, .inl fa))]) := by
  refine pn_start (by decide) (Nat.le_of_ble_eq_true rfl) ?_
  intro p e s m below meth c A Q ls hQ hAe Fx hr hlocks hN hK hP hD hS hA hl
  have hx := Fx.1
  have hb := Fx.2.1
  have hl : lv_has ls 2 [(0, .ref ot), (1, .ref oa)] := hl
  refine lv_aload_n hx hb d_R_take_0 rfl (lv_at hl 1 rfl) ?_
  refine pw_get Fx hK hP fld_R 2 rfl 0 (by decide) kw_89 (v := .ref qa) rfl d_R_take_1 ?_
  refine lv_iconst (v := nI 0) hx hb d_R_take_4 (by decide) ?_
  refine lv_aload_n hx hb d_R_take_5 rfl (lv_at hl 0 rfl) ?_
  refine pw_get Fx hK hP fld_R 0 rfl 0 (by decide) kw_89 (v := .ref qt) rfl d_R_take_6 ?_
  refine lv_iconst (v := nI 0) hx hb d_R_take_9 (by decide) ?_
  refine lv_aload_n hx hb d_R_take_10 rfl (lv_at hl 1 rfl) ?_
  refine pw_get Fx hK hP fld_R 2 rfl 1 (by decide) kw_93 (v := .int (nI na)) rfl d_R_take_11 ?_
  refine pw_copy Fx (hl.1) kw_293 kw_276 kw_275 kw_13 hK hP hD hS 3 1 0 (f := fa) (g := ft) rfl rfl rfl rfl (sp := 0) (dp := 0) (n := na) (by omega) (by omega) (by decide) (by decide) (rest := []) (by decide) (Nat.le_of_ble_eq_true rfl) (w' := [(ot, .inr (1, [.ref qt, .int (nI nt), .int (pn_b bt)])), (qt, .inl (cI, 632, .inl (va_cpy fa ft 0 0 na))), (oa, .inr (1, [.ref qa, .int (nI na), .int (pn_b ba)])), (qa, .inl (cI, 632, .inl fa))]) rfl d_R_take_14 (fun H locs hP hD hS => ?_)
  refine lv_aload_n hx hb d_R_take_17 rfl (lv_at hl 0 rfl) ?_
  refine lv_aload_n hx hb d_R_take_18 rfl (lv_at hl 1 rfl) ?_
  refine pw_get Fx hK hP fld_R 2 rfl 1 (by decide) kw_93 (v := .int (nI na)) rfl d_R_take_19 ?_
  refine pw_put Fx hK hP hD hS fld_R 0 rfl 1 (by decide) kw_93 rfl rfl rfl (Nat.le_of_ble_eq_true rfl) (w' := [(ot, .inr (1, [.ref qt, .int (nI na), .int (pn_b bt)])), (qt, .inl (cI, 632, .inl (va_cpy fa ft 0 0 na))), (oa, .inr (1, [.ref qa, .int (nI na), .int (pn_b ba)])), (qa, .inl (cI, 632, .inl fa))]) rfl d_R_take_22 (fun H locs hP hD hS => ?_)
  refine lv_aload_n hx hb d_R_take_25 rfl (lv_at hl 0 rfl) ?_
  refine lv_aload_n hx hb d_R_take_26 rfl (lv_at hl 1 rfl) ?_
  refine pw_get Fx hK hP fld_R 2 rfl 2 (by decide) kw_99 (v := .int (pn_b ba)) rfl d_R_take_27 ?_
  refine pw_put Fx hK hP hD hS fld_R 0 rfl 2 (by decide) kw_99 rfl (pn_b_nar _) (pn_b_fit _) (Nat.le_of_ble_eq_true rfl) (w' := [(ot, .inr (1, [.ref qt, .int (nI na), .int (pn_b ba)])), (qt, .inl (cI, 632, .inl (va_cpy fa ft 0 0 na))), (oa, .inr (1, [.ref qa, .int (nI na), .int (pn_b ba)])), (qa, .inl (cI, 632, .inl fa))]) rfl d_R_take_30 (fun H locs hP hD hS => ?_)
  exact pn_retv (va_cpy fa ft 0 0 na) Fx hr hlocks hQ hAe hP hD hS (fun i hi => by rw [pk_cpy_in (Nat.zero_le i) (by omega)]; congr 1; omega) d_R_take_33

set_option maxHeartbeats 4000000 in
set_option maxRecDepth 100000 in
theorem c_R_putBelow (l : Launch) (D : va_G) (cI cZ cB cJ : ClassId) (sz : Nat) (ot qt : Nat) (ft : Nat → Int32) (nt : Nat) (bt : Bool) (x : Int32) (hnt : nt ≤ 631) : pn_Cv l D (pn_ty cI cZ cB cJ) y_R_putBelow w_R_putBelow ({ frames := 1, cells := 0, slots := 0, locals := 40 } : Room) [.ref ot, .int x] [(ot, .inr (1, [.ref qt, .int (nI nt), .int (pn_b bt)])), (qt, .inl (cI, 632, .inl ft))] sz (S := (Nat → Int32) × Nat × Bool) (fun u => u.2.1 ≤ nt + 1 ∧ pn_V u.1 u.2.1 = pn_V ft nt * 4294967296 + pn_u x ∧ pn_nz u.1 u.2.1 ∧ u.2.2 = (bt && decide (0 < u.2.1))) (fun u => [(ot, .inr (1, [.ref qt, .int (nI u.2.1), .int (pn_b u.2.2)])), (qt, .inl (cI, 632, .inl u.1))]) := by
  refine pn_start (by decide) (Nat.le_of_ble_eq_true rfl) ?_
  intro p e s m below meth c A Q ls hQ hAe Fx hr hlocks hN hK hP hD hS hA hl
  have hx := Fx.1
  have hb := Fx.2.1
  have hl : lv_has ls 3 [(0, .ref ot), (1, .int x)] := hl
  refine lv_aload_n hx hb d_R_putBelow_0 rfl (lv_at hl 0 rfl) ?_
  refine pw_get Fx hK hP fld_R 0 rfl 2 (by decide) kw_99 (v := .int (pn_b bt)) rfl d_R_putBelow_1 ?_
  refine lv_istore_n (lv' := [(2, .int (pn_b bt)), (0, .ref ot), (1, .int x)]) hx hb d_R_putBelow_4 rfl hl (by decide) rfl (fun ls hl => ?_)
  refine lv_aload_n hx hb d_R_putBelow_5 rfl (lv_at hl 1 rfl) ?_
  refine pw_get Fx hK hP fld_R 0 rfl 0 (by decide) kw_89 (v := .ref qt) rfl d_R_putBelow_6 ?_
  refine lv_iconst (v := nI 0) hx hb d_R_putBelow_9 (by decide) ?_
  refine lv_aload_n hx hb d_R_putBelow_10 rfl (lv_at hl 1 rfl) ?_
  refine pw_get Fx hK hP fld_R 0 rfl 0 (by decide) kw_89 (v := .ref qt) rfl d_R_putBelow_11 ?_
  refine lv_iconst (v := nI 1) hx hb d_R_putBelow_14 (by decide) ?_
  refine lv_aload_n hx hb d_R_putBelow_15 rfl (lv_at hl 1 rfl) ?_
  refine pw_get Fx hK hP fld_R 0 rfl 1 (by decide) kw_93 (v := .int (nI nt)) rfl d_R_putBelow_16 ?_
  refine pw_copy Fx (hl.1) kw_293 kw_276 kw_275 kw_13 hK hP hD hS 1 1 0 (f := ft) (g := ft) rfl rfl rfl rfl (sp := 0) (dp := 1) (n := nt) (by omega) (by omega) (by decide) (by decide) (rest := []) (by decide) (Nat.le_of_ble_eq_true rfl) (w' := [(ot, .inr (1, [.ref qt, .int (nI nt), .int (pn_b bt)])), (qt, .inl (cI, 632, .inl (va_cpy ft ft 0 1 nt)))]) rfl d_R_putBelow_19 (fun H locs hP hD hS => ?_)
  refine lv_aload_n hx hb d_R_putBelow_22 rfl (lv_at hl 1 rfl) ?_
  refine pw_get Fx hK hP fld_R 0 rfl 0 (by decide) kw_89 (v := .ref qt) rfl d_R_putBelow_23 ?_
  refine lv_iconst (v := nI 0) hx hb d_R_putBelow_26 (by decide) ?_
  refine lv_iload_n hx hb d_R_putBelow_27 rfl (lv_at hl 2 rfl) ?_
  refine pw_iast Fx hK hP hD hS 1 0 (f := va_cpy ft ft 0 1 nt) rfl rfl (k := 0) (by omega) (by decide) (w' := [(ot, .inr (1, [.ref qt, .int (nI nt), .int (pn_b bt)])), (qt, .inl (cI, 632, .inl (upd (va_cpy ft ft 0 1 nt) 0 x)))]) rfl d_R_putBelow_28 (fun H locs hP hD hS => ?_)
  refine lv_aload_n hx hb d_R_putBelow_29 rfl (lv_at hl 1 rfl) ?_
  refine lv_aload_n hx hb d_R_putBelow_30 rfl (lv_at hl 1 rfl) ?_
  refine pw_get Fx hK hP fld_R 0 rfl 1 (by decide) kw_93 (v := .int (nI nt)) rfl d_R_putBelow_31 ?_
  refine lv_iconst (v := nI 1) hx hb d_R_putBelow_34 (by decide) ?_
  refine pw_iadd hx hb d_R_putBelow_35 ?_
  refine pn_bv (wr := []) [0, 1] [] hP hD hS hA (pn_rV [.int (nI (nt + 1))] [] Fx hK hN hP hD [0, 1] rfl rfl (c_R_fit l D cI cZ cB cJ _ ot qt (upd (va_cpy ft ft 0 1 nt) 0 x) nt (nt + 1) bt (by omega)) kw_226 cal_R_fit inst_R_fit sel_R_fit ⟨by decide, by decide⟩ ⟨rfl, rfl⟩ 0 rfl rfl rfl rfl hl.1 (Nat.le_of_ble_eq_true rfl) d_R_putBelow_36 ⟨Nat.zero_le _, Nat.zero_le _⟩) rfl rfl rfl (by decide) (fun u_36 H locs hw hP hD hS => ?_)
  obtain ⟨hj, hVj, hzj⟩ := hw
  have hP : va_P D pn_cl [(ot, .inr (1, [.ref qt, .int (nI u_36), .int (pn_b false)])), (qt, .inl (cI, 632, .inl (upd (va_cpy ft ft 0 1 nt) 0 x)))] H := hP
  have hD : va_D A [(ot, .inr (1, [.ref qt, .int (nI u_36), .int (pn_b false)])), (qt, .inl (cI, 632, .inl (upd (va_cpy ft ft 0 1 nt) 0 x)))] := hD
  refine lv_aload_n hx hb d_R_putBelow_39 rfl (lv_at hl 1 rfl) ?_
  refine lv_iload_n hx hb d_R_putBelow_40 rfl (lv_at hl 0 rfl) ?_
  refine pn_bv (wr := []) [0, 1] [] hP hD hS hA (pn_rV [.int (pn_b bt)] [] Fx hK hN hP hD [0, 1] rfl rfl (c_R_turnBelowIf l D cI cZ cB cJ _ ot qt (upd (va_cpy ft ft 0 1 nt) 0 x) u_36 false bt (by omega)) kw_294 cal_R_turnBelowIf inst_R_turnBelowIf sel_R_turnBelowIf ⟨by decide, by decide⟩ ⟨rfl, rfl⟩ 0 rfl rfl rfl rfl hl.1 (Nat.le_of_ble_eq_true rfl) d_R_putBelow_41 ⟨Nat.zero_le _, Nat.zero_le _⟩) rfl rfl rfl (by decide) (fun u_41 H locs hw hP hD hS => ?_)
  have hP : va_P D pn_cl [(ot, .inr (1, [.ref qt, .int (nI u_36), .int (pn_b u_41)])), (qt, .inl (cI, 632, .inl (upd (va_cpy ft ft 0 1 nt) 0 x)))] H := hP
  have hD : va_D A [(ot, .inr (1, [.ref qt, .int (nI u_36), .int (pn_b u_41)])), (qt, .inl (cI, 632, .inl (upd (va_cpy ft ft 0 1 nt) 0 x)))] := hD
  exact pn_retv ((upd (va_cpy ft ft 0 1 nt) 0 x, u_36, u_41)) Fx hr hlocks hQ hAe hP hD hS (⟨hj, by rw [hVj]; exact pn_V_push pk_us (fun i hi => by rw [pk_un (by omega), pk_cpy_in (by omega) (by omega)]; congr 1; omega), hzj, hw⟩) d_R_putBelow_44
