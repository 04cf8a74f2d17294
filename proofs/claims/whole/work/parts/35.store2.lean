set_option maxHeartbeats 4000000 in
set_option maxRecDepth 100000 in
theorem c_S_pack (l : Launch) (D : va_G) (cI cZ cB cJ : ClassId) (sz : Nat) (oS qC qS qN qB : Nat) (C : Nat → Int32) (st ct : Nat → Nat) (bl : Nat → Bool) (us : Nat) (G : Nat → Nat → Int32) (hst : pn_st C st ct us G) : pn_Cv l D (pn_ty cI cZ cB cJ) y_S_pack w_S_pack ({ frames := 1, cells := 0, slots := 0, locals := 40 } : Room) [.ref oS] [(oS, .inr (2, [.ref qC, .ref qS, .ref qN, .ref qB, .int (nI us)])), (qC, .inl (cI, 17500, .inl C)), (qS, .inl (cI, 24, .inl (fun z9 => nI (st z9)))), (qN, .inl (cI, 24, .inl (fun z9 => nI (ct z9)))), (qB, .inl (cZ, 24, .inl (fun z9 => pn_b (bl z9))))] sz (S := (Nat → Int32) × (Nat → Nat) × Nat) (fun u => pn_st u.1 u.2.1 ct u.2.2 G ∧ u.2.2 ≤ 15000) (fun u => [(oS, .inr (2, [.ref qC, .ref qS, .ref qN, .ref qB, .int (nI u.2.2)])), (qC, .inl (cI, 17500, .inl u.1)), (qS, .inl (cI, 24, .inl (fun z9 => nI (u.2.1 z9)))), (qN, .inl (cI, 24, .inl (fun z9 => nI (ct z9)))), (qB, .inl (cZ, 24, .inl (fun z9 => pn_b (bl z9))))]) := by
  refine pn_start (by decide) (Nat.le_of_ble_eq_true rfl) ?_
  intro p e s m below meth c A Q ls hQ hAe Fx hr hlocks hN hK hP hD hS hA hl
  have hx := Fx.1
  have hb := Fx.2.1
  have hl : lv_has ls 6 [(0, .ref oS)] := hl
  refine lv_iconst (v := nI 0) hx hb d_S_pack_0 (by decide) ?_
  refine lv_istore_n (lv' := [(1, .int (nI 0)), (0, .ref oS)]) hx hb d_S_pack_1 rfl hl (by decide) rfl (fun ls hl => ?_)
  refine lv_iconst (v := nI 0) hx hb d_S_pack_2 (by decide) ?_
  refine lv_istore_n (lv' := [(2, .int (nI 0)), (1, .int (nI 0)), (0, .ref oS)]) hx hb d_S_pack_3 rfl hl (by decide) rfl (fun ls hl => ?_)
  refine lv_iconst (v := nI 0) hx hb d_S_pack_4 (by decide) ?_
  refine lv_istore_n (lv' := [(3, .int (nI 0)), (2, .int (nI 0)), (1, .int (nI 0)), (0, .ref oS)]) hx hb d_S_pack_5 rfl hl (by decide) rfl (fun ls hl => ?_)
  have loop6 : ∀ (N : Nat) (k : Nat) (fr : Nat) (tt : Nat) (C1 : Nat → Int32) (st1 : Nat → Nat), 24 - k < N → (k ≤ 24) → (pn_pk C1 st1 ct us G fr tt) → (pn_num (pn_wait st1 ct fr) 24 ≤ 24 - k) → (tt ≤ 625 * k) → ∀ (H : Heap) (locs : List Loc) (ls : Array Slot), lv_has ls 6 [(3, .int (nI k)), (2, .int (nI tt)), (1, .int (nI fr)), (0, .ref oS)] → va_P D pn_cl [(oS, .inr (2, [.ref qC, .ref qS, .ref qN, .ref qB, .int (nI us)])), (qC, .inl (cI, 17500, .inl C1)), (qS, .inl (cI, 24, .inl (fun z9 => nI (st1 z9)))), (qN, .inl (cI, 24, .inl (fun z9 => nI (ct z9)))), (qB, .inl (cZ, 24, .inl (fun z9 => pn_b (bl z9))))] H → va_D A [(oS, .inr (2, [.ref qC, .ref qS, .ref qN, .ref qB, .int (nI us)])), (qC, .inl (cI, 17500, .inl C1)), (qS, .inl (cI, 24, .inl (fun z9 => nI (st1 z9)))), (qN, .inl (cI, 24, .inl (fun z9 => nI (ct z9)))), (qB, .inl (cZ, 24, .inl (fun z9 => pn_b (bl z9))))] → va_S A s.heap H locs → W p l e ({ frames := 1, cells := 0, slots := 0, locals := 40 } : Room) s m ([.ref oS] : List Value).toArray below meth c H locs 0 0 Q (F0 m 6 ls []) := by
    intro N
    induction N with
    | zero => intro k fr tt C1 st1 hM; exact absurd hM (Nat.not_lt_zero _)
    | succ N ih6 =>
      intro k fr tt C1 st1 hM6 hk hpk hnum htt H locs ls hl hP hD hS
      refine lv_iload_n hx hb d_S_pack_6 rfl (lv_at hl 0 rfl) ?_
      refine lv_bipush (v := nI 24) hx hb d_S_pack_7 (by decide) ?_
      refine pw_icmp_ge (a := k) (b := 24) (tgt := 93) hx hb d_S_pack_9 (by decide) (by omega) (by omega) (fun h_9 => ?_) (fun h_9 => ?_)
      · skip
        have hno : ∀ r, r < 24 → 0 < ct r → st1 r < fr := fun r hr hp => by have z := pn_num_0 (P := pn_wait st1 ct fr) (n := 24) (by omega) r hr; simp only [pn_wait, decide_eq_false_iff_not] at z; omega
        refine lv_aload_n hx hb d_S_pack_93 rfl (lv_at hl 3 rfl) ?_
        refine lv_iload_n hx hb d_S_pack_94 rfl (lv_at hl 1 rfl) ?_
        refine pw_put Fx hK hP hD hS fld_S 0 rfl 4 (by decide) kw_36 rfl rfl rfl (Nat.le_of_ble_eq_true rfl) (w' := [(oS, .inr (2, [.ref qC, .ref qS, .ref qN, .ref qB, .int (nI tt)])), (qC, .inl (cI, 17500, .inl C1)), (qS, .inl (cI, 24, .inl (fun z9 => nI (st1 z9)))), (qN, .inl (cI, 24, .inl (fun z9 => nI (ct z9)))), (qB, .inl (cZ, 24, .inl (fun z9 => pn_b (bl z9))))]) rfl d_S_pack_95 (fun H locs hP hD hS => ?_)
        exact pn_retv ((C1, st1, tt)) Fx hr hlocks hQ hAe hP hD hS (by (try dsimp only); first | done | exact (⟨pn_pk_none hpk hno (by omega), by omega⟩)) d_S_pack_98
      · skip
        have c4 := hpk.2.1
        have c5 := hpk.2.2.1.1
        refine lv_aload_n hx hb d_S_pack_12 rfl (lv_at hl 3 rfl) ?_
        refine lv_iload_n hx hb d_S_pack_13 rfl (lv_at hl 2 rfl) ?_
        refine pn_bi (wr := []) [0, 1, 2, 3, 4] [] hP hD hS hA (pn_rV [.int (nI fr)] [] Fx hK hN hP hD [0, 1, 2, 3, 4] rfl rfl (c_S_firstFrom l D cI cZ cB cJ _ oS qC qS qN qB C1 st1 ct bl us fr (by omega) (fun r hr => by have := (hpk.2.2.1.2.2.1 r hr).1; omega) (fun r hr => by have := hpk.2.2.1.2.1 r hr; omega)) kw_270 cal_S_firstFrom inst_S_firstFrom sel_S_firstFrom ⟨by decide, by decide⟩ ⟨rfl, rfl⟩ 0 rfl rfl rfl rfl hl.1 (Nat.le_of_ble_eq_true rfl) d_S_pack_14 ⟨Nat.zero_le _, Nat.zero_le _⟩) rfl rfl rfl (by decide) (fun r_14 u_14 H locs hw hP hD hS => ?_)
        obtain ⟨⟩ := u_14
        have hP : va_P D pn_cl [(oS, .inr (2, [.ref qC, .ref qS, .ref qN, .ref qB, .int (nI us)])), (qC, .inl (cI, 17500, .inl C1)), (qS, .inl (cI, 24, .inl (fun z9 => nI (st1 z9)))), (qN, .inl (cI, 24, .inl (fun z9 => nI (ct z9)))), (qB, .inl (cZ, 24, .inl (fun z9 => pn_b (bl z9))))] H := hP
        have hD : va_D A [(oS, .inr (2, [.ref qC, .ref qS, .ref qN, .ref qB, .int (nI us)])), (qC, .inl (cI, 17500, .inl C1)), (qS, .inl (cI, 24, .inl (fun z9 => nI (st1 z9)))), (qN, .inl (cI, 24, .inl (fun z9 => nI (ct z9)))), (qB, .inl (cZ, 24, .inl (fun z9 => pn_b (bl z9))))] := hD
        refine lv_istore (lv' := [(4, .int r_14), (3, .int (nI k)), (2, .int (nI tt)), (1, .int (nI fr)), (0, .ref oS)]) hx hb d_S_pack_17 hl (by decide) rfl (fun ls hl => ?_)
        refine lv_iload hx hb d_S_pack_19 (lv_at hl 0 rfl) ?_
        refine lv_iconst (v := (-1)) hx hb d_S_pack_21 (by decide) ?_
        refine lv_icmp_ne (tgt := 28) hx hb d_S_pack_22 (by decide) (fun h_22 => ?_) (fun h_22 => ?_)
        · skip
          obtain ⟨k1, hk1, rfl, hc1, hf1, hm1⟩ := hw.resolve_left (fun z => h_22 z.1)
          have ps := pn_pk_step hpk hk1 hc1 hf1 hm1
          have b1 := hpk.2.2.1.2.1 k1 hk1
          have b2 := (hpk.2.2.1.2.2.1 k1 hk1).1
          have b3 := hpk.1
          have b4 := hpk.2.1
          have b5 := hpk.2.2.1.1
          refine lv_aload_n hx hb d_S_pack_28 rfl (lv_at hl 4 rfl) ?_
          refine pw_get Fx hK hP fld_S 0 rfl 1 (by decide) kw_33 (v := .ref qS) rfl d_S_pack_29 ?_
          refine lv_iload hx hb d_S_pack_32 (lv_at hl 0 rfl) ?_
          refine pw_iald Fx hK hP 2 0 (f := fun z9 => nI (st1 z9)) rfl rfl (k := k1) (by omega) (by decide) d_S_pack_34 ?_
          refine pn_topi (nI (st1 k1)) rfl ?_
          refine lv_istore (lv' := [(5, .int (nI (st1 k1))), (4, .int (nI k1)), (3, .int (nI k)), (2, .int (nI tt)), (1, .int (nI fr)), (0, .ref oS)]) hx hb d_S_pack_35 hl (by decide) rfl (fun ls hl => ?_)
          refine lv_aload_n hx hb d_S_pack_37 rfl (lv_at hl 5 rfl) ?_
          refine pw_get Fx hK hP fld_S 0 rfl 0 (by decide) kw_32 (v := .ref qC) rfl d_S_pack_38 ?_
          refine lv_iload hx hb d_S_pack_41 (lv_at hl 0 rfl) ?_
          refine lv_aload_n hx hb d_S_pack_43 rfl (lv_at hl 5 rfl) ?_
          refine pw_get Fx hK hP fld_S 0 rfl 0 (by decide) kw_32 (v := .ref qC) rfl d_S_pack_44 ?_
          refine lv_iload_n hx hb d_S_pack_47 rfl (lv_at hl 3 rfl) ?_
          refine lv_aload_n hx hb d_S_pack_48 rfl (lv_at hl 5 rfl) ?_
          refine pw_get Fx hK hP fld_S 0 rfl 2 (by decide) kw_34 (v := .ref qN) rfl d_S_pack_49 ?_
          refine lv_iload hx hb d_S_pack_52 (lv_at hl 1 rfl) ?_
          refine pw_iald Fx hK hP 3 0 (f := fun z9 => nI (ct z9)) rfl rfl (k := k1) (by omega) (by decide) d_S_pack_54 ?_
          refine pn_topi (nI (ct k1)) rfl ?_
          refine pw_copy Fx (hl.1) kw_274 kw_276 kw_275 kw_13 hK hP hD hS 1 1 0 (f := C1) (g := C1) rfl rfl rfl rfl (sp := st1 k1) (dp := tt) (n := ct k1) (by omega) (by omega) (by decide) (by decide) (rest := []) (by decide) (Nat.le_of_ble_eq_true rfl) (w' := [(oS, .inr (2, [.ref qC, .ref qS, .ref qN, .ref qB, .int (nI us)])), (qC, .inl (cI, 17500, .inl (va_cpy C1 C1 (st1 k1) tt (ct k1)))), (qS, .inl (cI, 24, .inl (fun z9 => nI (st1 z9)))), (qN, .inl (cI, 24, .inl (fun z9 => nI (ct z9)))), (qB, .inl (cZ, 24, .inl (fun z9 => pn_b (bl z9))))]) rfl d_S_pack_55 (fun H locs hP hD hS => ?_)
          refine lv_aload_n hx hb d_S_pack_58 rfl (lv_at hl 5 rfl) ?_
          refine pw_get Fx hK hP fld_S 0 rfl 1 (by decide) kw_33 (v := .ref qS) rfl d_S_pack_59 ?_
          refine lv_iload hx hb d_S_pack_62 (lv_at hl 1 rfl) ?_
          refine lv_iload_n hx hb d_S_pack_64 rfl (lv_at hl 3 rfl) ?_
          refine pw_iastN Fx hK hP hD hS 2 0 (g := st1) rfl rfl (k := k1) (by omega) (by decide) (w' := [(oS, .inr (2, [.ref qC, .ref qS, .ref qN, .ref qB, .int (nI us)])), (qC, .inl (cI, 17500, .inl (va_cpy C1 C1 (st1 k1) tt (ct k1)))), (qS, .inl (cI, 24, .inl (fun z9 => nI ((pn_up st1 k1 tt) z9)))), (qN, .inl (cI, 24, .inl (fun z9 => nI (ct z9)))), (qB, .inl (cZ, 24, .inl (fun z9 => pn_b (bl z9))))]) rfl d_S_pack_65 (fun H locs hP hD hS => ?_)
          refine lv_iload_n hx hb d_S_pack_66 rfl (lv_at hl 3 rfl) ?_
          refine lv_aload_n hx hb d_S_pack_67 rfl (lv_at hl 5 rfl) ?_
          refine pw_get Fx hK hP fld_S 0 rfl 2 (by decide) kw_34 (v := .ref qN) rfl d_S_pack_68 ?_
          refine lv_iload hx hb d_S_pack_71 (lv_at hl 1 rfl) ?_
          refine pw_iald Fx hK hP 3 0 (f := fun z9 => nI (ct z9)) rfl rfl (k := k1) (by omega) (by decide) d_S_pack_73 ?_
          refine pn_topi (nI (ct k1)) rfl ?_
          refine pw_iadd hx hb d_S_pack_74 ?_
          refine lv_istore_n (lv' := [(2, .int (nI (tt + (ct k1)))), (5, .int (nI (st1 k1))), (4, .int (nI k1)), (3, .int (nI k)), (1, .int (nI fr)), (0, .ref oS)]) hx hb d_S_pack_75 rfl hl (by decide) rfl (fun ls hl => ?_)
          refine lv_iload hx hb d_S_pack_76 (lv_at hl 1 rfl) ?_
          refine lv_aload_n hx hb d_S_pack_78 rfl (lv_at hl 5 rfl) ?_
          refine pw_get Fx hK hP fld_S 0 rfl 2 (by decide) kw_34 (v := .ref qN) rfl d_S_pack_79 ?_
          refine lv_iload hx hb d_S_pack_82 (lv_at hl 2 rfl) ?_
          refine pw_iald Fx hK hP 3 0 (f := fun z9 => nI (ct z9)) rfl rfl (k := k1) (by omega) (by decide) d_S_pack_84 ?_
          refine pn_topi (nI (ct k1)) rfl ?_
          refine pw_iadd hx hb d_S_pack_85 ?_
          refine lv_istore_n (lv' := [(1, .int (nI (st1 k1 + (ct k1)))), (2, .int (nI (tt + (ct k1)))), (5, .int (nI (st1 k1))), (4, .int (nI k1)), (3, .int (nI k)), (0, .ref oS)]) hx hb d_S_pack_86 rfl hl (by decide) rfl (fun ls hl => ?_)
          refine lv_iinc (v := nI (k + 1)) (lv' := [(3, .int (nI (k + 1))), (1, .int (nI (st1 k1 + (ct k1)))), (2, .int (nI (tt + (ct k1)))), (5, .int (nI (st1 k1))), (4, .int (nI k1)), (0, .ref oS)]) hx hb d_S_pack_87 hl (k := 4) rfl (nI_add _ 1) (by decide) rfl (fun ls hl => ?_)
          refine lv_goto (tgt := 6) hx hb d_S_pack_90 (by decide) ?_
          exact ih6 (k + 1) (st1 k1 + ct k1) (tt + ct k1) _ _ (by omega) (by omega) ps.1 (by have := ps.2; omega) (by omega) _ _ _ (lv_sub hl [0, 2, 1, 5] rfl) hP hD hS
        · skip
          have hno : ∀ r, r < 24 → 0 < ct r → st1 r < fr := (hw.resolve_right (fun z => by obtain ⟨k, a1, a2, a3⟩ := z; rw [h_22] at a2; have e := congrArg Int32.toInt a2; rw [nI_toInt (by omega)] at e; have e2 : (-1 : Int32).toInt = -1 := rfl; omega)).2
          refine lv_goto (tgt := 93) hx hb d_S_pack_25 (by decide) ?_
          refine lv_aload_n hx hb d_S_pack_93 rfl (lv_at hl 4 rfl) ?_
          refine lv_iload_n hx hb d_S_pack_94 rfl (lv_at hl 2 rfl) ?_
          refine pw_put Fx hK hP hD hS fld_S 0 rfl 4 (by decide) kw_36 rfl rfl rfl (Nat.le_of_ble_eq_true rfl) (w' := [(oS, .inr (2, [.ref qC, .ref qS, .ref qN, .ref qB, .int (nI tt)])), (qC, .inl (cI, 17500, .inl C1)), (qS, .inl (cI, 24, .inl (fun z9 => nI (st1 z9)))), (qN, .inl (cI, 24, .inl (fun z9 => nI (ct z9)))), (qB, .inl (cZ, 24, .inl (fun z9 => pn_b (bl z9))))]) rfl d_S_pack_95 (fun H locs hP hD hS => ?_)
          exact pn_retv ((C1, st1, tt)) Fx hr hlocks hQ hAe hP hD hS (by (try dsimp only); first | done | exact (⟨pn_pk_none hpk hno (by omega), by omega⟩)) d_S_pack_98
  exact loop6 _ 0 0 0 C st (Nat.lt_succ_self _) (by decide) (⟨Nat.le_refl _, Nat.zero_le _, hst, fun r _ _ h => by omega⟩) (pn_num_le _ _) (by decide) _ _ _ hl hP hD hS

set_option maxHeartbeats 4000000 in
set_option maxRecDepth 100000 in
theorem c_S_write (l : Launch) (D : va_G) (cI cZ cB cJ : ClassId) (sz : Nat) (oS qC qS qN qB : Nat) (C : Nat → Int32) (st ct : Nat → Nat) (bl : Nat → Bool) (us : Nat) (ot qt : Nat) (ft : Nat → Int32) (nt : Nat) (bt : Bool) (r : Nat) (G : Nat → Nat → Int32) (hr24 : r < 24) (hnt : nt ≤ 625) (hst : pn_st C st ct us G) : pn_Cv l D (pn_ty cI cZ cB cJ) y_S_write w_S_write ({ frames := 2, cells := 0, slots := 0, locals := 80 } : Room) [.ref oS, .int (nI r), .ref ot] [(oS, .inr (2, [.ref qC, .ref qS, .ref qN, .ref qB, .int (nI us)])), (qC, .inl (cI, 17500, .inl C)), (qS, .inl (cI, 24, .inl (fun z9 => nI (st z9)))), (qN, .inl (cI, 24, .inl (fun z9 => nI (ct z9)))), (qB, .inl (cZ, 24, .inl (fun z9 => pn_b (bl z9)))), (ot, .inr (1, [.ref qt, .int (nI nt), .int (pn_b bt)])), (qt, .inl (cI, 632, .inl ft))] sz (S := (Nat → Int32) × (Nat → Nat) × Nat) (fun u => pn_st u.1 u.2.1 (pn_up ct r nt) u.2.2 (pn_up G r ft)) (fun u => [(oS, .inr (2, [.ref qC, .ref qS, .ref qN, .ref qB, .int (nI u.2.2)])), (qC, .inl (cI, 17500, .inl u.1)), (qS, .inl (cI, 24, .inl (fun z9 => nI (u.2.1 z9)))), (qN, .inl (cI, 24, .inl (fun z9 => nI ((pn_up ct r nt) z9)))), (qB, .inl (cZ, 24, .inl (fun z9 => pn_b ((pn_up bl r bt) z9)))), (ot, .inr (1, [.ref qt, .int (nI nt), .int (pn_b bt)])), (qt, .inl (cI, 632, .inl ft))]) := by
  refine pn_start (by decide) (Nat.le_of_ble_eq_true rfl) ?_
  intro p e s m below meth c A Q ls hQ hAe Fx hr hlocks hN hK hP hD hS hA hl
  have hx := Fx.1
  have hb := Fx.2.1
  have hl : lv_has ls 3 [(0, .ref oS), (1, .int (nI r)), (2, .ref ot)] := hl
  have hus := hst.1
  refine lv_aload_n hx hb d_S_write_0 rfl (lv_at hl 0 rfl) ?_
  refine pw_get Fx hK hP fld_S 0 rfl 2 (by decide) kw_34 (v := .ref qN) rfl d_S_write_1 ?_
  refine lv_iload_n hx hb d_S_write_4 rfl (lv_at hl 1 rfl) ?_
  refine lv_iconst (v := nI 0) hx hb d_S_write_5 (by decide) ?_
  refine pw_iastN Fx hK hP hD hS 3 0 (g := ct) rfl rfl (k := r) (by omega) (by decide) (w' := [(oS, .inr (2, [.ref qC, .ref qS, .ref qN, .ref qB, .int (nI us)])), (qC, .inl (cI, 17500, .inl C)), (qS, .inl (cI, 24, .inl (fun z9 => nI (st z9)))), (qN, .inl (cI, 24, .inl (fun z9 => nI ((pn_up ct r 0) z9)))), (qB, .inl (cZ, 24, .inl (fun z9 => pn_b (bl z9)))), (ot, .inr (1, [.ref qt, .int (nI nt), .int (pn_b bt)])), (qt, .inl (cI, 632, .inl ft))]) rfl d_S_write_6 (fun H locs hP hD hS => ?_)
  have hcut := pn_st_cut (r := r) hst
  refine lv_aload_n hx hb d_S_write_7 rfl (lv_at hl 2 rfl) ?_
  refine pw_getN Fx hN hK hP fld_R 5 rfl 1 (by decide) kn_96 (v := .int (nI nt)) rfl d_S_write_8 ?_
  refine lv_sipush (v := nI 17500) hx hb d_S_write_11 (by decide) ?_
  refine lv_aload_n hx hb d_S_write_14 rfl (lv_at hl 0 rfl) ?_
  refine pw_get Fx hK hP fld_S 0 rfl 4 (by decide) kw_36 (v := .int (nI us)) rfl d_S_write_15 ?_
  refine pw_isub hx hb d_S_write_18 (by omega) ?_
  refine pw_icmp_le (a := nt) (b := 17500 - us) (tgt := 26) hx hb d_S_write_19 (by decide) (by omega) (by omega) (fun h_19 => ?_) (fun h_19 => ?_)
  · skip
    have hroom : us + nt ≤ 17500 := by omega
    refine lv_aload_n hx hb d_S_write_26 rfl (lv_at hl 2 rfl) ?_
    refine pw_getN Fx hN hK hP fld_R 5 rfl 0 (by decide) kn_90 (v := .ref qt) rfl d_S_write_27 ?_
    refine lv_iconst (v := nI 0) hx hb d_S_write_30 (by decide) ?_
    refine lv_aload_n hx hb d_S_write_31 rfl (lv_at hl 0 rfl) ?_
    refine pw_get Fx hK hP fld_S 0 rfl 0 (by decide) kw_32 (v := .ref qC) rfl d_S_write_32 ?_
    refine lv_aload_n hx hb d_S_write_35 rfl (lv_at hl 0 rfl) ?_
    refine pw_get Fx hK hP fld_S 0 rfl 4 (by decide) kw_36 (v := .int (nI us)) rfl d_S_write_36 ?_
    refine lv_aload_n hx hb d_S_write_39 rfl (lv_at hl 2 rfl) ?_
    refine pw_getN Fx hN hK hP fld_R 5 rfl 1 (by decide) kn_96 (v := .int (nI nt)) rfl d_S_write_40 ?_
    refine pw_copy Fx (hl.1) kw_274 kw_276 kw_275 kw_13 hK hP hD hS 6 1 0 (f := ft) (g := C) rfl rfl rfl rfl (sp := 0) (dp := us) (n := nt) (by omega) (by omega) (by decide) (by decide) (rest := []) (by decide) (Nat.le_of_ble_eq_true rfl) (w' := [(oS, .inr (2, [.ref qC, .ref qS, .ref qN, .ref qB, .int (nI us)])), (qC, .inl (cI, 17500, .inl (va_cpy ft C 0 us nt))), (qS, .inl (cI, 24, .inl (fun z9 => nI (st z9)))), (qN, .inl (cI, 24, .inl (fun z9 => nI ((pn_up ct r 0) z9)))), (qB, .inl (cZ, 24, .inl (fun z9 => pn_b (bl z9)))), (ot, .inr (1, [.ref qt, .int (nI nt), .int (pn_b bt)])), (qt, .inl (cI, 632, .inl ft))]) rfl d_S_write_43 (fun H locs hP hD hS => ?_)
    refine lv_aload_n hx hb d_S_write_46 rfl (lv_at hl 0 rfl) ?_
    refine pw_get Fx hK hP fld_S 0 rfl 1 (by decide) kw_33 (v := .ref qS) rfl d_S_write_47 ?_
    refine lv_iload_n hx hb d_S_write_50 rfl (lv_at hl 1 rfl) ?_
    refine lv_aload_n hx hb d_S_write_51 rfl (lv_at hl 0 rfl) ?_
    refine pw_get Fx hK hP fld_S 0 rfl 4 (by decide) kw_36 (v := .int (nI us)) rfl d_S_write_52 ?_
    refine pw_iastN Fx hK hP hD hS 2 0 (g := st) rfl rfl (k := r) (by omega) (by decide) (w' := [(oS, .inr (2, [.ref qC, .ref qS, .ref qN, .ref qB, .int (nI us)])), (qC, .inl (cI, 17500, .inl (va_cpy ft C 0 us nt))), (qS, .inl (cI, 24, .inl (fun z9 => nI ((pn_up st r us) z9)))), (qN, .inl (cI, 24, .inl (fun z9 => nI ((pn_up ct r 0) z9)))), (qB, .inl (cZ, 24, .inl (fun z9 => pn_b (bl z9)))), (ot, .inr (1, [.ref qt, .int (nI nt), .int (pn_b bt)])), (qt, .inl (cI, 632, .inl ft))]) rfl d_S_write_55 (fun H locs hP hD hS => ?_)
    refine lv_aload_n hx hb d_S_write_56 rfl (lv_at hl 0 rfl) ?_
    refine pw_get Fx hK hP fld_S 0 rfl 2 (by decide) kw_34 (v := .ref qN) rfl d_S_write_57 ?_
    refine lv_iload_n hx hb d_S_write_60 rfl (lv_at hl 1 rfl) ?_
    refine lv_aload_n hx hb d_S_write_61 rfl (lv_at hl 2 rfl) ?_
    refine pw_getN Fx hN hK hP fld_R 5 rfl 1 (by decide) kn_96 (v := .int (nI nt)) rfl d_S_write_62 ?_
    refine pw_iastN Fx hK hP hD hS 3 0 (g := pn_up ct r 0) rfl rfl (k := r) (by omega) (by decide) (w' := [(oS, .inr (2, [.ref qC, .ref qS, .ref qN, .ref qB, .int (nI us)])), (qC, .inl (cI, 17500, .inl (va_cpy ft C 0 us nt))), (qS, .inl (cI, 24, .inl (fun z9 => nI ((pn_up st r us) z9)))), (qN, .inl (cI, 24, .inl (fun z9 => nI ((pn_up (pn_up ct r 0) r nt) z9)))), (qB, .inl (cZ, 24, .inl (fun z9 => pn_b (bl z9)))), (ot, .inr (1, [.ref qt, .int (nI nt), .int (pn_b bt)])), (qt, .inl (cI, 632, .inl ft))]) rfl d_S_write_65 (fun H locs hP hD hS => ?_)
    rw [pn_up_up] at hP hD
    refine lv_aload_n hx hb d_S_write_66 rfl (lv_at hl 0 rfl) ?_
    refine pw_get Fx hK hP fld_S 0 rfl 3 (by decide) kw_35 (v := .ref qB) rfl d_S_write_67 ?_
    refine lv_iload_n hx hb d_S_write_70 rfl (lv_at hl 1 rfl) ?_
    refine lv_aload_n hx hb d_S_write_71 rfl (lv_at hl 2 rfl) ?_
    refine pw_getN Fx hN hK hP fld_R 5 rfl 2 (by decide) kn_102 (v := .int (pn_b bt)) rfl d_S_write_72 ?_
    refine pw_zastN Fx hK hP hD hS 4 1 (g := bl) rfl rfl (k := r) (by omega) (by decide) (w' := [(oS, .inr (2, [.ref qC, .ref qS, .ref qN, .ref qB, .int (nI us)])), (qC, .inl (cI, 17500, .inl (va_cpy ft C 0 us nt))), (qS, .inl (cI, 24, .inl (fun z9 => nI ((pn_up st r us) z9)))), (qN, .inl (cI, 24, .inl (fun z9 => nI ((pn_up ct r nt) z9)))), (qB, .inl (cZ, 24, .inl (fun z9 => pn_b ((pn_up bl r bt) z9)))), (ot, .inr (1, [.ref qt, .int (nI nt), .int (pn_b bt)])), (qt, .inl (cI, 632, .inl ft))]) rfl d_S_write_75 (fun H locs hP hD hS => ?_)
    refine lv_aload_n hx hb d_S_write_76 rfl (lv_at hl 0 rfl) ?_
    refine lv_dup hx hb d_S_write_77 rfl ?_
    refine pw_get Fx hK hP fld_S 0 rfl 4 (by decide) kw_36 (v := .int (nI us)) rfl d_S_write_78 ?_
    refine lv_aload_n hx hb d_S_write_81 rfl (lv_at hl 2 rfl) ?_
    refine pw_getN Fx hN hK hP fld_R 5 rfl 1 (by decide) kn_96 (v := .int (nI nt)) rfl d_S_write_82 ?_
    refine pw_iadd hx hb d_S_write_85 ?_
    refine pw_put Fx hK hP hD hS fld_S 0 rfl 4 (by decide) kw_36 rfl rfl rfl (Nat.le_of_ble_eq_true rfl) (w' := [(oS, .inr (2, [.ref qC, .ref qS, .ref qN, .ref qB, .int (nI (us + nt))])), (qC, .inl (cI, 17500, .inl (va_cpy ft C 0 us nt))), (qS, .inl (cI, 24, .inl (fun z9 => nI ((pn_up st r us) z9)))), (qN, .inl (cI, 24, .inl (fun z9 => nI ((pn_up ct r nt) z9)))), (qB, .inl (cZ, 24, .inl (fun z9 => pn_b ((pn_up bl r bt) z9)))), (ot, .inr (1, [.ref qt, .int (nI nt), .int (pn_b bt)])), (qt, .inl (cI, 632, .inl ft))]) rfl d_S_write_86 (fun H locs hP hD hS => ?_)
    exact pn_retv ((va_cpy ft C 0 us nt, pn_up st r us, us + nt)) Fx hr hlocks hQ hAe hP hD hS (by (try dsimp only); first | done | exact (pn_st_put hcut hr24 hnt hroom)) d_S_write_89
  · skip
    refine lv_aload_n hx hb d_S_write_22 rfl (lv_at hl 0 rfl) ?_
    refine pn_bv (wr := [(ot, .inr (1, [.ref qt, .int (nI nt), .int (pn_b bt)])), (qt, .inl (cI, 632, .inl ft))]) [0, 1, 2, 3, 4] [5, 6] hP hD hS hA (pn_rV [] [] Fx hK hN hP hD [0, 1, 2, 3, 4] rfl rfl (c_S_pack l D cI cZ cB cJ _ oS qC qS qN qB C st (pn_up ct r 0) bl us G hcut) kw_266 cal_S_pack inst_S_pack sel_S_pack ⟨by decide, by decide⟩ ⟨rfl, rfl⟩ 0 rfl rfl rfl rfl hl.1 (Nat.le_of_ble_eq_true rfl) d_S_write_23 ⟨Nat.zero_le _, Nat.zero_le _⟩) rfl rfl rfl (by decide) (fun u_23 H locs hw hP hD hS => ?_)
    obtain ⟨C1, st1, us1⟩ := u_23
    obtain ⟨hcut, hu1⟩ := hw
    have hP : va_P D pn_cl [(ot, .inr (1, [.ref qt, .int (nI nt), .int (pn_b bt)])), (qt, .inl (cI, 632, .inl ft)), (oS, .inr (2, [.ref qC, .ref qS, .ref qN, .ref qB, .int (nI us1)])), (qC, .inl (cI, 17500, .inl C1)), (qS, .inl (cI, 24, .inl (fun z9 => nI (st1 z9)))), (qN, .inl (cI, 24, .inl (fun z9 => nI ((pn_up ct r 0) z9)))), (qB, .inl (cZ, 24, .inl (fun z9 => pn_b (bl z9))))] H := hP
    have hD : va_D A [(ot, .inr (1, [.ref qt, .int (nI nt), .int (pn_b bt)])), (qt, .inl (cI, 632, .inl ft)), (oS, .inr (2, [.ref qC, .ref qS, .ref qN, .ref qB, .int (nI us1)])), (qC, .inl (cI, 17500, .inl C1)), (qS, .inl (cI, 24, .inl (fun z9 => nI (st1 z9)))), (qN, .inl (cI, 24, .inl (fun z9 => nI ((pn_up ct r 0) z9)))), (qB, .inl (cZ, 24, .inl (fun z9 => pn_b (bl z9))))] := hD
    dsimp only at hcut hu1
    have hroom : us1 + nt ≤ 17500 := by omega
    refine lv_aload_n hx hb d_S_write_26 rfl (lv_at hl 2 rfl) ?_
    refine pw_getN Fx hN hK hP fld_R 0 rfl 0 (by decide) kn_90 (v := .ref qt) rfl d_S_write_27 ?_
    refine lv_iconst (v := nI 0) hx hb d_S_write_30 (by decide) ?_
    refine lv_aload_n hx hb d_S_write_31 rfl (lv_at hl 0 rfl) ?_
    refine pw_get Fx hK hP fld_S 2 rfl 0 (by decide) kw_32 (v := .ref qC) rfl d_S_write_32 ?_
    refine lv_aload_n hx hb d_S_write_35 rfl (lv_at hl 0 rfl) ?_
    refine pw_get Fx hK hP fld_S 2 rfl 4 (by decide) kw_36 (v := .int (nI us1)) rfl d_S_write_36 ?_
    refine lv_aload_n hx hb d_S_write_39 rfl (lv_at hl 2 rfl) ?_
    refine pw_getN Fx hN hK hP fld_R 0 rfl 1 (by decide) kn_96 (v := .int (nI nt)) rfl d_S_write_40 ?_
    refine pw_copy Fx (hl.1) kw_274 kw_276 kw_275 kw_13 hK hP hD hS 1 3 0 (f := ft) (g := C1) rfl rfl rfl rfl (sp := 0) (dp := us1) (n := nt) (by omega) (by omega) (by decide) (by decide) (rest := []) (by decide) (Nat.le_of_ble_eq_true rfl) (w' := [(ot, .inr (1, [.ref qt, .int (nI nt), .int (pn_b bt)])), (qt, .inl (cI, 632, .inl ft)), (oS, .inr (2, [.ref qC, .ref qS, .ref qN, .ref qB, .int (nI us1)])), (qC, .inl (cI, 17500, .inl (va_cpy ft C1 0 us1 nt))), (qS, .inl (cI, 24, .inl (fun z9 => nI (st1 z9)))), (qN, .inl (cI, 24, .inl (fun z9 => nI ((pn_up ct r 0) z9)))), (qB, .inl (cZ, 24, .inl (fun z9 => pn_b (bl z9))))]) rfl d_S_write_43 (fun H locs hP hD hS => ?_)
    refine lv_aload_n hx hb d_S_write_46 rfl (lv_at hl 0 rfl) ?_
    refine pw_get Fx hK hP fld_S 2 rfl 1 (by decide) kw_33 (v := .ref qS) rfl d_S_write_47 ?_
    refine lv_iload_n hx hb d_S_write_50 rfl (lv_at hl 1 rfl) ?_
    refine lv_aload_n hx hb d_S_write_51 rfl (lv_at hl 0 rfl) ?_
    refine pw_get Fx hK hP fld_S 2 rfl 4 (by decide) kw_36 (v := .int (nI us1)) rfl d_S_write_52 ?_
    refine pw_iastN Fx hK hP hD hS 4 0 (g := st1) rfl rfl (k := r) (by omega) (by decide) (w' := [(ot, .inr (1, [.ref qt, .int (nI nt), .int (pn_b bt)])), (qt, .inl (cI, 632, .inl ft)), (oS, .inr (2, [.ref qC, .ref qS, .ref qN, .ref qB, .int (nI us1)])), (qC, .inl (cI, 17500, .inl (va_cpy ft C1 0 us1 nt))), (qS, .inl (cI, 24, .inl (fun z9 => nI ((pn_up st1 r us1) z9)))), (qN, .inl (cI, 24, .inl (fun z9 => nI ((pn_up ct r 0) z9)))), (qB, .inl (cZ, 24, .inl (fun z9 => pn_b (bl z9))))]) rfl d_S_write_55 (fun H locs hP hD hS => ?_)
    refine lv_aload_n hx hb d_S_write_56 rfl (lv_at hl 0 rfl) ?_
    refine pw_get Fx hK hP fld_S 2 rfl 2 (by decide) kw_34 (v := .ref qN) rfl d_S_write_57 ?_
    refine lv_iload_n hx hb d_S_write_60 rfl (lv_at hl 1 rfl) ?_
    refine lv_aload_n hx hb d_S_write_61 rfl (lv_at hl 2 rfl) ?_
    refine pw_getN Fx hN hK hP fld_R 0 rfl 1 (by decide) kn_96 (v := .int (nI nt)) rfl d_S_write_62 ?_
    refine pw_iastN Fx hK hP hD hS 5 0 (g := pn_up ct r 0) rfl rfl (k := r) (by omega) (by decide) (w' := [(ot, .inr (1, [.ref qt, .int (nI nt), .int (pn_b bt)])), (qt, .inl (cI, 632, .inl ft)), (oS, .inr (2, [.ref qC, .ref qS, .ref qN, .ref qB, .int (nI us1)])), (qC, .inl (cI, 17500, .inl (va_cpy ft C1 0 us1 nt))), (qS, .inl (cI, 24, .inl (fun z9 => nI ((pn_up st1 r us1) z9)))), (qN, .inl (cI, 24, .inl (fun z9 => nI ((pn_up (pn_up ct r 0) r nt) z9)))), (qB, .inl (cZ, 24, .inl (fun z9 => pn_b (bl z9))))]) rfl d_S_write_65 (fun H locs hP hD hS => ?_)
    rw [pn_up_up] at hP hD
    refine lv_aload_n hx hb d_S_write_66 rfl (lv_at hl 0 rfl) ?_
    refine pw_get Fx hK hP fld_S 2 rfl 3 (by decide) kw_35 (v := .ref qB) rfl d_S_write_67 ?_
    refine lv_iload_n hx hb d_S_write_70 rfl (lv_at hl 1 rfl) ?_
    refine lv_aload_n hx hb d_S_write_71 rfl (lv_at hl 2 rfl) ?_
    refine pw_getN Fx hN hK hP fld_R 0 rfl 2 (by decide) kn_102 (v := .int (pn_b bt)) rfl d_S_write_72 ?_
    refine pw_zastN Fx hK hP hD hS 6 1 (g := bl) rfl rfl (k := r) (by omega) (by decide) (w' := [(ot, .inr (1, [.ref qt, .int (nI nt), .int (pn_b bt)])), (qt, .inl (cI, 632, .inl ft)), (oS, .inr (2, [.ref qC, .ref qS, .ref qN, .ref qB, .int (nI us1)])), (qC, .inl (cI, 17500, .inl (va_cpy ft C1 0 us1 nt))), (qS, .inl (cI, 24, .inl (fun z9 => nI ((pn_up st1 r us1) z9)))), (qN, .inl (cI, 24, .inl (fun z9 => nI ((pn_up ct r nt) z9)))), (qB, .inl (cZ, 24, .inl (fun z9 => pn_b ((pn_up bl r bt) z9))))]) rfl d_S_write_75 (fun H locs hP hD hS => ?_)
    refine lv_aload_n hx hb d_S_write_76 rfl (lv_at hl 0 rfl) ?_
    refine lv_dup hx hb d_S_write_77 rfl ?_
    refine pw_get Fx hK hP fld_S 2 rfl 4 (by decide) kw_36 (v := .int (nI us1)) rfl d_S_write_78 ?_
    refine lv_aload_n hx hb d_S_write_81 rfl (lv_at hl 2 rfl) ?_
    refine pw_getN Fx hN hK hP fld_R 0 rfl 1 (by decide) kn_96 (v := .int (nI nt)) rfl d_S_write_82 ?_
    refine pw_iadd hx hb d_S_write_85 ?_
    refine pw_put Fx hK hP hD hS fld_S 2 rfl 4 (by decide) kw_36 rfl rfl rfl (Nat.le_of_ble_eq_true rfl) (w' := [(ot, .inr (1, [.ref qt, .int (nI nt), .int (pn_b bt)])), (qt, .inl (cI, 632, .inl ft)), (oS, .inr (2, [.ref qC, .ref qS, .ref qN, .ref qB, .int (nI (us1 + nt))])), (qC, .inl (cI, 17500, .inl (va_cpy ft C1 0 us1 nt))), (qS, .inl (cI, 24, .inl (fun z9 => nI ((pn_up st1 r us1) z9)))), (qN, .inl (cI, 24, .inl (fun z9 => nI ((pn_up ct r nt) z9)))), (qB, .inl (cZ, 24, .inl (fun z9 => pn_b ((pn_up bl r bt) z9))))]) rfl d_S_write_86 (fun H locs hP hD hS => ?_)
    exact pn_retv ((va_cpy ft C1 0 us1 nt, pn_up st1 r us1, us1 + nt)) Fx hr hlocks hQ hAe (hP.sub [2, 3, 4, 5, 6, 0, 1] rfl) (hD.sub [2, 3, 4, 5, 6, 0, 1] (by decide) rfl) hS (by (try dsimp only); first | done | exact (pn_st_put hcut hr24 hnt hroom)) d_S_write_89
