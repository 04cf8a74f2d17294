theorem pn_fol {a b x y : Int} (h : (0 ≤ a ∧ b ≤ 0) ∨ (a ≤ 0 ∧ 0 ≤ b)) (ha0 : -2147483647 ≤ a) (ha1 : a ≤ 2147483647) (hb0 : -2147483647 ≤ b) (hb1 : b ≤ 2147483647) (hx0 : 0 ≤ x) (hx : x < 4294967296) (hy0 : 0 ≤ y) (hy : y < 4294967296) : -9223372030412324865 ≤ a * x + b * y ∧ a * x + b * y ≤ 9223372030412324865 := by
  have key : ∀ {p q : Int}, 0 ≤ p → p ≤ 2147483647 → 0 ≤ q → q < 4294967296 → 0 ≤ p * q ∧ p * q ≤ 9223372030412324865 := fun {p q} h1 h2 h3 h4 => by
    have z1 := pn_mul_nonneg h1 h3
    have z2 := pn_mul_le h2 h3
    omega
  rcases h with ⟨h1, h2⟩ | ⟨h1, h2⟩
  · have k1 := key h1 ha1 hx0 hx
    have k2 := key (show 0 ≤ -b by omega) (by omega) hy0 hy
    rw [Int.neg_mul] at k2
    omega
  · have k1 := key (show 0 ≤ -a by omega) (by omega) hx0 hx
    have k2 := key h2 hb1 hy0 hy
    rw [Int.neg_mul] at k1
    omega
theorem pn_fol_step {G f g0 : Nat → Int32} {i : Nat} {k a b t : Int} (hV : pn_V G i + k * pn_E i = a * pn_V f i + b * pn_V g0 i) (ht : t = k + (a * pn_u (f i) + b * pn_u (g0 i))) : pn_V (upd G i (pn_I t)) (i + 1) + t / 4294967296 * pn_E (i + 1) = a * pn_V f (i + 1) + b * pn_V g0 (i + 1) := by
  rw [pn_put hV]
  simp only [pn_V_s]
  rw [ht]
  grind
theorem pn_fol_end {G : Nat → Int32} {n : Nat} {k X : Int} (hV : pn_V G n + k * pn_E n = X) (h0 : 0 ≤ X) (h1 : X < pn_E n) : pn_V G n = X := (pn_apart (x := k) (y := 0) (pn_V_nonneg G n) (pn_V_lt G n) h0 h1 (by omega)).2

set_option maxHeartbeats 4000000 in
set_option maxRecDepth 100000 in
theorem c_E_follow (l : Launch) (D : va_G) (cI cZ cB cJ : ClassId) (sz : Nat) (oe : Nat) (ka kb kc kd : Int) (og qg : Nat) (fg : Nat → Int32) (ng : Nat) (bg : Bool) (os qs : Nat) (fs : Nat → Int32) (ns : Nat) (bs : Bool) (hSg : pn_lehS ka kb kc kd) (hba : (-2147483647 ≤ ka ∧ ka ≤ 2147483647)) (hbb : (-2147483647 ≤ kb ∧ kb ≤ 2147483647)) (hbc : (-2147483647 ≤ kc ∧ kc ≤ 2147483647)) (hbd : (-2147483647 ≤ kd ∧ kd ≤ 2147483647)) (hng : ng ≤ 632) (hns : ns ≤ ng) (hX0 : 0 ≤ ka * pn_V fg ng + kb * pn_V fs ns) (hX1 : ka * pn_V fg ng + kb * pn_V fs ns < pn_E ng) (hY0 : 0 ≤ kc * pn_V fg ng + kd * pn_V fs ns) (hY1 : kc * pn_V fg ng + kd * pn_V fs ns < pn_E ng) : pn_Cv l D (pn_ty cI cZ cB cJ) y_E_follow w_E_follow ({ frames := 1, cells := 0, slots := 0, locals := 40 } : Room) [.ref oe, .ref og, .ref os] [(oe, .inr (0, [.long (pn_L ka), .long (pn_L kb), .long (pn_L kc), .long (pn_L kd)])), (og, .inr (1, [.ref qg, .int (nI ng), .int (pn_b bg)])), (qg, .inl (cI, 632, .inl fg)), (os, .inr (1, [.ref qs, .int (nI ns), .int (pn_b bs)])), (qs, .inl (cI, 632, .inl fs))] sz (S := ((Nat → Int32) × Nat) × ((Nat → Int32) × Nat)) (fun u => (u.1.2 ≤ ng ∧ pn_nz u.1.1 u.1.2 ∧ pn_V u.1.1 u.1.2 = ka * pn_V fg ng + kb * pn_V fs ns) ∧ (u.2.2 ≤ ng ∧ pn_nz u.2.1 u.2.2 ∧ pn_V u.2.1 u.2.2 = kc * pn_V fg ng + kd * pn_V fs ns)) (fun u => [(oe, .inr (0, [.long (pn_L ka), .long (pn_L kb), .long (pn_L kc), .long (pn_L kd)])), (og, .inr (1, [.ref qg, .int (nI u.1.2), .int (pn_b false)])), (qg, .inl (cI, 632, .inl u.1.1)), (os, .inr (1, [.ref qs, .int (nI u.2.2), .int (pn_b false)])), (qs, .inl (cI, 632, .inl u.2.1))]) := by
  refine pn_start (by decide) (Nat.le_of_ble_eq_true rfl) ?_
  intro p e s m below meth c A Q ls hQ hAe Fx hr hlocks hN hK hP hD hS hA hl
  have hx := Fx.1
  have hb := Fx.2.1
  have hl : lv_has ls 13 [(0, .ref oe), (1, .ref og), (2, .ref os)] := hl
  have hs1 : (0 ≤ ka ∧ kb ≤ 0) ∨ (ka ≤ 0 ∧ 0 ≤ kb) := hSg.elim (fun z => Or.inl ⟨z.1, z.2.1⟩) (fun z => Or.inr ⟨z.1, z.2.1⟩)
  have hs2 : (0 ≤ kc ∧ kd ≤ 0) ∨ (kc ≤ 0 ∧ 0 ≤ kd) := hSg.elim (fun z => Or.inr ⟨z.2.2.1, z.2.2.2⟩) (fun z => Or.inl ⟨z.2.2.1, z.2.2.2⟩)
  refine lv_aload_n hx hb d_E_follow_0 rfl (lv_at hl 1 rfl) ?_
  refine pw_getN Fx hN hK hP fld_R 1 rfl 1 (by decide) kn_97 (v := .int (nI ng)) rfl d_E_follow_1 ?_
  refine lv_istore_n (lv' := [(3, .int (nI ng)), (0, .ref oe), (1, .ref og), (2, .ref os)]) hx hb d_E_follow_4 rfl hl (by decide) rfl (fun ls hl => ?_)
  refine lv_aload_n hx hb d_E_follow_5 rfl (lv_at hl 3 rfl) ?_
  refine lv_aload_n hx hb d_E_follow_6 rfl (lv_at hl 3 rfl) ?_
  refine pw_getN Fx hN hK hP fld_R 3 rfl 1 (by decide) kn_97 (v := .int (nI ns)) rfl d_E_follow_7 ?_
  refine lv_iload_n hx hb d_E_follow_10 rfl (lv_at hl 0 rfl) ?_
  refine pn_bv (wr := [(oe, .inr (0, [.long (pn_L ka), .long (pn_L kb), .long (pn_L kc), .long (pn_L kd)])), (og, .inr (1, [.ref qg, .int (nI ng), .int (pn_b bg)])), (qg, .inl (cI, 632, .inl fg))]) [3, 4] [0, 1, 2] hP hD hS hA (pn_rVN [.int (nI ns), .int (nI ng)] [] Fx hK hN hP hD [3, 4] rfl rfl (c_R_clear l D cI cZ cB cJ _ os qs fs ns ns ng bs (by omega) (by omega)) kn_562 cal_R_clear inst_R_clear sel_R_clear ⟨by decide, by decide⟩ ⟨rfl, rfl⟩ 0 rfl rfl rfl rfl hl.1 (Nat.le_of_ble_eq_true rfl) d_E_follow_11 ⟨Nat.zero_le _, Nat.zero_le _⟩) rfl rfl rfl (by decide) (fun u_11 H locs hw hP hD hS => ?_)
  have hP : va_P D pn_cl [(oe, .inr (0, [.long (pn_L ka), .long (pn_L kb), .long (pn_L kc), .long (pn_L kd)])), (og, .inr (1, [.ref qg, .int (nI ng), .int (pn_b bg)])), (qg, .inl (cI, 632, .inl fg)), (os, .inr (1, [.ref qs, .int (nI ns), .int (pn_b bs)])), (qs, .inl (cI, 632, .inl u_11))] H := hP
  have hD : va_D A [(oe, .inr (0, [.long (pn_L ka), .long (pn_L kb), .long (pn_L kc), .long (pn_L kd)])), (og, .inr (1, [.ref qg, .int (nI ng), .int (pn_b bg)])), (qg, .inl (cI, 632, .inl fg)), (os, .inr (1, [.ref qs, .int (nI ns), .int (pn_b bs)])), (qs, .inl (cI, 632, .inl u_11))] := hD
  have hc9 : pn_V u_11 ng = pn_V fs ns := by rw [pn_V_more hns (fun j h1 h2 => by rw [hw j, if_pos ⟨h1, h2⟩])]; exact pn_V_congr (fun j hj => by rw [hw j, if_neg (by omega)])
  refine lv_lconst (v := pn_L 0) hx hb d_E_follow_14 (by decide) ?_
  refine lv_lstore (lv' := [(4, .long (pn_L 0)), (3, .int (nI ng)), (0, .ref oe), (1, .ref og), (2, .ref os)]) hx hb d_E_follow_15 hl (by decide) rfl (fun ls hl => ?_)
  refine lv_lconst (v := pn_L 0) hx hb d_E_follow_17 (by decide) ?_
  refine lv_lstore (lv' := [(6, .long (pn_L 0)), (4, .long (pn_L 0)), (3, .int (nI ng)), (0, .ref oe), (1, .ref og), (2, .ref os)]) hx hb d_E_follow_18 hl (by decide) rfl (fun ls hl => ?_)
  refine lv_iconst (v := nI 0) hx hb d_E_follow_20 (by decide) ?_
  refine lv_istore (lv' := [(8, .int (nI 0)), (6, .long (pn_L 0)), (4, .long (pn_L 0)), (3, .int (nI ng)), (0, .ref oe), (1, .ref og), (2, .ref os)]) hx hb d_E_follow_21 hl (by decide) rfl (fun ls hl => ?_)
  have loop23 : ∀ (N : Nat) (i : Nat) (G : Nat → Int32) (Y : Nat → Int32) (kx : Int) (ky : Int), ng - i < N → (i ≤ ng) → (∀ j, i ≤ j → G j = fg j) → (∀ j, i ≤ j → Y j = u_11 j) → (-2147483648 ≤ kx ∧ kx ≤ 2147483648) → (-2147483648 ≤ ky ∧ ky ≤ 2147483648) → (pn_V G i + kx * pn_E i = ka * pn_V fg i + kb * pn_V u_11 i) → (pn_V Y i + ky * pn_E i = kc * pn_V fg i + kd * pn_V u_11 i) → ∀ (H : Heap) (locs : List Loc) (ls : Array Slot), lv_has ls 13 [(8, .int (nI i)), (4, .long (pn_L kx)), (6, .long (pn_L ky)), (3, .int (nI ng)), (0, .ref oe), (1, .ref og), (2, .ref os)] → va_P D pn_cl [(oe, .inr (0, [.long (pn_L ka), .long (pn_L kb), .long (pn_L kc), .long (pn_L kd)])), (og, .inr (1, [.ref qg, .int (nI ng), .int (pn_b bg)])), (qg, .inl (cI, 632, .inl G)), (os, .inr (1, [.ref qs, .int (nI ns), .int (pn_b bs)])), (qs, .inl (cI, 632, .inl Y))] H → va_D A [(oe, .inr (0, [.long (pn_L ka), .long (pn_L kb), .long (pn_L kc), .long (pn_L kd)])), (og, .inr (1, [.ref qg, .int (nI ng), .int (pn_b bg)])), (qg, .inl (cI, 632, .inl G)), (os, .inr (1, [.ref qs, .int (nI ns), .int (pn_b bs)])), (qs, .inl (cI, 632, .inl Y))] → va_S A s.heap H locs → W p l e ({ frames := 1, cells := 0, slots := 0, locals := 40 } : Room) s m ([.ref oe, .ref og, .ref os] : List Value).toArray below meth c H locs 0 0 Q (F0 m 23 ls []) := by
    intro N
    induction N with
    | zero => intro i G Y kx ky hM; exact absurd hM (Nat.not_lt_zero _)
    | succ N ih23 =>
      intro i G Y kx ky hM23 hi hG hY hkx hky hVx hVy H locs ls hl hP hD hS
      refine lv_iload hx hb d_E_follow_23 (lv_at hl 0 rfl) ?_
      refine lv_iload_n hx hb d_E_follow_25 rfl (lv_at hl 3 rfl) ?_
      refine pw_icmp_ge (a := i) (b := ng) (tgt := 137) hx hb d_E_follow_26 (by decide) (by omega) (by omega) (fun h_26 => ?_) (fun h_26 => ?_)
      · skip
        obtain rfl : ng = i := by omega
        refine lv_aload_n hx hb d_E_follow_137 rfl (lv_at hl 5 rfl) ?_
        refine lv_iload_n hx hb d_E_follow_138 rfl (lv_at hl 3 rfl) ?_
        refine pn_bv (wr := [(oe, .inr (0, [.long (pn_L ka), .long (pn_L kb), .long (pn_L kc), .long (pn_L kd)])), (os, .inr (1, [.ref qs, .int (nI ns), .int (pn_b bs)])), (qs, .inl (cI, 632, .inl Y))]) [1, 2] [0, 3, 4] hP hD hS hA (pn_rVN [.int (nI ng)] [] Fx hK hN hP hD [1, 2] rfl rfl (c_R_fit l D cI cZ cB cJ _ og qg G ng ng bg (by omega)) kn_564 cal_R_fit inst_R_fit sel_R_fit ⟨by decide, by decide⟩ ⟨rfl, rfl⟩ 0 rfl rfl rfl rfl hl.1 (Nat.le_of_ble_eq_true rfl) d_E_follow_139 ⟨Nat.zero_le _, Nat.zero_le _⟩) rfl rfl rfl (by decide) (fun u_139 H locs hw hP hD hS => ?_)
        obtain ⟨hjg, hVg9, hzg9⟩ := hw
        have hP : va_P D pn_cl [(oe, .inr (0, [.long (pn_L ka), .long (pn_L kb), .long (pn_L kc), .long (pn_L kd)])), (os, .inr (1, [.ref qs, .int (nI ns), .int (pn_b bs)])), (qs, .inl (cI, 632, .inl Y)), (og, .inr (1, [.ref qg, .int (nI u_139), .int (pn_b false)])), (qg, .inl (cI, 632, .inl G))] H := hP
        have hD : va_D A [(oe, .inr (0, [.long (pn_L ka), .long (pn_L kb), .long (pn_L kc), .long (pn_L kd)])), (os, .inr (1, [.ref qs, .int (nI ns), .int (pn_b bs)])), (qs, .inl (cI, 632, .inl Y)), (og, .inr (1, [.ref qg, .int (nI u_139), .int (pn_b false)])), (qg, .inl (cI, 632, .inl G))] := hD
        refine lv_aload_n hx hb d_E_follow_142 rfl (lv_at hl 6 rfl) ?_
        refine lv_iload_n hx hb d_E_follow_143 rfl (lv_at hl 3 rfl) ?_
        refine pn_bv (wr := [(oe, .inr (0, [.long (pn_L ka), .long (pn_L kb), .long (pn_L kc), .long (pn_L kd)])), (og, .inr (1, [.ref qg, .int (nI u_139), .int (pn_b false)])), (qg, .inl (cI, 632, .inl G))]) [1, 2] [0, 3, 4] hP hD hS hA (pn_rVN [.int (nI ng)] [] Fx hK hN hP hD [1, 2] rfl rfl (c_R_fit l D cI cZ cB cJ _ os qs Y ns ng bs (by omega)) kn_564 cal_R_fit inst_R_fit sel_R_fit ⟨by decide, by decide⟩ ⟨rfl, rfl⟩ 0 rfl rfl rfl rfl hl.1 (Nat.le_of_ble_eq_true rfl) d_E_follow_144 ⟨Nat.zero_le _, Nat.zero_le _⟩) rfl rfl rfl (by decide) (fun u_144 H locs hw hP hD hS => ?_)
        obtain ⟨hjs, hVs9, hzs9⟩ := hw
        have hP : va_P D pn_cl [(oe, .inr (0, [.long (pn_L ka), .long (pn_L kb), .long (pn_L kc), .long (pn_L kd)])), (og, .inr (1, [.ref qg, .int (nI u_139), .int (pn_b false)])), (qg, .inl (cI, 632, .inl G)), (os, .inr (1, [.ref qs, .int (nI u_144), .int (pn_b false)])), (qs, .inl (cI, 632, .inl Y))] H := hP
        have hD : va_D A [(oe, .inr (0, [.long (pn_L ka), .long (pn_L kb), .long (pn_L kc), .long (pn_L kd)])), (og, .inr (1, [.ref qg, .int (nI u_139), .int (pn_b false)])), (qg, .inl (cI, 632, .inl G)), (os, .inr (1, [.ref qs, .int (nI u_144), .int (pn_b false)])), (qs, .inl (cI, 632, .inl Y))] := hD
        exact pn_retv (((G, u_139), (Y, u_144))) Fx hr hlocks hQ hAe hP hD hS (by (try dsimp only); first | done | exact (by rw [hc9] at hVx hVy; exact ⟨⟨hjg, hzg9, by rw [hVg9]; exact pn_fol_end hVx hX0 hX1⟩, ⟨hjs, hzs9, by rw [hVs9]; exact pn_fol_end hVy hY0 hY1⟩⟩)) d_E_follow_147
      · skip
        refine lv_aload_n hx hb d_E_follow_29 rfl (lv_at hl 5 rfl) ?_
        refine pw_getN Fx hN hK hP fld_R 1 rfl 0 (by decide) kn_92 (v := .ref qg) rfl d_E_follow_30 ?_
        refine lv_iload hx hb d_E_follow_33 (lv_at hl 0 rfl) ?_
        refine pw_iald Fx hK hP 2 0 (f := G) rfl rfl (k := i) (by omega) (by decide) d_E_follow_35 ?_
        refine pw_i2l hx hb d_E_follow_36 ?_
        refine lv_ldc2 hx hb Fx.2.2.2.1 (Fx.2.2.2.2 _ kw_563) d_E_follow_37 ?_
        refine pw_limb hx hb d_E_follow_40 ?_
        refine lv_lstore (lv' := [(9, .long (pn_L (pn_u (G i)))), (8, .int (nI i)), (4, .long (pn_L kx)), (6, .long (pn_L ky)), (3, .int (nI ng)), (0, .ref oe), (1, .ref og), (2, .ref os)]) hx hb d_E_follow_41 hl (by decide) rfl (fun ls hl => ?_)
        refine lv_aload_n hx hb d_E_follow_43 rfl (lv_at hl 7 rfl) ?_
        refine pw_getN Fx hN hK hP fld_R 3 rfl 0 (by decide) kn_92 (v := .ref qs) rfl d_E_follow_44 ?_
        refine lv_iload hx hb d_E_follow_47 (lv_at hl 1 rfl) ?_
        refine pw_iald Fx hK hP 4 0 (f := Y) rfl rfl (k := i) (by omega) (by decide) d_E_follow_49 ?_
        refine pw_i2l hx hb d_E_follow_50 ?_
        refine lv_ldc2 hx hb Fx.2.2.2.1 (Fx.2.2.2.2 _ kw_563) d_E_follow_51 ?_
        refine pw_limb hx hb d_E_follow_54 ?_
        refine lv_lstore (lv' := [(11, .long (pn_L (pn_u (Y i)))), (9, .long (pn_L (pn_u (G i)))), (8, .int (nI i)), (4, .long (pn_L kx)), (6, .long (pn_L ky)), (3, .int (nI ng)), (0, .ref oe), (1, .ref og), (2, .ref os)]) hx hb d_E_follow_55 hl (by decide) rfl (fun ls hl => ?_)
        refine lv_lload hx hb d_E_follow_57 (lv_at hl 3 rfl) ?_
        refine lv_aload_n hx hb d_E_follow_59 rfl (lv_at hl 6 rfl) ?_
        refine pw_get Fx hK hP fld_E 0 rfl 0 (by decide) kw_56 (v := .long (pn_L ka)) rfl d_E_follow_60 ?_
        refine lv_lload hx hb d_E_follow_63 (lv_at hl 1 rfl) ?_
        refine pw_lmul hx hb d_E_follow_65 ?_
        refine lv_aload_n hx hb d_E_follow_66 rfl (lv_at hl 6 rfl) ?_
        refine pw_get Fx hK hP fld_E 0 rfl 1 (by decide) kw_57 (v := .long (pn_L kb)) rfl d_E_follow_67 ?_
        refine lv_lload hx hb d_E_follow_70 (lv_at hl 0 rfl) ?_
        refine pw_lmul hx hb d_E_follow_72 ?_
        refine pw_ladd hx hb d_E_follow_73 ?_
        have f1 := pn_fol hs1 hba.1 hba.2 hbb.1 hbb.2 (pn_u_nonneg (G i)) (pn_u_lt (G i)) (pn_u_nonneg (Y i)) (pn_u_lt (Y i))
        obtain ⟨t1, ht1⟩ : ∃ t1, t1 = kx + (ka * pn_u (G i) + kb * pn_u (Y i)) := ⟨_, rfl⟩
        refine pw_ladd hx hb d_E_follow_74 ?_
        refine pn_topl (pn_L t1) (by rw [ht1]) ?_
        refine lv_lstore (lv' := [(4, .long (pn_L t1)), (11, .long (pn_L (pn_u (Y i)))), (9, .long (pn_L (pn_u (G i)))), (8, .int (nI i)), (6, .long (pn_L ky)), (3, .int (nI ng)), (0, .ref oe), (1, .ref og), (2, .ref os)]) hx hb d_E_follow_75 hl (by decide) rfl (fun ls hl => ?_)
        refine lv_lload hx hb d_E_follow_77 (lv_at hl 4 rfl) ?_
        refine lv_aload_n hx hb d_E_follow_79 rfl (lv_at hl 6 rfl) ?_
        refine pw_get Fx hK hP fld_E 0 rfl 2 (by decide) kw_58 (v := .long (pn_L kc)) rfl d_E_follow_80 ?_
        refine lv_lload hx hb d_E_follow_83 (lv_at hl 2 rfl) ?_
        refine pw_lmul hx hb d_E_follow_85 ?_
        refine lv_aload_n hx hb d_E_follow_86 rfl (lv_at hl 6 rfl) ?_
        refine pw_get Fx hK hP fld_E 0 rfl 3 (by decide) kw_59 (v := .long (pn_L kd)) rfl d_E_follow_87 ?_
        refine lv_lload hx hb d_E_follow_90 (lv_at hl 1 rfl) ?_
        refine pw_lmul hx hb d_E_follow_92 ?_
        refine pw_ladd hx hb d_E_follow_93 ?_
        have f2 := pn_fol hs2 hbc.1 hbc.2 hbd.1 hbd.2 (pn_u_nonneg (G i)) (pn_u_lt (G i)) (pn_u_nonneg (Y i)) (pn_u_lt (Y i))
        obtain ⟨t2, ht2⟩ : ∃ t2, t2 = ky + (kc * pn_u (G i) + kd * pn_u (Y i)) := ⟨_, rfl⟩
        refine pw_ladd hx hb d_E_follow_94 ?_
        refine pn_topl (pn_L t2) (by rw [ht2]) ?_
        refine lv_lstore (lv' := [(6, .long (pn_L t2)), (4, .long (pn_L t1)), (11, .long (pn_L (pn_u (Y i)))), (9, .long (pn_L (pn_u (G i)))), (8, .int (nI i)), (3, .int (nI ng)), (0, .ref oe), (1, .ref og), (2, .ref os)]) hx hb d_E_follow_95 hl (by decide) rfl (fun ls hl => ?_)
        refine lv_aload_n hx hb d_E_follow_97 rfl (lv_at hl 7 rfl) ?_
        refine pw_getN Fx hN hK hP fld_R 1 rfl 0 (by decide) kn_92 (v := .ref qg) rfl d_E_follow_98 ?_
        refine lv_iload hx hb d_E_follow_101 (lv_at hl 4 rfl) ?_
        refine lv_lload hx hb d_E_follow_103 (lv_at hl 1 rfl) ?_
        refine pw_l2i hx hb d_E_follow_105 ?_
        refine pw_iast Fx hK hP hD hS 2 0 (f := G) rfl rfl (k := i) (by omega) (by decide) (w' := [(oe, .inr (0, [.long (pn_L ka), .long (pn_L kb), .long (pn_L kc), .long (pn_L kd)])), (og, .inr (1, [.ref qg, .int (nI ng), .int (pn_b bg)])), (qg, .inl (cI, 632, .inl (upd G i (pn_I t1)))), (os, .inr (1, [.ref qs, .int (nI ns), .int (pn_b bs)])), (qs, .inl (cI, 632, .inl Y))]) rfl d_E_follow_106 (fun H locs hP hD hS => ?_)
        refine lv_aload_n hx hb d_E_follow_107 rfl (lv_at hl 8 rfl) ?_
        refine pw_getN Fx hN hK hP fld_R 3 rfl 0 (by decide) kn_92 (v := .ref qs) rfl d_E_follow_108 ?_
        refine lv_iload hx hb d_E_follow_111 (lv_at hl 4 rfl) ?_
        refine lv_lload hx hb d_E_follow_113 (lv_at hl 0 rfl) ?_
        refine pw_l2i hx hb d_E_follow_115 ?_
        refine pw_iast Fx hK hP hD hS 4 0 (f := Y) rfl rfl (k := i) (by omega) (by decide) (w' := [(oe, .inr (0, [.long (pn_L ka), .long (pn_L kb), .long (pn_L kc), .long (pn_L kd)])), (og, .inr (1, [.ref qg, .int (nI ng), .int (pn_b bg)])), (qg, .inl (cI, 632, .inl (upd G i (pn_I t1)))), (os, .inr (1, [.ref qs, .int (nI ns), .int (pn_b bs)])), (qs, .inl (cI, 632, .inl (upd Y i (pn_I t2))))]) rfl d_E_follow_116 (fun H locs hP hD hS => ?_)
        refine lv_lload hx hb d_E_follow_117 (lv_at hl 1 rfl) ?_
        refine lv_bipush (v := 32) hx hb d_E_follow_119 (by decide) ?_
        refine pw_lshr32 hx hb d_E_follow_121 (by omega) (by omega) ?_
        refine lv_lstore (lv' := [(4, .long (pn_L (t1 / 4294967296))), (6, .long (pn_L t2)), (11, .long (pn_L (pn_u (Y i)))), (9, .long (pn_L (pn_u (G i)))), (8, .int (nI i)), (3, .int (nI ng)), (0, .ref oe), (1, .ref og), (2, .ref os)]) hx hb d_E_follow_122 hl (by decide) rfl (fun ls hl => ?_)
        refine lv_lload hx hb d_E_follow_124 (lv_at hl 1 rfl) ?_
        refine lv_bipush (v := 32) hx hb d_E_follow_126 (by decide) ?_
        refine pw_lshr32 hx hb d_E_follow_128 (by omega) (by omega) ?_
        refine lv_lstore (lv' := [(6, .long (pn_L (t2 / 4294967296))), (4, .long (pn_L (t1 / 4294967296))), (11, .long (pn_L (pn_u (Y i)))), (9, .long (pn_L (pn_u (G i)))), (8, .int (nI i)), (3, .int (nI ng)), (0, .ref oe), (1, .ref og), (2, .ref os)]) hx hb d_E_follow_129 hl (by decide) rfl (fun ls hl => ?_)
        refine lv_iinc (v := nI (i + 1)) (lv' := [(8, .int (nI (i + 1))), (6, .long (pn_L (t2 / 4294967296))), (4, .long (pn_L (t1 / 4294967296))), (11, .long (pn_L (pn_u (Y i)))), (9, .long (pn_L (pn_u (G i)))), (3, .int (nI ng)), (0, .ref oe), (1, .ref og), (2, .ref os)]) hx hb d_E_follow_131 hl (k := 4) rfl (nI_add _ 1) (by decide) rfl (fun ls hl => ?_)
        refine lv_goto (tgt := 23) hx hb d_E_follow_134 (by decide) ?_
        exact ih23 (i + 1) _ _ (t1 / 4294967296) (t2 / 4294967296) (by omega) (by omega) (fun j h => by rw [pk_un (by omega)]; exact hG j (by omega)) (fun j h => by rw [pk_un (by omega)]; exact hY j (by omega)) (by omega) (by omega) (pn_fol_step hVx (by rw [← hG i (Nat.le_refl i), ← hY i (Nat.le_refl i)]; exact ht1)) (pn_fol_step hVy (by rw [← hG i (Nat.le_refl i), ← hY i (Nat.le_refl i)]; exact ht2)) _ _ _ (lv_sub hl [0, 2, 1, 5, 6, 7, 8] rfl) hP hD hS
  exact loop23 _ 0 fg u_11 0 0 (Nat.lt_succ_self _) (Nat.zero_le _) (fun j _ => rfl) (fun j _ => rfl) (by decide) (by decide) (by simp [pn_V_0]) (by simp [pn_V_0]) _ _ _ (lv_sub hl [0, 2, 1, 3, 4, 5, 6] rfl) hP hD hS
