def pn_digs (vn : Nat) (t : Nat → Nat) (s : Nat) : Prop := ∀ x, s ≤ x → x < 6031 → t x = 48 + vn / 10 ^ (6030 - x) % 10
def pn_isD (vn D : Nat) : Prop := 1 ≤ D ∧ vn < 10 ^ D ∧ (D = 1 ∨ 10 ^ (D - 1) ≤ vn)
theorem pn_digs_step {vn c s d : Nat} {t t2 : Nat → Nat} (hs : s = 6031 - 9 * c) (hc : 9 * c + 9 ≤ 6030) (h : pn_digs vn t s) (hd : d ≤ 9) (h1 : ∀ x, s - d ≤ x → x < s → t2 x = 48 + vn / 10 ^ (9 * c) % 1000000000 / 10 ^ (s - 1 - x) % 10) (h2 : ∀ x, s ≤ x → t2 x = t x) : pn_digs vn t2 (s - d) := by
  intro x hx1 hx2
  rcases Nat.lt_or_ge x s with z | z
  · rw [h1 x hx1 z, pn_chunk_dig (by omega), pn_dd, show 9 * c + (s - 1 - x) = 6030 - x by omega]
  · rw [h2 x z]; exact h x z hx2
theorem pn_isD_end {vn c s d : Nat} (hs : s = 6031 - 9 * c) (hc : 9 * c + 9 ≤ 6030) (h0 : 0 < vn / 10 ^ (9 * c)) (h1 : vn / 10 ^ (9 * c) < 1000000000) (hd : d ≤ 9) (h2 : vn / 10 ^ (9 * c) % 1000000000 < 10 ^ d) (h3 : d = 0 ∨ 10 ^ (d - 1) ≤ vn / 10 ^ (9 * c) % 1000000000) : pn_isD vn (6031 - (s - d)) := by
  rw [Nat.mod_eq_of_lt h1] at h2 h3
  have hd0 : d ≠ 0 := fun z => by rw [z, Nat.pow_zero] at h2; omega
  have e : 6031 - (s - d) = 9 * c + d := by omega
  have p := Nat.pow_pos (n := 9 * c) (show 0 < 10 by decide)
  rw [e]
  refine ⟨by omega, ?_, Or.inr ?_⟩
  · rw [Nat.pow_add, Nat.mul_comm]; exact (Nat.div_lt_iff_lt_mul p).mp h2
  · rw [show 9 * c + d - 1 = 9 * c + (d - 1) by omega, Nat.pow_add, Nat.mul_comm]
    exact (Nat.le_div_iff_mul_le p).mp (h3.resolve_left hd0)
theorem pn_isD_le {vn D : Nat} (h : pn_isD vn D) (hl : vn < 10 ^ 6030) : D ≤ 6030 := by
  obtain ⟨h1, h2, h3⟩ := h
  rcases h3 with z | z
  · omega
  · have h4 : 10 ^ (D - 1) < 10 ^ 6030 := Nat.lt_of_le_of_lt z hl
    have := (Nat.pow_lt_pow_iff_right (by decide : 1 < 10)).mp h4
    omega
theorem pn_isD_uniq {vn D D2 : Nat} (h : pn_isD vn D) (h2 : pn_isD vn D2) : D = D2 := by
  have key : ∀ {A B : Nat}, pn_isD vn A → pn_isD vn B → A ≤ B := fun {A B} a b => by
    obtain ⟨a1, a2, a3⟩ := a
    obtain ⟨b1, b2, b3⟩ := b
    rcases a3 with z | z
    · omega
    · have h4 : 10 ^ (A - 1) < 10 ^ B := Nat.lt_of_le_of_lt z b2
      have := (Nat.pow_lt_pow_iff_right (by decide : 1 < 10)).mp h4
      omega
  exact Nat.le_antisymm (key h h2) (key h2 h)

theorem pn_small {g : Nat → Int32} {n vn k : Nat} (h : pn_V g n = ((vn / 10 ^ (9 * (k + 1)) : Nat) : Int)) (h0 : n = 0) : vn / 10 ^ (9 * k) < 1000000000 := by
  subst h0
  rw [pn_V_0] at h
  have e : vn / 10 ^ (9 * (k + 1)) = 0 := by omega
  rw [show 9 * (k + 1) = 9 * k + 9 by omega, ← pn_dd] at e
  have := pn_lt10 e
  exact this

set_option maxHeartbeats 4000000 in
set_option maxRecDepth 100000 in
theorem c_T_write (l : Launch) (D : va_G) (cI cZ cB cJ : ClassId) (sz : Nat) (oT qT : Nat) (tc : Nat → Nat) (s0 : Nat) (ot qt : Nat) (ft : Nat → Int32) (nt : Nat) (bt : Bool) (vn : Nat) (hnt : nt ≤ 632) (hz : pn_nz ft nt) (hvn : pn_V ft nt = (vn : Int)) (hlim : vn < 10 ^ 6030) : pn_Ci l D (pn_ty cI cZ cB cJ) y_T_write w_T_write ({ frames := 2, cells := 0, slots := 0, locals := 80 } : Room) [.ref oT, .ref ot] [(oT, .inr (3, [.ref qT, .int (nI s0)])), (qT, .inl (cB, 6031, .inl (fun z9 => nI (tc z9)))), (ot, .inr (1, [.ref qt, .int (nI nt), .int (pn_b bt)])), (qt, .inl (cI, 632, .inl ft))] sz (S := ((Nat → Nat) × Nat) × ((Nat → Int32) × Nat × Bool)) (fun r u => ∃ k, pn_isD vn k ∧ k ≤ 6030 ∧ r = nI (k + (if bt = true then 1 else 0)) ∧ u.1.2 = 6031 - k - (if bt = true then 1 else 0) ∧ (∀ j, j < k → u.1.1 (6031 - k + j) = 48 + vn / 10 ^ (k - 1 - j) % 10) ∧ (bt = true → u.1.1 (6031 - k - 1) = 45)) (fun u => [(oT, .inr (3, [.ref qT, .int (nI u.1.2)])), (qT, .inl (cB, 6031, .inl (fun z9 => nI (u.1.1 z9)))), (ot, .inr (1, [.ref qt, .int (nI u.2.2.1), .int (pn_b u.2.2.2)])), (qt, .inl (cI, 632, .inl u.2.1))]) := by
  refine pn_start (by decide) (Nat.le_of_ble_eq_true rfl) ?_
  intro p e s m below meth c A Q ls hQ hAe Fx hr hlocks hN hK hP hD hS hA hl
  have hx := Fx.1
  have hb := Fx.2.1
  have hl : lv_has ls 4 [(0, .ref oT), (1, .ref ot)] := hl
  refine lv_aload_n hx hb d_T_write_0 rfl (lv_at hl 1 rfl) ?_
  refine pw_getN Fx hN hK hP fld_R 2 rfl 2 (by decide) kn_100 (v := .int (pn_b bt)) rfl d_T_write_1 ?_
  refine lv_istore_n (lv' := [(2, .int (pn_b bt)), (0, .ref oT), (1, .ref ot)]) hx hb d_T_write_4 rfl hl (by decide) rfl (fun ls hl => ?_)
  refine lv_aload_n hx hb d_T_write_5 rfl (lv_at hl 1 rfl) ?_
  refine lv_sipush (v := nI 6031) hx hb d_T_write_6 (by decide) ?_
  refine pw_put Fx hK hP hD hS fld_T 0 rfl 1 (by decide) kw_76 rfl rfl rfl (Nat.le_of_ble_eq_true rfl) (w' := [(oT, .inr (3, [.ref qT, .int (nI 6031)])), (qT, .inl (cB, 6031, .inl (fun z9 => nI (tc z9)))), (ot, .inr (1, [.ref qt, .int (nI nt), .int (pn_b bt)])), (qt, .inl (cI, 632, .inl ft))]) rfl d_T_write_9 (fun H locs hP hD hS => ?_)
  refine lv_aload_n hx hb d_T_write_12 rfl (lv_at hl 2 rfl) ?_
  refine pw_getN Fx hN hK hP fld_R 2 rfl 1 (by decide) kn_94 (v := .int (nI nt)) rfl d_T_write_13 ?_
  refine pw_if_ne (a := nt) (tgt := 25) hx hb d_T_write_16 (by decide) (by omega) (fun h_16 => ?_) (fun h_16 => ?_)
  · skip
    refine lv_iconst (v := nI 0) hx hb d_T_write_25 (by decide) ?_
    refine lv_istore_n (lv' := [(3, .int (nI 0)), (2, .int (pn_b bt)), (0, .ref oT), (1, .ref ot)]) hx hb d_T_write_26 rfl hl (by decide) rfl (fun ls hl => ?_)
    have loop27 : ∀ (N : Nat) (k : Nat) (g : Nat → Int32) (n1 : Nat) (b1 : Bool) (t1 : Nat → Nat) (s1 : Nat), 670 - k < N → (k ≤ 670) → (n1 ≤ 632) → (pn_nz g n1) → (pn_V g n1 = ((vn / 10 ^ (9 * k) : Nat) : Int)) → (pn_digs vn t1 s1) → ((0 < n1 → s1 = 6031 - 9 * k) ∧ (n1 = 0 → s1 ≤ 6030 ∧ pn_isD vn (6031 - s1))) → (s1 ≤ 6031) → ∀ (H : Heap) (locs : List Loc) (ls : Array Slot), lv_has ls 4 [(3, .int (nI k)), (2, .int (pn_b bt)), (0, .ref oT), (1, .ref ot)] → va_P D pn_cl [(oT, .inr (3, [.ref qT, .int (nI s1)])), (qT, .inl (cB, 6031, .inl (fun z9 => nI (t1 z9)))), (ot, .inr (1, [.ref qt, .int (nI n1), .int (pn_b b1)])), (qt, .inl (cI, 632, .inl g))] H → va_D A [(oT, .inr (3, [.ref qT, .int (nI s1)])), (qT, .inl (cB, 6031, .inl (fun z9 => nI (t1 z9)))), (ot, .inr (1, [.ref qt, .int (nI n1), .int (pn_b b1)])), (qt, .inl (cI, 632, .inl g))] → va_S A s.heap H locs → W p l e ({ frames := 2, cells := 0, slots := 0, locals := 80 } : Room) s m ([.ref oT, .ref ot] : List Value).toArray below meth c H locs 0 0 Q (F0 m 27 ls []) := by
      intro N
      induction N with
      | zero => intro k g n1 b1 t1 s1 hM; exact absurd hM (Nat.not_lt_zero _)
      | succ N ih27 =>
        intro k g n1 b1 t1 s1 hM27 hk hn1 hz1 hVg hdg9 hcs hs6 H locs ls hl hP hD hS
        refine lv_iload_n hx hb d_T_write_27 rfl (lv_at hl 0 rfl) ?_
        refine lv_sipush (v := nI 670) hx hb d_T_write_28 (by decide) ?_
        refine pw_icmp_ge (a := k) (b := 670) (tgt := 71) hx hb d_T_write_31 (by decide) (by omega) (by omega) (fun h_31 => ?_) (fun h_31 => ?_)
        · skip
          have hn0 : n1 = 0 := by rw [show k = 670 by omega, show 9 * 670 = 6030 from rfl, Nat.div_eq_of_lt hlim] at hVg; exact (pn_V_ne0 hz1).mp hVg
          have hdd := hcs.2 hn0
          have hd6 := pn_isD_le hdd.2 hlim
          refine lv_iload_n hx hb d_T_write_71 rfl (lv_at hl 1 rfl) ?_
          refine pw_ifb_eq (tgt := 81) hx hb d_T_write_72 (by decide) (fun h_72 => ?_) (fun h_72 => ?_)
          · skip
            refine lv_sipush (v := nI 6031) hx hb d_T_write_81 (by decide) ?_
            refine lv_aload_n hx hb d_T_write_84 rfl (lv_at hl 2 rfl) ?_
            refine pw_get Fx hK hP fld_T 0 rfl 1 (by decide) kw_76 (v := .int (nI s1)) rfl d_T_write_85 ?_
            refine pw_isub hx hb d_T_write_88 (by omega) ?_
            exact pn_reti (((t1, s1), (g, n1, b1))) Fx hr hlocks hQ hAe hP hD hS (by (try dsimp only); first | done | exact (⟨6031 - s1, hdd.2, hd6, by rw [if_neg (by rw [h_72]; decide)]; rfl, by rw [if_neg (by rw [h_72]; decide)]; omega, fun j hj => by rw [hdg9 _ (by omega) (by omega)]; congr 4; omega, fun z => absurd z (by rw [h_72]; decide)⟩)) d_T_write_89
          · skip
            refine lv_aload_n hx hb d_T_write_75 rfl (lv_at hl 2 rfl) ?_
            refine lv_bipush (v := nI 45) hx hb d_T_write_76 (by decide) ?_
            refine pn_bv (wr := [(ot, .inr (1, [.ref qt, .int (nI n1), .int (pn_b b1)])), (qt, .inl (cI, 632, .inl g))]) [0, 1] [2, 3] hP hD hS hA (pn_rV [.int (nI 45)] [] Fx hK hN hP hD [0, 1] rfl rfl (c_T_putBefore l D cI cZ cB cJ _ oT qT t1 s1 45 (by decide) (by omega) (by omega)) kw_613 cal_T_putBefore inst_T_putBefore sel_T_putBefore ⟨by decide, by decide⟩ ⟨rfl, rfl⟩ 0 rfl rfl rfl rfl hl.1 (Nat.le_of_ble_eq_true rfl) d_T_write_78 ⟨Nat.zero_le _, Nat.zero_le _⟩) rfl rfl rfl (by decide) (fun u_78 H locs hw hP hD hS => ?_)
            obtain ⟨⟩ := u_78
            have hP : va_P D pn_cl [(ot, .inr (1, [.ref qt, .int (nI n1), .int (pn_b b1)])), (qt, .inl (cI, 632, .inl g)), (oT, .inr (3, [.ref qT, .int (nI (s1 - 1))])), (qT, .inl (cB, 6031, .inl (fun z9 => nI ((pn_up t1 (s1 - 1) 45) z9))))] H := hP
            have hD : va_D A [(ot, .inr (1, [.ref qt, .int (nI n1), .int (pn_b b1)])), (qt, .inl (cI, 632, .inl g)), (oT, .inr (3, [.ref qT, .int (nI (s1 - 1))])), (qT, .inl (cB, 6031, .inl (fun z9 => nI ((pn_up t1 (s1 - 1) 45) z9))))] := hD
            refine lv_sipush (v := nI 6031) hx hb d_T_write_81 (by decide) ?_
            refine lv_aload_n hx hb d_T_write_84 rfl (lv_at hl 2 rfl) ?_
            refine pw_get Fx hK hP fld_T 2 rfl 1 (by decide) kw_76 (v := .int (nI (s1 - 1))) rfl d_T_write_85 ?_
            refine pw_isub hx hb d_T_write_88 (by omega) ?_
            exact pn_reti (((pn_up t1 (s1 - 1) 45, s1 - 1), (g, n1, b1))) Fx hr hlocks hQ hAe (hP.sub [2, 3, 0, 1] rfl) (hD.sub [2, 3, 0, 1] (by decide) rfl) hS (by (try dsimp only); first | done | exact (⟨6031 - s1, hdd.2, hd6, by rw [if_pos h_72]; congr 1; omega, by rw [if_pos h_72]; omega, fun j hj => by rw [pn_up_n (by omega), hdg9 _ (by omega) (by omega)]; congr 4; omega, fun _ => by rw [show 6031 - (6031 - s1) - 1 = s1 - 1 by omega, pn_up_s]⟩)) d_T_write_89
        · skip
          refine lv_aload_n hx hb d_T_write_34 rfl (lv_at hl 3 rfl) ?_
          refine pw_getN Fx hN hK hP fld_R 2 rfl 1 (by decide) kn_94 (v := .int (nI n1)) rfl d_T_write_35 ?_
          refine pw_if_le (a := n1) (tgt := 71) hx hb d_T_write_38 (by decide) (by omega) (fun h_38 => ?_) (fun h_38 => ?_)
          · skip
            have hdd := hcs.2 h_38
            have hd6 := pn_isD_le hdd.2 hlim
            refine lv_iload_n hx hb d_T_write_71 rfl (lv_at hl 1 rfl) ?_
            refine pw_ifb_eq (tgt := 81) hx hb d_T_write_72 (by decide) (fun h_72 => ?_) (fun h_72 => ?_)
            · skip
              refine lv_sipush (v := nI 6031) hx hb d_T_write_81 (by decide) ?_
              refine lv_aload_n hx hb d_T_write_84 rfl (lv_at hl 2 rfl) ?_
              refine pw_get Fx hK hP fld_T 0 rfl 1 (by decide) kw_76 (v := .int (nI s1)) rfl d_T_write_85 ?_
              refine pw_isub hx hb d_T_write_88 (by omega) ?_
              exact pn_reti (((t1, s1), (g, n1, b1))) Fx hr hlocks hQ hAe hP hD hS (by (try dsimp only); first | done | exact (⟨6031 - s1, hdd.2, hd6, by rw [if_neg (by rw [h_72]; decide)]; rfl, by rw [if_neg (by rw [h_72]; decide)]; omega, fun j hj => by rw [hdg9 _ (by omega) (by omega)]; congr 4; omega, fun z => absurd z (by rw [h_72]; decide)⟩)) d_T_write_89
            · skip
              refine lv_aload_n hx hb d_T_write_75 rfl (lv_at hl 2 rfl) ?_
              refine lv_bipush (v := nI 45) hx hb d_T_write_76 (by decide) ?_
              refine pn_bv (wr := [(ot, .inr (1, [.ref qt, .int (nI n1), .int (pn_b b1)])), (qt, .inl (cI, 632, .inl g))]) [0, 1] [2, 3] hP hD hS hA (pn_rV [.int (nI 45)] [] Fx hK hN hP hD [0, 1] rfl rfl (c_T_putBefore l D cI cZ cB cJ _ oT qT t1 s1 45 (by decide) (by omega) (by omega)) kw_613 cal_T_putBefore inst_T_putBefore sel_T_putBefore ⟨by decide, by decide⟩ ⟨rfl, rfl⟩ 0 rfl rfl rfl rfl hl.1 (Nat.le_of_ble_eq_true rfl) d_T_write_78 ⟨Nat.zero_le _, Nat.zero_le _⟩) rfl rfl rfl (by decide) (fun u_78 H locs hw hP hD hS => ?_)
              obtain ⟨⟩ := u_78
              have hP : va_P D pn_cl [(ot, .inr (1, [.ref qt, .int (nI n1), .int (pn_b b1)])), (qt, .inl (cI, 632, .inl g)), (oT, .inr (3, [.ref qT, .int (nI (s1 - 1))])), (qT, .inl (cB, 6031, .inl (fun z9 => nI ((pn_up t1 (s1 - 1) 45) z9))))] H := hP
              have hD : va_D A [(ot, .inr (1, [.ref qt, .int (nI n1), .int (pn_b b1)])), (qt, .inl (cI, 632, .inl g)), (oT, .inr (3, [.ref qT, .int (nI (s1 - 1))])), (qT, .inl (cB, 6031, .inl (fun z9 => nI ((pn_up t1 (s1 - 1) 45) z9))))] := hD
              refine lv_sipush (v := nI 6031) hx hb d_T_write_81 (by decide) ?_
              refine lv_aload_n hx hb d_T_write_84 rfl (lv_at hl 2 rfl) ?_
              refine pw_get Fx hK hP fld_T 2 rfl 1 (by decide) kw_76 (v := .int (nI (s1 - 1))) rfl d_T_write_85 ?_
              refine pw_isub hx hb d_T_write_88 (by omega) ?_
              exact pn_reti (((pn_up t1 (s1 - 1) 45, s1 - 1), (g, n1, b1))) Fx hr hlocks hQ hAe (hP.sub [2, 3, 0, 1] rfl) (hD.sub [2, 3, 0, 1] (by decide) rfl) hS (by (try dsimp only); first | done | exact (⟨6031 - s1, hdd.2, hd6, by rw [if_pos h_72]; congr 1; omega, by rw [if_pos h_72]; omega, fun j hj => by rw [pn_up_n (by omega), hdg9 _ (by omega) (by omega)]; congr 4; omega, fun _ => by rw [show 6031 - (6031 - s1) - 1 = s1 - 1 by omega, pn_up_s]⟩)) d_T_write_89
          · skip
            have hs9 := hcs.1 h_38
            have hwp : 0 < vn / 10 ^ (9 * k) := by have z := pn_V_pos hz1 h_38; rw [hVg] at z; omega
            refine lv_aload_n hx hb d_T_write_41 rfl (lv_at hl 2 rfl) ?_
            refine lv_aload_n hx hb d_T_write_42 rfl (lv_at hl 3 rfl) ?_
            refine lv_ldc2 hx hb Fx.2.2.2.1 (Fx.2.2.2.2 _ kw_617) d_T_write_43 ?_
            refine pn_topl (pn_L (1000000000)) (by decide) ?_
            refine pn_bl (wr := [(oT, .inr (3, [.ref qT, .int (nI s1)])), (qT, .inl (cB, 6031, .inl (fun z9 => nI (t1 z9))))]) [2, 3] [0, 1] hP hD hS hA (pn_rVN [.long (pn_L 1000000000)] [.ref oT] Fx hK hN hP hD [2, 3] rfl rfl (c_R_shrink l D cI cZ cB cJ _ ot qt g n1 b1 1000000000 (by omega) (by decide) (by decide)) kn_618 cal_R_shrink inst_R_shrink sel_R_shrink ⟨by decide, by decide⟩ ⟨rfl, rfl⟩ 0 rfl rfl rfl rfl hl.1 (Nat.le_of_ble_eq_true rfl) d_T_write_46 ⟨Nat.zero_le _, Nat.zero_le _⟩) rfl rfl rfl (by decide) (fun r_46 u_46 H locs hw hP hD hS => ?_)
            obtain ⟨g2, n2⟩ := u_46
            obtain ⟨rfl, hn2, hV2, hz2⟩ := hw
            have hP : va_P D pn_cl [(oT, .inr (3, [.ref qT, .int (nI s1)])), (qT, .inl (cB, 6031, .inl (fun z9 => nI (t1 z9)))), (ot, .inr (1, [.ref qt, .int (nI n2), .int (pn_b false)])), (qt, .inl (cI, 632, .inl g2))] H := hP
            have hD : va_D A [(oT, .inr (3, [.ref qT, .int (nI s1)])), (qT, .inl (cB, 6031, .inl (fun z9 => nI (t1 z9)))), (ot, .inr (1, [.ref qt, .int (nI n2), .int (pn_b false)])), (qt, .inl (cI, 632, .inl g2))] := hD
            dsimp only at hn2 hV2 hz2
            have hV2n : pn_V g2 n2 = ((vn / 10 ^ (9 * (k + 1)) : Nat) : Int) := by rw [hV2, hVg, show 9 * (k + 1) = 9 * k + 9 by omega, ← pn_dd]; rfl
            refine pw_l2i hx hb d_T_write_49 ?_
            refine pn_topi (nI (vn / 10 ^ (9 * k) % 1000000000)) (by rw [hVg, ← pn_I_nI]; rfl) ?_
            refine lv_aload_n hx hb d_T_write_50 rfl (lv_at hl 3 rfl) ?_
            refine pw_getN Fx hN hK hP fld_R 2 rfl 1 (by decide) kn_94 (v := .int (nI n2)) rfl d_T_write_51 ?_
            refine pw_if_le (a := n2) (tgt := 61) hx hb d_T_write_54 (by decide) (by omega) (fun h_54 => ?_) (fun h_54 => ?_)
            · skip
              refine lv_iconst (v := pn_b false) hx hb d_T_write_61 (by decide) ?_
              refine pn_bv (wr := [(ot, .inr (1, [.ref qt, .int (nI n2), .int (pn_b false)])), (qt, .inl (cI, 632, .inl g2))]) [0, 1] [2, 3] hP hD hS hA (pn_rV [.int (nI (vn / 10 ^ (9 * k) % 1000000000)), .int (pn_b false)] [] Fx hK hN hP hD [0, 1] rfl rfl (c_T_writeChunk l D cI cZ cB cJ _ oT qT t1 s1 (vn / 10 ^ (9 * k) % 1000000000) false (Nat.mod_lt _ (by decide)) (by omega) (by omega)) kw_619 cal_T_writeChunk inst_T_writeChunk sel_T_writeChunk ⟨by decide, by decide⟩ ⟨rfl, rfl⟩ 0 rfl rfl rfl rfl hl.1 (Nat.le_of_ble_eq_true rfl) d_T_write_62 ⟨Nat.zero_le _, Nat.zero_le _⟩) rfl rfl rfl (by decide) (fun u_62 H locs hw hP hD hS => ?_)
              obtain ⟨t2, d2⟩ := u_62
              obtain ⟨hd9, hdt, hdf, hdx, hdk⟩ := hw
              have hP : va_P D pn_cl [(ot, .inr (1, [.ref qt, .int (nI n2), .int (pn_b false)])), (qt, .inl (cI, 632, .inl g2)), (oT, .inr (3, [.ref qT, .int (nI (s1 - d2))])), (qT, .inl (cB, 6031, .inl (fun z9 => nI (t2 z9))))] H := hP
              have hD : va_D A [(ot, .inr (1, [.ref qt, .int (nI n2), .int (pn_b false)])), (qt, .inl (cI, 632, .inl g2)), (oT, .inr (3, [.ref qT, .int (nI (s1 - d2))])), (qT, .inl (cB, 6031, .inl (fun z9 => nI (t2 z9))))] := hD
              dsimp only at hd9 hdt hdf hdx hdk
              refine lv_iinc (v := nI (k + 1)) (lv' := [(3, .int (nI (k + 1))), (2, .int (pn_b bt)), (0, .ref oT), (1, .ref ot)]) hx hb d_T_write_65 hl (k := 0) rfl (nI_add _ 1) (by decide) rfl (fun ls hl => ?_)
              refine lv_goto (tgt := 27) hx hb d_T_write_68 (by decide) ?_
              exact ih27 (k + 1) g2 n2 false t2 (s1 - d2) (by omega) (by omega) (by omega) hz2 hV2n (pn_digs_step hs9 (by omega) hdg9 hd9 hdx hdk) (⟨fun z => by omega, fun _ => ⟨by have z := pn_isD_end (d := d2) hs9 (by omega) hwp (pn_small hV2n h_54) hd9 (hdf rfl).1 (hdf rfl).2; have := z.1; omega, pn_isD_end hs9 (by omega) hwp (pn_small hV2n h_54) hd9 (hdf rfl).1 (hdf rfl).2⟩⟩) (by omega) _ _ _ hl (hP.sub [2, 3, 0, 1] rfl) (hD.sub [2, 3, 0, 1] (by decide) rfl) hS
            · skip
              refine lv_iconst (v := pn_b true) hx hb d_T_write_57 (by decide) ?_
              refine lv_goto (tgt := 62) hx hb d_T_write_58 (by decide) ?_
              refine pn_bv (wr := [(ot, .inr (1, [.ref qt, .int (nI n2), .int (pn_b false)])), (qt, .inl (cI, 632, .inl g2))]) [0, 1] [2, 3] hP hD hS hA (pn_rV [.int (nI (vn / 10 ^ (9 * k) % 1000000000)), .int (pn_b true)] [] Fx hK hN hP hD [0, 1] rfl rfl (c_T_writeChunk l D cI cZ cB cJ _ oT qT t1 s1 (vn / 10 ^ (9 * k) % 1000000000) true (Nat.mod_lt _ (by decide)) (by omega) (by omega)) kw_619 cal_T_writeChunk inst_T_writeChunk sel_T_writeChunk ⟨by decide, by decide⟩ ⟨rfl, rfl⟩ 0 rfl rfl rfl rfl hl.1 (Nat.le_of_ble_eq_true rfl) d_T_write_62 ⟨Nat.zero_le _, Nat.zero_le _⟩) rfl rfl rfl (by decide) (fun u_62 H locs hw hP hD hS => ?_)
              obtain ⟨t2, d2⟩ := u_62
              obtain ⟨hd9, hdt, hdf, hdx, hdk⟩ := hw
              have hP : va_P D pn_cl [(ot, .inr (1, [.ref qt, .int (nI n2), .int (pn_b false)])), (qt, .inl (cI, 632, .inl g2)), (oT, .inr (3, [.ref qT, .int (nI (s1 - d2))])), (qT, .inl (cB, 6031, .inl (fun z9 => nI (t2 z9))))] H := hP
              have hD : va_D A [(ot, .inr (1, [.ref qt, .int (nI n2), .int (pn_b false)])), (qt, .inl (cI, 632, .inl g2)), (oT, .inr (3, [.ref qT, .int (nI (s1 - d2))])), (qT, .inl (cB, 6031, .inl (fun z9 => nI (t2 z9))))] := hD
              dsimp only at hd9 hdt hdf hdx hdk
              refine lv_iinc (v := nI (k + 1)) (lv' := [(3, .int (nI (k + 1))), (2, .int (pn_b bt)), (0, .ref oT), (1, .ref ot)]) hx hb d_T_write_65 hl (k := 0) rfl (nI_add _ 1) (by decide) rfl (fun ls hl => ?_)
              refine lv_goto (tgt := 27) hx hb d_T_write_68 (by decide) ?_
              exact ih27 (k + 1) g2 n2 false t2 (s1 - d2) (by omega) (by omega) (by omega) hz2 hV2n (pn_digs_step hs9 (by omega) hdg9 hd9 hdx hdk) (⟨fun _ => by have := hdt rfl; omega, fun z => by omega⟩) (by omega) _ _ _ hl (hP.sub [2, 3, 0, 1] rfl) (hD.sub [2, 3, 0, 1] (by decide) rfl) hS
    exact loop27 _ 0 ft nt bt tc 6031 (Nat.lt_succ_self _) (by decide) hnt hz (by rw [Nat.mul_zero, Nat.pow_zero, Nat.div_one]; exact hvn) (fun x h1 h2 => by omega) (⟨fun _ => by omega, fun z => absurd z h_16⟩) (by decide) _ _ _ hl hP hD hS
  · skip
    have hv0 : vn = 0 := by rw [h_16, pn_V_0] at hvn; omega
    refine lv_aload_n hx hb d_T_write_19 rfl (lv_at hl 1 rfl) ?_
    refine lv_bipush (v := nI 48) hx hb d_T_write_20 (by decide) ?_
    refine pn_bv (wr := [(ot, .inr (1, [.ref qt, .int (nI nt), .int (pn_b bt)])), (qt, .inl (cI, 632, .inl ft))]) [0, 1] [2, 3] hP hD hS hA (pn_rV [.int (nI 48)] [] Fx hK hN hP hD [0, 1] rfl rfl (c_T_putBefore l D cI cZ cB cJ _ oT qT tc 6031 48 (by decide) (by decide) (by decide)) kw_613 cal_T_putBefore inst_T_putBefore sel_T_putBefore ⟨by decide, by decide⟩ ⟨rfl, rfl⟩ 0 rfl rfl rfl rfl hl.1 (Nat.le_of_ble_eq_true rfl) d_T_write_22 ⟨Nat.zero_le _, Nat.zero_le _⟩) rfl rfl rfl (by decide) (fun u_22 H locs hw hP hD hS => ?_)
    obtain ⟨⟩ := u_22
    have hP : va_P D pn_cl [(ot, .inr (1, [.ref qt, .int (nI nt), .int (pn_b bt)])), (qt, .inl (cI, 632, .inl ft)), (oT, .inr (3, [.ref qT, .int (nI 6030)])), (qT, .inl (cB, 6031, .inl (fun z9 => nI ((pn_up tc 6030 48) z9))))] H := hP
    have hD : va_D A [(ot, .inr (1, [.ref qt, .int (nI nt), .int (pn_b bt)])), (qt, .inl (cI, 632, .inl ft)), (oT, .inr (3, [.ref qT, .int (nI 6030)])), (qT, .inl (cB, 6031, .inl (fun z9 => nI ((pn_up tc 6030 48) z9))))] := hD
    refine lv_iconst (v := nI 0) hx hb d_T_write_25 (by decide) ?_
    refine lv_istore_n (lv' := [(3, .int (nI 0)), (2, .int (pn_b bt)), (0, .ref oT), (1, .ref ot)]) hx hb d_T_write_26 rfl hl (by decide) rfl (fun ls hl => ?_)
    have loop27 : ∀ (N : Nat) (k : Nat) (g : Nat → Int32) (n1 : Nat) (b1 : Bool) (t1 : Nat → Nat) (s1 : Nat), 670 - k < N → (k ≤ 670) → (n1 ≤ 632) → (pn_nz g n1) → (pn_V g n1 = ((vn / 10 ^ (9 * k) : Nat) : Int)) → (pn_digs vn t1 s1) → ((0 < n1 → s1 = 6031 - 9 * k) ∧ (n1 = 0 → s1 ≤ 6030 ∧ pn_isD vn (6031 - s1))) → (s1 ≤ 6031) → ∀ (H : Heap) (locs : List Loc) (ls : Array Slot), lv_has ls 4 [(3, .int (nI k)), (2, .int (pn_b bt)), (0, .ref oT), (1, .ref ot)] → va_P D pn_cl [(oT, .inr (3, [.ref qT, .int (nI s1)])), (qT, .inl (cB, 6031, .inl (fun z9 => nI (t1 z9)))), (ot, .inr (1, [.ref qt, .int (nI n1), .int (pn_b b1)])), (qt, .inl (cI, 632, .inl g))] H → va_D A [(oT, .inr (3, [.ref qT, .int (nI s1)])), (qT, .inl (cB, 6031, .inl (fun z9 => nI (t1 z9)))), (ot, .inr (1, [.ref qt, .int (nI n1), .int (pn_b b1)])), (qt, .inl (cI, 632, .inl g))] → va_S A s.heap H locs → W p l e ({ frames := 2, cells := 0, slots := 0, locals := 80 } : Room) s m ([.ref oT, .ref ot] : List Value).toArray below meth c H locs 0 0 Q (F0 m 27 ls []) := by
      intro N
      induction N with
      | zero => intro k g n1 b1 t1 s1 hM; exact absurd hM (Nat.not_lt_zero _)
      | succ N ih27 =>
        intro k g n1 b1 t1 s1 hM27 hk hn1 hz1 hVg hdg9 hcs hs6 H locs ls hl hP hD hS
        refine lv_iload_n hx hb d_T_write_27 rfl (lv_at hl 0 rfl) ?_
        refine lv_sipush (v := nI 670) hx hb d_T_write_28 (by decide) ?_
        refine pw_icmp_ge (a := k) (b := 670) (tgt := 71) hx hb d_T_write_31 (by decide) (by omega) (by omega) (fun h_31 => ?_) (fun h_31 => ?_)
        · skip
          have hn0 : n1 = 0 := by rw [show k = 670 by omega, show 9 * 670 = 6030 from rfl, Nat.div_eq_of_lt hlim] at hVg; exact (pn_V_ne0 hz1).mp hVg
          have hdd := hcs.2 hn0
          have hd6 := pn_isD_le hdd.2 hlim
          refine lv_iload_n hx hb d_T_write_71 rfl (lv_at hl 1 rfl) ?_
          refine pw_ifb_eq (tgt := 81) hx hb d_T_write_72 (by decide) (fun h_72 => ?_) (fun h_72 => ?_)
          · skip
            refine lv_sipush (v := nI 6031) hx hb d_T_write_81 (by decide) ?_
            refine lv_aload_n hx hb d_T_write_84 rfl (lv_at hl 2 rfl) ?_
            refine pw_get Fx hK hP fld_T 0 rfl 1 (by decide) kw_76 (v := .int (nI s1)) rfl d_T_write_85 ?_
            refine pw_isub hx hb d_T_write_88 (by omega) ?_
            exact pn_reti (((t1, s1), (g, n1, b1))) Fx hr hlocks hQ hAe hP hD hS (by (try dsimp only); first | done | exact (⟨6031 - s1, hdd.2, hd6, by rw [if_neg (by rw [h_72]; decide)]; rfl, by rw [if_neg (by rw [h_72]; decide)]; omega, fun j hj => by rw [hdg9 _ (by omega) (by omega)]; congr 4; omega, fun z => absurd z (by rw [h_72]; decide)⟩)) d_T_write_89
          · skip
            refine lv_aload_n hx hb d_T_write_75 rfl (lv_at hl 2 rfl) ?_
            refine lv_bipush (v := nI 45) hx hb d_T_write_76 (by decide) ?_
            refine pn_bv (wr := [(ot, .inr (1, [.ref qt, .int (nI n1), .int (pn_b b1)])), (qt, .inl (cI, 632, .inl g))]) [0, 1] [2, 3] hP hD hS hA (pn_rV [.int (nI 45)] [] Fx hK hN hP hD [0, 1] rfl rfl (c_T_putBefore l D cI cZ cB cJ _ oT qT t1 s1 45 (by decide) (by omega) (by omega)) kw_613 cal_T_putBefore inst_T_putBefore sel_T_putBefore ⟨by decide, by decide⟩ ⟨rfl, rfl⟩ 0 rfl rfl rfl rfl hl.1 (Nat.le_of_ble_eq_true rfl) d_T_write_78 ⟨Nat.zero_le _, Nat.zero_le _⟩) rfl rfl rfl (by decide) (fun u_78 H locs hw hP hD hS => ?_)
            obtain ⟨⟩ := u_78
            have hP : va_P D pn_cl [(ot, .inr (1, [.ref qt, .int (nI n1), .int (pn_b b1)])), (qt, .inl (cI, 632, .inl g)), (oT, .inr (3, [.ref qT, .int (nI (s1 - 1))])), (qT, .inl (cB, 6031, .inl (fun z9 => nI ((pn_up t1 (s1 - 1) 45) z9))))] H := hP
            have hD : va_D A [(ot, .inr (1, [.ref qt, .int (nI n1), .int (pn_b b1)])), (qt, .inl (cI, 632, .inl g)), (oT, .inr (3, [.ref qT, .int (nI (s1 - 1))])), (qT, .inl (cB, 6031, .inl (fun z9 => nI ((pn_up t1 (s1 - 1) 45) z9))))] := hD
            refine lv_sipush (v := nI 6031) hx hb d_T_write_81 (by decide) ?_
            refine lv_aload_n hx hb d_T_write_84 rfl (lv_at hl 2 rfl) ?_
            refine pw_get Fx hK hP fld_T 2 rfl 1 (by decide) kw_76 (v := .int (nI (s1 - 1))) rfl d_T_write_85 ?_
            refine pw_isub hx hb d_T_write_88 (by omega) ?_
            exact pn_reti (((pn_up t1 (s1 - 1) 45, s1 - 1), (g, n1, b1))) Fx hr hlocks hQ hAe (hP.sub [2, 3, 0, 1] rfl) (hD.sub [2, 3, 0, 1] (by decide) rfl) hS (by (try dsimp only); first | done | exact (⟨6031 - s1, hdd.2, hd6, by rw [if_pos h_72]; congr 1; omega, by rw [if_pos h_72]; omega, fun j hj => by rw [pn_up_n (by omega), hdg9 _ (by omega) (by omega)]; congr 4; omega, fun _ => by rw [show 6031 - (6031 - s1) - 1 = s1 - 1 by omega, pn_up_s]⟩)) d_T_write_89
        · skip
          refine lv_aload_n hx hb d_T_write_34 rfl (lv_at hl 3 rfl) ?_
          refine pw_getN Fx hN hK hP fld_R 2 rfl 1 (by decide) kn_94 (v := .int (nI n1)) rfl d_T_write_35 ?_
          refine pw_if_le (a := n1) (tgt := 71) hx hb d_T_write_38 (by decide) (by omega) (fun h_38 => ?_) (fun h_38 => ?_)
          · skip
            have hdd := hcs.2 h_38
            have hd6 := pn_isD_le hdd.2 hlim
            refine lv_iload_n hx hb d_T_write_71 rfl (lv_at hl 1 rfl) ?_
            refine pw_ifb_eq (tgt := 81) hx hb d_T_write_72 (by decide) (fun h_72 => ?_) (fun h_72 => ?_)
            · skip
              refine lv_sipush (v := nI 6031) hx hb d_T_write_81 (by decide) ?_
              refine lv_aload_n hx hb d_T_write_84 rfl (lv_at hl 2 rfl) ?_
              refine pw_get Fx hK hP fld_T 0 rfl 1 (by decide) kw_76 (v := .int (nI s1)) rfl d_T_write_85 ?_
              refine pw_isub hx hb d_T_write_88 (by omega) ?_
              exact pn_reti (((t1, s1), (g, n1, b1))) Fx hr hlocks hQ hAe hP hD hS (by (try dsimp only); first | done | exact (⟨6031 - s1, hdd.2, hd6, by rw [if_neg (by rw [h_72]; decide)]; rfl, by rw [if_neg (by rw [h_72]; decide)]; omega, fun j hj => by rw [hdg9 _ (by omega) (by omega)]; congr 4; omega, fun z => absurd z (by rw [h_72]; decide)⟩)) d_T_write_89
            · skip
              refine lv_aload_n hx hb d_T_write_75 rfl (lv_at hl 2 rfl) ?_
              refine lv_bipush (v := nI 45) hx hb d_T_write_76 (by decide) ?_
              refine pn_bv (wr := [(ot, .inr (1, [.ref qt, .int (nI n1), .int (pn_b b1)])), (qt, .inl (cI, 632, .inl g))]) [0, 1] [2, 3] hP hD hS hA (pn_rV [.int (nI 45)] [] Fx hK hN hP hD [0, 1] rfl rfl (c_T_putBefore l D cI cZ cB cJ _ oT qT t1 s1 45 (by decide) (by omega) (by omega)) kw_613 cal_T_putBefore inst_T_putBefore sel_T_putBefore ⟨by decide, by decide⟩ ⟨rfl, rfl⟩ 0 rfl rfl rfl rfl hl.1 (Nat.le_of_ble_eq_true rfl) d_T_write_78 ⟨Nat.zero_le _, Nat.zero_le _⟩) rfl rfl rfl (by decide) (fun u_78 H locs hw hP hD hS => ?_)
              obtain ⟨⟩ := u_78
              have hP : va_P D pn_cl [(ot, .inr (1, [.ref qt, .int (nI n1), .int (pn_b b1)])), (qt, .inl (cI, 632, .inl g)), (oT, .inr (3, [.ref qT, .int (nI (s1 - 1))])), (qT, .inl (cB, 6031, .inl (fun z9 => nI ((pn_up t1 (s1 - 1) 45) z9))))] H := hP
              have hD : va_D A [(ot, .inr (1, [.ref qt, .int (nI n1), .int (pn_b b1)])), (qt, .inl (cI, 632, .inl g)), (oT, .inr (3, [.ref qT, .int (nI (s1 - 1))])), (qT, .inl (cB, 6031, .inl (fun z9 => nI ((pn_up t1 (s1 - 1) 45) z9))))] := hD
              refine lv_sipush (v := nI 6031) hx hb d_T_write_81 (by decide) ?_
              refine lv_aload_n hx hb d_T_write_84 rfl (lv_at hl 2 rfl) ?_
              refine pw_get Fx hK hP fld_T 2 rfl 1 (by decide) kw_76 (v := .int (nI (s1 - 1))) rfl d_T_write_85 ?_
              refine pw_isub hx hb d_T_write_88 (by omega) ?_
              exact pn_reti (((pn_up t1 (s1 - 1) 45, s1 - 1), (g, n1, b1))) Fx hr hlocks hQ hAe (hP.sub [2, 3, 0, 1] rfl) (hD.sub [2, 3, 0, 1] (by decide) rfl) hS (by (try dsimp only); first | done | exact (⟨6031 - s1, hdd.2, hd6, by rw [if_pos h_72]; congr 1; omega, by rw [if_pos h_72]; omega, fun j hj => by rw [pn_up_n (by omega), hdg9 _ (by omega) (by omega)]; congr 4; omega, fun _ => by rw [show 6031 - (6031 - s1) - 1 = s1 - 1 by omega, pn_up_s]⟩)) d_T_write_89
          · skip
            have hs9 := hcs.1 h_38
            have hwp : 0 < vn / 10 ^ (9 * k) := by have z := pn_V_pos hz1 h_38; rw [hVg] at z; omega
            refine lv_aload_n hx hb d_T_write_41 rfl (lv_at hl 2 rfl) ?_
            refine lv_aload_n hx hb d_T_write_42 rfl (lv_at hl 3 rfl) ?_
            refine lv_ldc2 hx hb Fx.2.2.2.1 (Fx.2.2.2.2 _ kw_617) d_T_write_43 ?_
            refine pn_topl (pn_L (1000000000)) (by decide) ?_
            refine pn_bl (wr := [(oT, .inr (3, [.ref qT, .int (nI s1)])), (qT, .inl (cB, 6031, .inl (fun z9 => nI (t1 z9))))]) [2, 3] [0, 1] hP hD hS hA (pn_rVN [.long (pn_L 1000000000)] [.ref oT] Fx hK hN hP hD [2, 3] rfl rfl (c_R_shrink l D cI cZ cB cJ _ ot qt g n1 b1 1000000000 (by omega) (by decide) (by decide)) kn_618 cal_R_shrink inst_R_shrink sel_R_shrink ⟨by decide, by decide⟩ ⟨rfl, rfl⟩ 0 rfl rfl rfl rfl hl.1 (Nat.le_of_ble_eq_true rfl) d_T_write_46 ⟨Nat.zero_le _, Nat.zero_le _⟩) rfl rfl rfl (by decide) (fun r_46 u_46 H locs hw hP hD hS => ?_)
            obtain ⟨g2, n2⟩ := u_46
            obtain ⟨rfl, hn2, hV2, hz2⟩ := hw
            have hP : va_P D pn_cl [(oT, .inr (3, [.ref qT, .int (nI s1)])), (qT, .inl (cB, 6031, .inl (fun z9 => nI (t1 z9)))), (ot, .inr (1, [.ref qt, .int (nI n2), .int (pn_b false)])), (qt, .inl (cI, 632, .inl g2))] H := hP
            have hD : va_D A [(oT, .inr (3, [.ref qT, .int (nI s1)])), (qT, .inl (cB, 6031, .inl (fun z9 => nI (t1 z9)))), (ot, .inr (1, [.ref qt, .int (nI n2), .int (pn_b false)])), (qt, .inl (cI, 632, .inl g2))] := hD
            dsimp only at hn2 hV2 hz2
            have hV2n : pn_V g2 n2 = ((vn / 10 ^ (9 * (k + 1)) : Nat) : Int) := by rw [hV2, hVg, show 9 * (k + 1) = 9 * k + 9 by omega, ← pn_dd]; rfl
            refine pw_l2i hx hb d_T_write_49 ?_
            refine pn_topi (nI (vn / 10 ^ (9 * k) % 1000000000)) (by rw [hVg, ← pn_I_nI]; rfl) ?_
            refine lv_aload_n hx hb d_T_write_50 rfl (lv_at hl 3 rfl) ?_
            refine pw_getN Fx hN hK hP fld_R 2 rfl 1 (by decide) kn_94 (v := .int (nI n2)) rfl d_T_write_51 ?_
            refine pw_if_le (a := n2) (tgt := 61) hx hb d_T_write_54 (by decide) (by omega) (fun h_54 => ?_) (fun h_54 => ?_)
            · skip
              refine lv_iconst (v := pn_b false) hx hb d_T_write_61 (by decide) ?_
              refine pn_bv (wr := [(ot, .inr (1, [.ref qt, .int (nI n2), .int (pn_b false)])), (qt, .inl (cI, 632, .inl g2))]) [0, 1] [2, 3] hP hD hS hA (pn_rV [.int (nI (vn / 10 ^ (9 * k) % 1000000000)), .int (pn_b false)] [] Fx hK hN hP hD [0, 1] rfl rfl (c_T_writeChunk l D cI cZ cB cJ _ oT qT t1 s1 (vn / 10 ^ (9 * k) % 1000000000) false (Nat.mod_lt _ (by decide)) (by omega) (by omega)) kw_619 cal_T_writeChunk inst_T_writeChunk sel_T_writeChunk ⟨by decide, by decide⟩ ⟨rfl, rfl⟩ 0 rfl rfl rfl rfl hl.1 (Nat.le_of_ble_eq_true rfl) d_T_write_62 ⟨Nat.zero_le _, Nat.zero_le _⟩) rfl rfl rfl (by decide) (fun u_62 H locs hw hP hD hS => ?_)
              obtain ⟨t2, d2⟩ := u_62
              obtain ⟨hd9, hdt, hdf, hdx, hdk⟩ := hw
              have hP : va_P D pn_cl [(ot, .inr (1, [.ref qt, .int (nI n2), .int (pn_b false)])), (qt, .inl (cI, 632, .inl g2)), (oT, .inr (3, [.ref qT, .int (nI (s1 - d2))])), (qT, .inl (cB, 6031, .inl (fun z9 => nI (t2 z9))))] H := hP
              have hD : va_D A [(ot, .inr (1, [.ref qt, .int (nI n2), .int (pn_b false)])), (qt, .inl (cI, 632, .inl g2)), (oT, .inr (3, [.ref qT, .int (nI (s1 - d2))])), (qT, .inl (cB, 6031, .inl (fun z9 => nI (t2 z9))))] := hD
              dsimp only at hd9 hdt hdf hdx hdk
              refine lv_iinc (v := nI (k + 1)) (lv' := [(3, .int (nI (k + 1))), (2, .int (pn_b bt)), (0, .ref oT), (1, .ref ot)]) hx hb d_T_write_65 hl (k := 0) rfl (nI_add _ 1) (by decide) rfl (fun ls hl => ?_)
              refine lv_goto (tgt := 27) hx hb d_T_write_68 (by decide) ?_
              exact ih27 (k + 1) g2 n2 false t2 (s1 - d2) (by omega) (by omega) (by omega) hz2 hV2n (pn_digs_step hs9 (by omega) hdg9 hd9 hdx hdk) (⟨fun z => by omega, fun _ => ⟨by have z := pn_isD_end (d := d2) hs9 (by omega) hwp (pn_small hV2n h_54) hd9 (hdf rfl).1 (hdf rfl).2; have := z.1; omega, pn_isD_end hs9 (by omega) hwp (pn_small hV2n h_54) hd9 (hdf rfl).1 (hdf rfl).2⟩⟩) (by omega) _ _ _ hl (hP.sub [2, 3, 0, 1] rfl) (hD.sub [2, 3, 0, 1] (by decide) rfl) hS
            · skip
              refine lv_iconst (v := pn_b true) hx hb d_T_write_57 (by decide) ?_
              refine lv_goto (tgt := 62) hx hb d_T_write_58 (by decide) ?_
              refine pn_bv (wr := [(ot, .inr (1, [.ref qt, .int (nI n2), .int (pn_b false)])), (qt, .inl (cI, 632, .inl g2))]) [0, 1] [2, 3] hP hD hS hA (pn_rV [.int (nI (vn / 10 ^ (9 * k) % 1000000000)), .int (pn_b true)] [] Fx hK hN hP hD [0, 1] rfl rfl (c_T_writeChunk l D cI cZ cB cJ _ oT qT t1 s1 (vn / 10 ^ (9 * k) % 1000000000) true (Nat.mod_lt _ (by decide)) (by omega) (by omega)) kw_619 cal_T_writeChunk inst_T_writeChunk sel_T_writeChunk ⟨by decide, by decide⟩ ⟨rfl, rfl⟩ 0 rfl rfl rfl rfl hl.1 (Nat.le_of_ble_eq_true rfl) d_T_write_62 ⟨Nat.zero_le _, Nat.zero_le _⟩) rfl rfl rfl (by decide) (fun u_62 H locs hw hP hD hS => ?_)
              obtain ⟨t2, d2⟩ := u_62
              obtain ⟨hd9, hdt, hdf, hdx, hdk⟩ := hw
              have hP : va_P D pn_cl [(ot, .inr (1, [.ref qt, .int (nI n2), .int (pn_b false)])), (qt, .inl (cI, 632, .inl g2)), (oT, .inr (3, [.ref qT, .int (nI (s1 - d2))])), (qT, .inl (cB, 6031, .inl (fun z9 => nI (t2 z9))))] H := hP
              have hD : va_D A [(ot, .inr (1, [.ref qt, .int (nI n2), .int (pn_b false)])), (qt, .inl (cI, 632, .inl g2)), (oT, .inr (3, [.ref qT, .int (nI (s1 - d2))])), (qT, .inl (cB, 6031, .inl (fun z9 => nI (t2 z9))))] := hD
              dsimp only at hd9 hdt hdf hdx hdk
              refine lv_iinc (v := nI (k + 1)) (lv' := [(3, .int (nI (k + 1))), (2, .int (pn_b bt)), (0, .ref oT), (1, .ref ot)]) hx hb d_T_write_65 hl (k := 0) rfl (nI_add _ 1) (by decide) rfl (fun ls hl => ?_)
              refine lv_goto (tgt := 27) hx hb d_T_write_68 (by decide) ?_
              exact ih27 (k + 1) g2 n2 false t2 (s1 - d2) (by omega) (by omega) (by omega) hz2 hV2n (pn_digs_step hs9 (by omega) hdg9 hd9 hdx hdk) (⟨fun _ => by have := hdt rfl; omega, fun z => by omega⟩) (by omega) _ _ _ hl (hP.sub [2, 3, 0, 1] rfl) (hD.sub [2, 3, 0, 1] (by decide) rfl) hS
    exact loop27 _ 0 ft nt bt (pn_up tc 6030 48) 6030 (Nat.lt_succ_self _) (by decide) hnt hz (by rw [Nat.mul_zero, Nat.pow_zero, Nat.div_one]; exact hvn) (fun x h1 h2 => by rw [show x = 6030 by omega, pn_up_s, hv0]) (⟨fun z => by omega, fun _ => ⟨by decide, by rw [hv0]; exact ⟨by decide, by decide, Or.inl rfl⟩⟩⟩) (by decide) _ _ _ hl (hP.sub [2, 3, 0, 1] rfl) (hD.sub [2, 3, 0, 1] (by decide) rfl) hS
