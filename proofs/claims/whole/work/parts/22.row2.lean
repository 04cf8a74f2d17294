theorem pn_dec (n : Nat) : nI n - nI 1 = pn_I ((n : Int) - 1) := by rw [← pn_I_nI, ← pn_I_nI, pn_I_sub]; rfl
theorem pn_dec' (n : Nat) : nI n + Int32.ofInt (-1) = pn_I ((n : Int) - 1) := by
  have e : Int32.ofInt (-1) = pn_I (-1) := rfl
  rw [← pn_I_nI, e, pn_I_add]; rfl
theorem pn_dec_0 {k : Nat} (hk : k < 2 ^ 31) (h : pn_I ((k : Int) - 1) < 0) : k = 0 := by
  have e : (0 : Int32) = pn_I 0 := rfl
  rw [e, pn_I_lt (by omega) (by omega) (by omega) (by omega)] at h
  omega
theorem pn_dec_s {k : Nat} (h : ¬ pn_I ((k : Int) - 1) < 0) : ∃ j, k = j + 1 := by
  rcases Nat.eq_zero_or_pos k with z | z
  · subst z; exact absurd (by decide) h
  · exact ⟨k - 1, by omega⟩
theorem pn_dec_n (j : Nat) : pn_I (((j + 1 : Nat) : Int) - 1) = nI j := by rw [← pn_I_nI]; congr 1; omega
def pn_cmp (x y : Int) : Int32 := if x < y then -1 else if x = y then 0 else 1
theorem pn_cmp_lt {x y : Int} (h : x < y) : pn_cmp x y = -1 := if_pos h
theorem pn_cmp_eq {x y : Int} (h : x = y) : pn_cmp x y = 0 := by unfold pn_cmp; rw [if_neg (by omega), if_pos h]
theorem pn_cmp_gt {x y : Int} (h : y < x) : pn_cmp x y = 1 := by unfold pn_cmp; rw [if_neg (by omega), if_neg (by omega)]
theorem pn_len_bits {f : Nat → Int32} {n : Nat} (h0 : ¬ n = 0) (hn : n ≤ 632) (hz : pn_nz f n) : nI 32 * nI n - nI (32 - pn_len (pn_u (f (n - 1)))) = nI (pn_len (pn_V f n)) := by
  obtain ⟨k, rfl⟩ : ∃ k, n = k + 1 := ⟨n - 1, by omega⟩
  have e := pn_len_V hz
  have e2 := pn_len_u (f k)
  have e3 : k + 1 - 1 = k := rfl
  rw [e3, pk_mul, pk_sub (by omega), e]
  congr 1
  omega
theorem pn_V_2 (f : Nat → Int32) (x y : Int) (hx0 : 0 ≤ x) (hx : x < 4294967296) (hy0 : 0 ≤ y) (hy : y < 4294967296) : pn_V (upd (upd f 0 (pn_I x)) 1 (pn_I y)) 2 = x + y * 4294967296 := by
  rw [pn_V_upS, pn_V_upS, pn_V_0, pn_u_Ilt hx0 hx, pn_u_Ilt hy0 hy, pn_E_0, pn_E_1]
  omega
theorem pn_V_push {f g : Nat → Int32} {n : Nat} {x : Int32} (h0 : g 0 = x) (h : ∀ i, i < n → g (i + 1) = f i) : pn_V g (n + 1) = pn_V f n * 4294967296 + pn_u x := by
  have e := pn_V_add g 1 n
  rw [Nat.add_comm 1 n] at e
  have e2 : pn_V (fun i => g (1 + i)) n = pn_V f n := pn_V_congr (fun i hi => by rw [Nat.add_comm 1 i]; exact h i hi)
  rw [e, e2, pn_E_1, pn_V_s, pn_V_0, pn_E_0, h0]
  omega

set_option maxHeartbeats 4000000 in
set_option maxRecDepth 100000 in
theorem c_R_bits (l : Launch) (D : va_G) (cI cZ cB cJ : ClassId) (sz : Nat) (oa qa : Nat) (fa : Nat → Int32) (na : Nat) (ba : Bool) (hn : na ≤ 632) (hz : pn_nz fa na) : pn_Ci l D (pn_ty cI cZ cB cJ) y_R_bits w_R_bits ({ frames := 1, cells := 0, slots := 0, locals := 32 } : Room) [.ref oa] [(oa, .inr (1, [.ref qa, .int (nI na), .int (pn_b ba)])), (qa, .inl (cI, 632, .inl fa))] sz (S := Unit) (fun r _ => r = nI (pn_len (pn_V fa na))) (fun _ => [(oa, .inr (1, [.ref qa, .int (nI na), .int (pn_b ba)])), (qa, .inl (cI, 632, .inl fa))]) := by
  refine pn_start (by decide) (Nat.le_of_ble_eq_true rfl) ?_
  intro p e s m below meth c A Q ls hQ hAe Fx hr hlocks hN hK hP hD hS hA hl
  have hx := Fx.1
  have hb := Fx.2.1
  have hl : lv_has ls 1 [(0, .ref oa)] := hl
  refine lv_aload_n hx hb d_R_bits_0 rfl (lv_at hl 0 rfl) ?_
  refine pw_get Fx hK hP fld_R 0 rfl 1 (by decide) kw_93 (v := .int (nI na)) rfl d_R_bits_1 ?_
  refine pw_if_ne (a := na) (tgt := 11) hx hb d_R_bits_4 (by decide) (by omega) (fun h_4 => ?_) (fun h_4 => ?_)
  · skip
    refine lv_bipush (v := nI 32) hx hb d_R_bits_11 (by decide) ?_
    refine lv_aload_n hx hb d_R_bits_13 rfl (lv_at hl 0 rfl) ?_
    refine pw_get Fx hK hP fld_R 0 rfl 1 (by decide) kw_93 (v := .int (nI na)) rfl d_R_bits_14 ?_
    refine lv_imul hx hb d_R_bits_17 ?_
    refine pn_topi (nI 32 * nI na) (rfl) ?_
    refine lv_aload_n hx hb d_R_bits_18 rfl (lv_at hl 0 rfl) ?_
    refine pw_get Fx hK hP fld_R 0 rfl 0 (by decide) kw_89 (v := .ref qa) rfl d_R_bits_19 ?_
    refine lv_aload_n hx hb d_R_bits_22 rfl (lv_at hl 0 rfl) ?_
    refine pw_get Fx hK hP fld_R 0 rfl 1 (by decide) kw_93 (v := .int (nI na)) rfl d_R_bits_23 ?_
    refine lv_iconst (v := nI 1) hx hb d_R_bits_26 (by decide) ?_
    refine pw_isub hx hb d_R_bits_27 (by omega) ?_
    refine pw_iald Fx hK hP 1 0 (f := fa) rfl rfl (k := na - 1) (by omega) (by decide) d_R_bits_28 ?_
    refine pn_bi (wr := [(oa, .inr (1, [.ref qa, .int (nI na), .int (pn_b ba)])), (qa, .inl (cI, 632, .inl fa))]) [] [0, 1] hP hD hS hA (pn_rS [.int (fa (na - 1))] [.int (nI 32 * nI na)] Fx hK hN hP hD [] rfl rfl (c_J_nlz l D cI cZ cB cJ _ (fa (na - 1))) kw_238 cal_J_nlz stat_J_nlz ⟨by decide, by decide⟩ ⟨rfl, rfl⟩ rfl hl.1 (Nat.le_of_ble_eq_true rfl) d_R_bits_29 ⟨Nat.zero_le _, Nat.zero_le _⟩) rfl rfl rfl (by decide) (fun r_29 u_29 H locs hw hP hD hS => ?_)
    obtain ⟨⟩ := u_29
    obtain rfl := hw
    have hP : va_P D pn_cl [(oa, .inr (1, [.ref qa, .int (nI na), .int (pn_b ba)])), (qa, .inl (cI, 632, .inl fa))] H := hP
    have hD : va_D A [(oa, .inr (1, [.ref qa, .int (nI na), .int (pn_b ba)])), (qa, .inl (cI, 632, .inl fa))] := hD
    refine lv_isub hx hb d_R_bits_32 ?_
    refine pn_topi (nI (pn_len (pn_V fa na))) (pn_len_bits h_4 hn hz) ?_
    exact pn_reti (()) Fx hr hlocks hQ hAe hP hD hS (by first | exact hw0 | rfl) d_R_bits_33
  · skip
    have hw0 : nI 0 = nI (pn_len (pn_V fa na)) := by rw [h_4]; rfl
    refine lv_iconst (v := nI 0) hx hb d_R_bits_7 (by decide) ?_
    refine lv_goto (tgt := 33) hx hb d_R_bits_8 (by decide) ?_
    exact pn_reti (()) Fx hr hlocks hQ hAe hP hD hS (by first | exact hw0 | rfl) d_R_bits_33

set_option maxHeartbeats 4000000 in
set_option maxRecDepth 100000 in
theorem c_R_compareSize (l : Launch) (D : va_G) (cI cZ cB cJ : ClassId) (sz : Nat) (oa qa : Nat) (fa : Nat → Int32) (na : Nat) (ba : Bool) (ob qb : Nat) (fb : Nat → Int32) (nb : Nat) (bb : Bool) (hna : na ≤ 632) (hnb : nb ≤ 632) (hza : pn_nz fa na) (hzb : pn_nz fb nb) : pn_Ci l D (pn_ty cI cZ cB cJ) y_R_compareSize w_R_compareSize ({ frames := 1, cells := 0, slots := 0, locals := 32 } : Room) [.ref oa, .ref ob] [(oa, .inr (1, [.ref qa, .int (nI na), .int (pn_b ba)])), (qa, .inl (cI, 632, .inl fa)), (ob, .inr (1, [.ref qb, .int (nI nb), .int (pn_b bb)])), (qb, .inl (cI, 632, .inl fb))] sz (S := Unit) (fun r _ => r = pn_cmp (pn_V fa na) (pn_V fb nb)) (fun _ => [(oa, .inr (1, [.ref qa, .int (nI na), .int (pn_b ba)])), (qa, .inl (cI, 632, .inl fa)), (ob, .inr (1, [.ref qb, .int (nI nb), .int (pn_b bb)])), (qb, .inl (cI, 632, .inl fb))]) := by
  refine pn_start (by decide) (Nat.le_of_ble_eq_true rfl) ?_
  intro p e s m below meth c A Q ls hQ hAe Fx hr hlocks hN hK hP hD hS hA hl
  have hx := Fx.1
  have hb := Fx.2.1
  have hl : lv_has ls 3 [(0, .ref oa), (1, .ref ob)] := hl
  refine lv_aload_n hx hb d_R_compareSize_0 rfl (lv_at hl 0 rfl) ?_
  refine pw_get Fx hK hP fld_R 0 rfl 1 (by decide) kw_93 (v := .int (nI na)) rfl d_R_compareSize_1 ?_
  refine lv_aload_n hx hb d_R_compareSize_4 rfl (lv_at hl 1 rfl) ?_
  refine pw_get Fx hK hP fld_R 2 rfl 1 (by decide) kw_93 (v := .int (nI nb)) rfl d_R_compareSize_5 ?_
  refine pw_icmp_eq (a := na) (b := nb) (tgt := 28) hx hb d_R_compareSize_8 (by decide) (by omega) (by omega) (fun h_8 => ?_) (fun h_8 => ?_)
  · skip
    subst h_8
    refine lv_aload_n hx hb d_R_compareSize_28 rfl (lv_at hl 0 rfl) ?_
    refine pw_get Fx hK hP fld_R 0 rfl 1 (by decide) kw_93 (v := .int (nI na)) rfl d_R_compareSize_29 ?_
    refine lv_iconst (v := nI 1) hx hb d_R_compareSize_32 (by decide) ?_
    refine lv_isub hx hb d_R_compareSize_33 ?_
    refine pn_topi (pn_I ((na : Int) - 1)) (pn_dec _) ?_
    refine lv_istore_n (lv' := [(2, .int (pn_I ((na : Int) - 1))), (0, .ref oa), (1, .ref ob)]) hx hb d_R_compareSize_34 rfl hl (by decide) rfl (fun ls hl => ?_)
    have loop35 : ∀ (N : Nat) (k : Nat), k < N → (k ≤ na) → (∀ i, k ≤ i → i < na → fa i = fb i) → ∀ (H : Heap) (locs : List Loc) (ls : Array Slot), lv_has ls 3 [(2, .int (pn_I ((k : Int) - 1))), (0, .ref oa), (1, .ref ob)] → va_P D pn_cl [(oa, .inr (1, [.ref qa, .int (nI na), .int (pn_b ba)])), (qa, .inl (cI, 632, .inl fa)), (ob, .inr (1, [.ref qb, .int (nI na), .int (pn_b bb)])), (qb, .inl (cI, 632, .inl fb))] H → va_D A [(oa, .inr (1, [.ref qa, .int (nI na), .int (pn_b ba)])), (qa, .inl (cI, 632, .inl fa)), (ob, .inr (1, [.ref qb, .int (nI na), .int (pn_b bb)])), (qb, .inl (cI, 632, .inl fb))] → va_S A s.heap H locs → W p l e ({ frames := 1, cells := 0, slots := 0, locals := 32 } : Room) s m ([.ref oa, .ref ob] : List Value).toArray below meth c H locs 0 0 Q (F0 m 35 ls []) := by
      intro N
      induction N with
      | zero => intro k hM; exact absurd hM (Nat.not_lt_zero _)
      | succ N ih35 =>
        intro k hM35 hk hE H locs ls hl hP hD hS
        refine lv_iload_n hx hb d_R_compareSize_35 rfl (lv_at hl 0 rfl) ?_
        refine lv_if_lt (tgt := 80) hx hb d_R_compareSize_36 (by decide) (fun h_36 => ?_) (fun h_36 => ?_)
        · skip
          have hk0 := pn_dec_0 (by omega) h_36
          subst hk0
          have hz : nI 0 = pn_cmp (pn_V fa na) (pn_V fb na) := (pn_cmp_eq (pn_V_congr (fun i hi => hE i (Nat.zero_le i) hi))).symm
          refine lv_iconst (v := nI 0) hx hb d_R_compareSize_80 (by decide) ?_
          exact pn_reti (()) Fx hr hlocks hQ hAe hP hD hS (hz) d_R_compareSize_81
        · skip
          obtain ⟨j, rfl⟩ := pn_dec_s h_36
          rw [pn_dec_n] at hl
          refine lv_aload_n hx hb d_R_compareSize_39 rfl (lv_at hl 1 rfl) ?_
          refine pw_get Fx hK hP fld_R 0 rfl 0 (by decide) kw_89 (v := .ref qa) rfl d_R_compareSize_40 ?_
          refine lv_iload_n hx hb d_R_compareSize_43 rfl (lv_at hl 0 rfl) ?_
          refine pw_iald Fx hK hP 1 0 (f := fa) rfl rfl (k := j) (by omega) (by decide) d_R_compareSize_44 ?_
          refine lv_aload_n hx hb d_R_compareSize_45 rfl (lv_at hl 2 rfl) ?_
          refine pw_get Fx hK hP fld_R 2 rfl 0 (by decide) kw_89 (v := .ref qb) rfl d_R_compareSize_46 ?_
          refine lv_iload_n hx hb d_R_compareSize_49 rfl (lv_at hl 0 rfl) ?_
          refine pw_iald Fx hK hP 3 0 (f := fb) rfl rfl (k := j) (by omega) (by decide) d_R_compareSize_50 ?_
          refine lv_icmp_eq (tgt := 74) hx hb d_R_compareSize_51 (by decide) (fun h_51 => ?_) (fun h_51 => ?_)
          · skip
            refine lv_iinc (v := pn_I ((j : Int) - 1)) (lv' := [(2, .int (pn_I ((j : Int) - 1))), (0, .ref oa), (1, .ref ob)]) hx hb d_R_compareSize_74 hl (k := 0) rfl (pn_dec' _) (by decide) rfl (fun ls hl => ?_)
            refine lv_goto (tgt := 35) hx hb d_R_compareSize_77 (by decide) ?_
            exact ih35 j (by omega) (by omega) (fun i h1 h2 => by rcases (show i = j ∨ j + 1 ≤ i by omega) with z | z; (· rw [z]; exact h_51); (· exact hE i z h2)) _ _ _ hl hP hD hS
          · skip
            refine lv_aload_n hx hb d_R_compareSize_54 rfl (lv_at hl 1 rfl) ?_
            refine lv_iload_n hx hb d_R_compareSize_55 rfl (lv_at hl 0 rfl) ?_
            refine pn_bl (wr := [(ob, .inr (1, [.ref qb, .int (nI na), .int (pn_b bb)])), (qb, .inl (cI, 632, .inl fb))]) [0, 1] [2, 3] hP hD hS hA (pn_rV [.int (nI j)] [] Fx hK hN hP hD [0, 1] rfl rfl (c_R_limbAt l D cI cZ cB cJ _ oa qa fa na j ba (by omega) (by omega)) kw_361 cal_R_limbAt inst_R_limbAt sel_R_limbAt ⟨by decide, by decide⟩ ⟨rfl, rfl⟩ 0 rfl rfl rfl rfl hl.1 (Nat.le_of_ble_eq_true rfl) d_R_compareSize_56 ⟨Nat.zero_le _, Nat.zero_le _⟩) rfl rfl rfl (by decide) (fun r_56 u_56 H locs hw hP hD hS => ?_)
            obtain ⟨⟩ := u_56
            obtain rfl := hw
            have hP : va_P D pn_cl [(ob, .inr (1, [.ref qb, .int (nI na), .int (pn_b bb)])), (qb, .inl (cI, 632, .inl fb)), (oa, .inr (1, [.ref qa, .int (nI na), .int (pn_b ba)])), (qa, .inl (cI, 632, .inl fa))] H := hP
            have hD : va_D A [(ob, .inr (1, [.ref qb, .int (nI na), .int (pn_b bb)])), (qb, .inl (cI, 632, .inl fb)), (oa, .inr (1, [.ref qa, .int (nI na), .int (pn_b ba)])), (qa, .inl (cI, 632, .inl fa))] := hD
            refine lv_aload_n hx hb d_R_compareSize_59 rfl (lv_at hl 2 rfl) ?_
            refine lv_iload_n hx hb d_R_compareSize_60 rfl (lv_at hl 0 rfl) ?_
            refine pn_bl (wr := [(oa, .inr (1, [.ref qa, .int (nI na), .int (pn_b ba)])), (qa, .inl (cI, 632, .inl fa))]) [0, 1] [2, 3] hP hD hS hA (pn_rV [.int (nI j)] [.long (pn_L (pn_u (pn_cut fa na j)))] Fx hK hN hP hD [0, 1] rfl rfl (c_R_limbAt l D cI cZ cB cJ _ ob qb fb na j bb (by omega) (by omega)) kw_361 cal_R_limbAt inst_R_limbAt sel_R_limbAt ⟨by decide, by decide⟩ ⟨rfl, rfl⟩ 0 rfl rfl rfl rfl hl.1 (Nat.le_of_ble_eq_true rfl) d_R_compareSize_61 ⟨Nat.zero_le _, Nat.zero_le _⟩) rfl rfl rfl (by decide) (fun r_61 u_61 H locs hw hP hD hS => ?_)
            obtain ⟨⟩ := u_61
            obtain rfl := hw
            have hP : va_P D pn_cl [(oa, .inr (1, [.ref qa, .int (nI na), .int (pn_b ba)])), (qa, .inl (cI, 632, .inl fa)), (ob, .inr (1, [.ref qb, .int (nI na), .int (pn_b bb)])), (qb, .inl (cI, 632, .inl fb))] H := hP
            have hD : va_D A [(oa, .inr (1, [.ref qa, .int (nI na), .int (pn_b ba)])), (qa, .inl (cI, 632, .inl fa)), (ob, .inr (1, [.ref qb, .int (nI na), .int (pn_b bb)])), (qb, .inl (cI, 632, .inl fb))] := hD
            have u1 := pn_u_lt (pn_cut fa na j)
            have u2 := pn_u_lt (pn_cut fb na j)
            have u3 := pn_u_nonneg (pn_cut fa na j)
            have u4 := pn_u_nonneg (pn_cut fb na j)
            have v1 := pn_V_above (f := fa) (g := fb) hk hE
            have v2 : pn_u (fa j) ≠ pn_u (fb j) := fun z => h_51 (pn_u_inj z)
            have v3 := pn_cut_lt (f := fa) (n := na) (k := j) (by omega)
            have v4 := pn_cut_lt (f := fb) (n := na) (k := j) (by omega)
            refine W.lcmp hx hb d_R_compareSize_64 ?_
            refine pw_ifl_ge (a := pn_u (pn_cut fa na j)) (b := pn_u (pn_cut fb na j)) (tgt := 72) hx hb d_R_compareSize_65 (by decide) (by omega) (by omega) (by omega) (by omega) (fun h_65 => ?_) (fun h_65 => ?_)
            · skip
              have hz : nI 1 = pn_cmp (pn_V fa na) (pn_V fb na) := by rw [v3, v4] at h_65; have v5 := pn_V_less (f := fb) (g := fa) (i := j) (by omega); exact (pn_cmp_gt (by omega)).symm
              refine lv_iconst (v := nI 1) hx hb d_R_compareSize_72 (by decide) ?_
              exact pn_reti (()) Fx hr hlocks hQ hAe hP hD hS (hz) d_R_compareSize_73
            · skip
              have hz : (-1) = pn_cmp (pn_V fa na) (pn_V fb na) := by rw [v3, v4] at h_65; have v5 := pn_V_less (f := fa) (g := fb) (i := j) h_65; exact (pn_cmp_lt (by omega)).symm
              refine lv_iconst (v := (-1)) hx hb d_R_compareSize_68 (by decide) ?_
              refine lv_goto (tgt := 73) hx hb d_R_compareSize_69 (by decide) ?_
              exact pn_reti (()) Fx hr hlocks hQ hAe hP hD hS (hz) d_R_compareSize_73
    exact loop35 _ na (Nat.lt_succ_self _) (Nat.le_refl _) (fun i h1 h2 => by omega) _ _ _ hl hP hD hS
  · skip
    refine lv_aload_n hx hb d_R_compareSize_11 rfl (lv_at hl 0 rfl) ?_
    refine pw_get Fx hK hP fld_R 0 rfl 1 (by decide) kw_93 (v := .int (nI na)) rfl d_R_compareSize_12 ?_
    refine lv_aload_n hx hb d_R_compareSize_15 rfl (lv_at hl 1 rfl) ?_
    refine pw_get Fx hK hP fld_R 2 rfl 1 (by decide) kw_93 (v := .int (nI nb)) rfl d_R_compareSize_16 ?_
    refine pw_icmp_ge (a := na) (b := nb) (tgt := 26) hx hb d_R_compareSize_19 (by decide) (by omega) (by omega) (fun h_19 => ?_) (fun h_19 => ?_)
    · skip
      have hz : nI 1 = pn_cmp (pn_V fa na) (pn_V fb nb) := (pn_cmp_gt (pn_V_fewer hza (by omega))).symm
      refine lv_iconst (v := nI 1) hx hb d_R_compareSize_26 (by decide) ?_
      exact pn_reti (()) Fx hr hlocks hQ hAe hP hD hS (hz) d_R_compareSize_27
    · skip
      have hz : (-1) = pn_cmp (pn_V fa na) (pn_V fb nb) := (pn_cmp_lt (pn_V_fewer hzb (by omega))).symm
      refine lv_iconst (v := (-1)) hx hb d_R_compareSize_22 (by decide) ?_
      refine lv_goto (tgt := 27) hx hb d_R_compareSize_23 (by decide) ?_
      exact pn_reti (()) Fx hr hlocks hQ hAe hP hD hS (hz) d_R_compareSize_27
