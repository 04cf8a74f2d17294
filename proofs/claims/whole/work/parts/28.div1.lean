theorem pn_take_step {g f b : Nat → Int32} {a i : Nat} {c F t z : Int} (hu : g (a + i) = f (a + i)) (hV : pn_V (pn_sh g a) i - c * pn_E i = pn_V (pn_sh f a) i - F * pn_V b i) (ht : t = c + F * pn_u (b i)) (hz : z = if pn_u (g (a + i)) - t % 4294967296 < 0 then 1 else 0) :
    pn_V (pn_sh (upd g (a + i) (pn_I (pn_u (g (a + i)) - t % 4294967296))) a) (i + 1) - (t / 4294967296 + z) * pn_E (i + 1) = pn_V (pn_sh f a) (i + 1) - F * pn_V b (i + 1) := by
  have u0 := pn_u_nonneg (g (a + i))
  have u1 := pn_u_lt (g (a + i))
  have e1 : (pn_u (g (a + i)) - t % 4294967296) % 4294967296 = pn_u (g (a + i)) - t % 4294967296 + z * 4294967296 := by
    subst hz
    split <;> omega
  have hz2 : z = 0 ∨ z = 1 := by
    subst hz
    split
    · exact Or.inr rfl
    · exact Or.inl rfl
  rw [pn_sh_upd, pn_V_upS, pn_u_I, e1, pn_E_s, pn_kn_take hV hz2]
  simp only [pn_V_s]
  have e : pn_sh f a i = g (a + i) := hu.symm
  rw [e, ht]
  grind
theorem pn_guess_lt {two h : Int} {Q : Int} (hh : 0 < h) (h0 : 0 ≤ two) (hlt : two < 4294967296 * h) (hQ : Q = two / h) : 0 ≤ Q ∧ Q ≤ 4294967295 ∧ Q * h ≤ two ∧ two < (Q + 1) * h := by
  refine ⟨by rw [hQ]; exact Int.ediv_nonneg h0 (by omega), ?_, by rw [hQ]; exact Int.ediv_mul_le _ (by omega), by rw [hQ]; exact Int.lt_ediv_add_one_mul_self _ hh⟩
  have : Q < 4294967296 := by rw [hQ]; exact Int.ediv_lt_of_lt_mul hh hlt
  omega

set_option maxHeartbeats 4000000 in
set_option maxRecDepth 100000 in
theorem c_D_guess (l : Launch) (D : va_G) (cI cZ cB cJ : ClassId) (sz : Nat) (qd : Nat) (f : Nat → Int32) (top : Nat) (h lw : Int) (ht2 : 2 ≤ top) (htp : top < 632) (hh : 2147483648 ≤ h) (hh1 : h < 4294967296) (hl0 : 0 ≤ lw) (hl1 : lw < 4294967296) (hu : pn_u (f top) ≤ h) : pn_Cl l D (pn_ty cI cZ cB cJ) y_D_guess w_D_guess ({ frames := 1, cells := 0, slots := 0, locals := 40 } : Room) [.ref qd, .int (nI top), .long (pn_L h), .long (pn_L lw)] [(qd, .inl (cI, 632, .inl f))] sz (S := Unit) (fun r _ => ∃ Q : Int, r = pn_L Q ∧ 0 ≤ Q ∧ Q ≤ 4294967295 ∧ Q * (h * 4294967296 + lw) ≤ (pn_u (f top) * 4294967296 + pn_u (f (top - 1))) * 4294967296 + pn_u (f (top - 2)) ∧ (Q = 4294967295 ∨ (pn_u (f top) * 4294967296 + pn_u (f (top - 1))) * 4294967296 + pn_u (f (top - 2)) < (Q + 1) * (h * 4294967296 + lw))) (fun _ => [(qd, .inl (cI, 632, .inl f))]) := by
  refine pn_start (by decide) (Nat.le_of_ble_eq_true rfl) ?_
  intro p e s m below meth c A Q ls hQ hAe Fx hr hlocks hN hK hP hD hS hA hl
  have hx := Fx.1
  have hb := Fx.2.1
  have hl : lv_has ls 15 [(0, .ref qd), (1, .int (nI top)), (2, .long (pn_L h)), (4, .long (pn_L lw))] := hl
  have a2 := pn_u_nonneg (f top)
  have b2 := pn_u_lt (f top)
  have a1 := pn_u_nonneg (f (top - 1))
  have b1 := pn_u_lt (f (top - 1))
  have a0 := pn_u_nonneg (f (top - 2))
  have b0 := pn_u_lt (f (top - 2))
  obtain ⟨two, htwo⟩ : ∃ two, two = pn_u (f top) * 4294967296 + pn_u (f (top - 1)) := ⟨_, rfl⟩
  refine lv_aload_n hx hb d_D_guess_0 rfl (lv_at hl 0 rfl) ?_
  refine lv_iload_n hx hb d_D_guess_1 rfl (lv_at hl 1 rfl) ?_
  refine pw_iald Fx hK hP 0 0 (f := f) rfl rfl (k := top) (by omega) (by decide) d_D_guess_2 ?_
  refine pw_i2l hx hb d_D_guess_3 ?_
  refine lv_ldc2 hx hb Fx.2.2.2.1 (Fx.2.2.2.2 _ kw_486) d_D_guess_4 ?_
  refine pw_limb hx hb d_D_guess_7 ?_
  refine lv_bipush (v := 32) hx hb d_D_guess_8 (by decide) ?_
  refine pw_lshl32 hx hb d_D_guess_10 ?_
  refine lv_aload_n hx hb d_D_guess_11 rfl (lv_at hl 0 rfl) ?_
  refine lv_iload_n hx hb d_D_guess_12 rfl (lv_at hl 1 rfl) ?_
  refine lv_iconst (v := nI 1) hx hb d_D_guess_13 (by decide) ?_
  refine pw_isub hx hb d_D_guess_14 (by omega) ?_
  refine pw_iald Fx hK hP 0 0 (f := f) rfl rfl (k := top - 1) (by omega) (by decide) d_D_guess_15 ?_
  refine pw_i2l hx hb d_D_guess_16 ?_
  refine lv_ldc2 hx hb Fx.2.2.2.1 (Fx.2.2.2.2 _ kw_486) d_D_guess_17 ?_
  refine pw_limb hx hb d_D_guess_20 ?_
  refine pw_lor hx hb d_D_guess_21 a2 b2 a1 b1 ?_
  refine pn_topl (pn_L two) (by rw [htwo]) ?_
  refine lv_lstore (lv' := [(6, .long (pn_L two)), (0, .ref qd), (1, .int (nI top)), (2, .long (pn_L h)), (4, .long (pn_L lw))]) hx hb d_D_guess_22 hl (by decide) rfl (fun ls hl => ?_)
  refine lv_aload_n hx hb d_D_guess_24 rfl (lv_at hl 1 rfl) ?_
  refine lv_iload_n hx hb d_D_guess_25 rfl (lv_at hl 2 rfl) ?_
  refine lv_iconst (v := nI 2) hx hb d_D_guess_26 (by decide) ?_
  refine pw_isub hx hb d_D_guess_27 (by omega) ?_
  refine pw_iald Fx hK hP 0 0 (f := f) rfl rfl (k := top - 2) (by omega) (by decide) d_D_guess_28 ?_
  refine pw_i2l hx hb d_D_guess_29 ?_
  refine lv_ldc2 hx hb Fx.2.2.2.1 (Fx.2.2.2.2 _ kw_486) d_D_guess_30 ?_
  refine pw_limb hx hb d_D_guess_33 ?_
  refine lv_lstore (lv' := [(8, .long (pn_L (pn_u (f (top - 2))))), (6, .long (pn_L two)), (0, .ref qd), (1, .int (nI top)), (2, .long (pn_L h)), (4, .long (pn_L lw))]) hx hb d_D_guess_34 hl (by decide) rfl (fun ls hl => ?_)
  refine lv_aload_n hx hb d_D_guess_36 rfl (lv_at hl 2 rfl) ?_
  refine lv_iload_n hx hb d_D_guess_37 rfl (lv_at hl 3 rfl) ?_
  refine pw_iald Fx hK hP 0 0 (f := f) rfl rfl (k := top) (by omega) (by decide) d_D_guess_38 ?_
  refine pw_i2l hx hb d_D_guess_39 ?_
  refine lv_ldc2 hx hb Fx.2.2.2.1 (Fx.2.2.2.2 _ kw_486) d_D_guess_40 ?_
  refine pw_limb hx hb d_D_guess_43 ?_
  refine lv_lload_n hx hb d_D_guess_44 rfl (lv_at hl 4 rfl) ?_
  refine W.lcmp hx hb d_D_guess_45 ?_
  refine pw_ifl_lt (a := pn_u (f top)) (b := h) (tgt := 55) hx hb d_D_guess_46 (by decide) (by omega) (by omega) (by omega) (by omega) (fun h_46 => ?_) (fun h_46 => ?_)
  · skip
    refine lv_lload hx hb d_D_guess_55 (lv_at hl 1 rfl) ?_
    refine lv_lload_n hx hb d_D_guess_57 rfl (lv_at hl 4 rfl) ?_
    refine pn_bl (wr := [(qd, .inl (cI, 632, .inl f))]) [] [0] hP hD hS hA (pn_rS [.long (pn_L two), .long (pn_L h)] [] Fx hK hN hP hD [] rfl rfl (c_D_unsigned l D cI cZ cB cJ _ two h (by omega) (by omega) (by omega) hh1) kw_490 cal_D_unsigned stat_D_unsigned ⟨by decide, by decide⟩ ⟨rfl, rfl⟩ rfl hl.1 (Nat.le_of_ble_eq_true rfl) d_D_guess_58 ⟨Nat.zero_le _, Nat.zero_le _⟩) rfl rfl rfl (by decide) (fun r_58 u_58 H locs hw hP hD hS => ?_)
    obtain ⟨⟩ := u_58
    obtain rfl := hw
    have hP : va_P D pn_cl [(qd, .inl (cI, 632, .inl f))] H := hP
    have hD : va_D A [(qd, .inl (cI, 632, .inl f))] := hD
    obtain ⟨Q0, hQ0⟩ : ∃ Q0 : Int, Q0 = two / h := ⟨_, rfl⟩
    refine pn_topl (pn_L Q0) (by rw [hQ0]) ?_
    have hq := pn_guess_lt (two := two) (h := h) (by omega) (by omega) (by omega) hQ0
    have hq3 : Q0 = 4294967295 ∨ two < (Q0 + 1) * h := Or.inr hq.2.2.2
    have hr1 : two - Q0 * h < 8589934592 := by have := hq.2.2.2; rw [Int.add_mul] at this; omega
    have hqa : 0 ≤ Q0 ∧ Q0 ≤ 4294967295 ∧ Q0 * h ≤ two := ⟨hq.1, hq.2.1, hq.2.2.1⟩
    refine lv_lstore (lv' := [(10, .long (pn_L Q0)), (8, .long (pn_L (pn_u (f (top - 2))))), (6, .long (pn_L two)), (0, .ref qd), (1, .int (nI top)), (2, .long (pn_L h)), (4, .long (pn_L lw))]) hx hb d_D_guess_61 hl (by decide) rfl (fun ls hl => ?_)
    refine lv_lload hx hb d_D_guess_63 (lv_at hl 2 rfl) ?_
    refine lv_lload hx hb d_D_guess_65 (lv_at hl 0 rfl) ?_
    refine lv_lload_n hx hb d_D_guess_67 rfl (lv_at hl 5 rfl) ?_
    refine pw_lmul hx hb d_D_guess_68 ?_
    refine pw_lsub hx hb d_D_guess_69 ?_
    refine lv_lstore (lv' := [(12, .long (pn_L (two - (Q0 * h)))), (10, .long (pn_L Q0)), (8, .long (pn_L (pn_u (f (top - 2))))), (6, .long (pn_L two)), (0, .ref qd), (1, .int (nI top)), (2, .long (pn_L h)), (4, .long (pn_L lw))]) hx hb d_D_guess_70 hl (by decide) rfl (fun ls hl => ?_)
    refine lv_iconst (v := nI 0) hx hb d_D_guess_72 (by decide) ?_
    refine lv_istore (lv' := [(14, .int (nI 0)), (12, .long (pn_L (two - (Q0 * h)))), (10, .long (pn_L Q0)), (8, .long (pn_L (pn_u (f (top - 2))))), (6, .long (pn_L two)), (0, .ref qd), (1, .int (nI top)), (2, .long (pn_L h)), (4, .long (pn_L lw))]) hx hb d_D_guess_73 hl (by decide) rfl (fun ls hl => ?_)
    have loop75 : ∀ (N : Nat) (tn : Nat) (Qc : Int), 2 - tn < N → (tn ≤ 2) → (0 ≤ Qc ∧ Qc ≤ 4294967295 ∧ Qc * h ≤ two) → (Qc = 4294967295 ∨ (two * 4294967296 + pn_u (f (top - 2))) < (Qc + 1) * (h * 4294967296 + lw)) → ((Qc - (2 - (tn : Int))) * (h * 4294967296 + lw) ≤ (two * 4294967296 + pn_u (f (top - 2)))) → (two - Qc * h < 8589934592 ∨ 0 < tn) → (two - Qc * h < 17179869184 + 4294967296 * (tn : Int)) → ∀ (H : Heap) (locs : List Loc) (ls : Array Slot), lv_has ls 15 [(10, .long (pn_L Qc)), (12, .long (pn_L (two - Qc * h))), (14, .int (nI tn)), (8, .long (pn_L (pn_u (f (top - 2))))), (0, .ref qd), (1, .int (nI top)), (2, .long (pn_L h)), (4, .long (pn_L lw))] → va_P D pn_cl [(qd, .inl (cI, 632, .inl f))] H → va_D A [(qd, .inl (cI, 632, .inl f))] → va_S A s.heap H locs → W p l e ({ frames := 1, cells := 0, slots := 0, locals := 40 } : Room) s m ([.ref qd, .int (nI top), .long (pn_L h), .long (pn_L lw)] : List Value).toArray below meth c H locs 0 0 Q (F0 m 75 ls []) := by
      intro N
      induction N with
      | zero => intro tn Qc hM; exact absurd hM (Nat.not_lt_zero _)
      | succ N ih75 =>
        intro tn Qc hM75 htn hqc hup hdist hrb hrc H locs ls hl hP hD hS
        refine lv_iload hx hb d_D_guess_75 (lv_at hl 2 rfl) ?_
        refine lv_iconst (v := nI 2) hx hb d_D_guess_77 (by decide) ?_
        refine pw_icmp_ge (a := tn) (b := 2) (tgt := 136) hx hb d_D_guess_78 (by decide) (by omega) (by omega) (fun h_78 => ?_) (fun h_78 => ?_)
        · skip
          have hfin : Qc * (h * 4294967296 + lw) ≤ (two * 4294967296 + pn_u (f (top - 2))) := by have e : tn = 2 := (by omega); subst e; simpa using hdist
          refine lv_lload hx hb d_D_guess_136 (lv_at hl 0 rfl) ?_
          exact pn_retl (()) Fx hr hlocks hQ hAe hP hD hS (by (try dsimp only); first | done | exact (by rw [← htwo]; exact ⟨Qc, rfl, hqc.1, hqc.2.1, hfin, hup⟩)) d_D_guess_138
        · skip
          refine lv_lload hx hb d_D_guess_81 (lv_at hl 1 rfl) ?_
          refine lv_ldc2 hx hb Fx.2.2.2.1 (Fx.2.2.2.2 _ kw_486) d_D_guess_83 ?_
          refine pn_topl (pn_L (4294967295)) (by decide) ?_
          refine W.lcmp hx hb d_D_guess_86 ?_
          refine pw_ifl_gt (a := two - Qc * h) (b := 4294967295) (tgt := 136) hx hb d_D_guess_87 (by decide) (by omega) (by omega) (by omega) (by omega) (fun h_87 => ?_) (fun h_87 => ?_)
          · skip
            have hfin : Qc * (h * 4294967296 + lw) ≤ (two * 4294967296 + pn_u (f (top - 2))) := by have pl := pn_prod_le hqc.1 hqc.2.1 hl0 (show lw ≤ 4294967295 by omega); have tt := (pn_kn_test (q := Qc) (h := h) (l := lw) (u2 := pn_u (f top)) (u1 := pn_u (f (top - 1))) (u0 := pn_u (f (top - 2))) (r := two - Qc * h) (by rw [htwo])).mp (by omega); rw [← htwo] at tt; exact tt
            refine lv_lload hx hb d_D_guess_136 (lv_at hl 0 rfl) ?_
            exact pn_retl (()) Fx hr hlocks hQ hAe hP hD hS (by (try dsimp only); first | done | exact (by rw [← htwo]; exact ⟨Qc, rfl, hqc.1, hqc.2.1, hfin, hup⟩)) d_D_guess_138
          · skip
            have pl := pn_prod_le hqc.1 hqc.2.1 hl0 (show lw ≤ 4294967295 by omega)
            have tt := pn_kn_test (q := Qc) (h := h) (l := lw) (u2 := pn_u (f top)) (u1 := pn_u (f (top - 1))) (u0 := pn_u (f (top - 2))) (r := two - Qc * h) (by rw [htwo])
            rw [← htwo] at tt
            refine lv_lload hx hb d_D_guess_90 (lv_at hl 0 rfl) ?_
            refine lv_lload hx hb d_D_guess_92 (lv_at hl 7 rfl) ?_
            refine pw_lmul hx hb d_D_guess_94 ?_
            refine lv_ldc2 hx hb Fx.2.2.2.1 (Fx.2.2.2.2 _ kw_491) d_D_guess_95 ?_
            refine pn_topl (pn_L (-9223372036854775808)) (by decide) ?_
            refine pw_ladd hx hb d_D_guess_98 ?_
            refine lv_lload hx hb d_D_guess_99 (lv_at hl 1 rfl) ?_
            refine lv_bipush (v := 32) hx hb d_D_guess_101 (by decide) ?_
            refine pw_lshl32 hx hb d_D_guess_103 ?_
            refine lv_lload hx hb d_D_guess_104 (lv_at hl 3 rfl) ?_
            refine pw_lor hx hb d_D_guess_106 (by omega) (by omega) a0 b0 ?_
            refine lv_ldc2 hx hb Fx.2.2.2.1 (Fx.2.2.2.2 _ kw_491) d_D_guess_107 ?_
            refine pn_topl (pn_L (-9223372036854775808)) (by decide) ?_
            refine pw_ladd hx hb d_D_guess_110 ?_
            refine W.lcmp hx hb d_D_guess_111 ?_
            refine pw_ifl_gt (a := (Qc * lw) + (-9223372036854775808)) (b := ((two - Qc * h) * 4294967296 + pn_u (f (top - 2))) + (-9223372036854775808)) (tgt := 118) hx hb d_D_guess_112 (by decide) (by omega) (by omega) (by omega) (by omega) (fun h_112 => ?_) (fun h_112 => ?_)
            · skip
              have hbig : (two * 4294967296 + pn_u (f (top - 2))) < Qc * (h * 4294967296 + lw) := Int.not_le.mp (fun z => absurd (tt.mpr z) (by omega))
              have hQ1 : 1 ≤ Qc := by rcases (show Qc ≤ 0 ∨ 1 ≤ Qc by omega) with z | z; (· have e : Qc = 0 := (by omega); subst e; omega); (· exact z)
              have e9 : (Qc - 1) * h = Qc * h - h := by grind
              refine lv_lload hx hb d_D_guess_118 (lv_at hl 0 rfl) ?_
              refine lv_lconst (v := pn_L 1) hx hb d_D_guess_120 (by decide) ?_
              refine pw_lsub hx hb d_D_guess_121 ?_
              refine lv_lstore (lv' := [(10, .long (pn_L (Qc - 1))), (12, .long (pn_L (two - Qc * h))), (14, .int (nI tn)), (8, .long (pn_L (pn_u (f (top - 2))))), (0, .ref qd), (1, .int (nI top)), (2, .long (pn_L h)), (4, .long (pn_L lw))]) hx hb d_D_guess_122 hl (by decide) rfl (fun ls hl => ?_)
              refine lv_lload hx hb d_D_guess_124 (lv_at hl 1 rfl) ?_
              refine lv_lload_n hx hb d_D_guess_126 rfl (lv_at hl 6 rfl) ?_
              refine pw_ladd hx hb d_D_guess_127 ?_
              refine pn_topl (pn_L (two - (Qc - 1) * h)) (by congr 1; grind) ?_
              refine lv_lstore (lv' := [(12, .long (pn_L (two - (Qc - 1) * h))), (10, .long (pn_L (Qc - 1))), (14, .int (nI tn)), (8, .long (pn_L (pn_u (f (top - 2))))), (0, .ref qd), (1, .int (nI top)), (2, .long (pn_L h)), (4, .long (pn_L lw))]) hx hb d_D_guess_128 hl (by decide) rfl (fun ls hl => ?_)
              refine lv_iinc (v := nI (tn + 1)) (lv' := [(14, .int (nI (tn + 1))), (12, .long (pn_L (two - (Qc - 1) * h))), (10, .long (pn_L (Qc - 1))), (8, .long (pn_L (pn_u (f (top - 2))))), (0, .ref qd), (1, .int (nI top)), (2, .long (pn_L h)), (4, .long (pn_L lw))]) hx hb d_D_guess_130 hl (k := 2) rfl (nI_add _ 1) (by decide) rfl (fun ls hl => ?_)
              refine lv_goto (tgt := 75) hx hb d_D_guess_133 (by decide) ?_
              exact ih75 (tn + 1) (Qc - 1) (by omega) (by omega) (by omega) (Or.inr (by rw [Int.sub_add_cancel]; exact hbig)) (by have e : Qc - 1 - (2 - ((tn + 1 : Nat) : Int)) = Qc - (2 - (tn : Int)) := (by omega); rw [e]; exact hdist) (by omega) (by omega) _ _ _ (lv_sub hl [2, 1, 0, 3, 4, 5, 6, 7] rfl) hP hD hS
            · skip
              have hfin : Qc * (h * 4294967296 + lw) ≤ (two * 4294967296 + pn_u (f (top - 2))) := tt.mp (by omega)
              refine lv_goto (tgt := 136) hx hb d_D_guess_115 (by decide) ?_
              refine lv_lload hx hb d_D_guess_136 (lv_at hl 0 rfl) ?_
              exact pn_retl (()) Fx hr hlocks hQ hAe hP hD hS (by (try dsimp only); first | done | exact (by rw [← htwo]; exact ⟨Qc, rfl, hqc.1, hqc.2.1, hfin, hup⟩)) d_D_guess_138
    exact loop75 _ 0 Q0 (Nat.lt_succ_self _) (by decide) hqa (hq3.elim Or.inl (fun z => Or.inr (by rw [htwo] at *; exact pn_kn_up z b0 hqa.1 hl0))) (by have z := pn_kn_two (q := Q0) (u2 := pn_u (f top)) (u1 := pn_u (f (top - 1))) (u0 := pn_u (f (top - 2))) hh hl0 (show lw ≤ 4294967295 by omega) hqa.1 hqa.2.1 (by rw [← htwo]; exact hqa.2.2) a0; rw [← htwo] at z; simpa using z) (Or.inl hr1) (by omega) _ _ _ (lv_sub hl [2, 1, 0, 3, 5, 6, 7, 8] rfl) hP hD hS
  · skip
    have hue : pn_u (f top) = h := by omega
    refine lv_ldc2 hx hb Fx.2.2.2.1 (Fx.2.2.2.2 _ kw_486) d_D_guess_49 ?_
    refine pn_topl (pn_L (4294967295)) (by decide) ?_
    refine lv_goto (tgt := 61) hx hb d_D_guess_52 (by decide) ?_
    obtain ⟨Q0, hQ0⟩ : ∃ Q0 : Int, Q0 = 4294967295 := ⟨_, rfl⟩
    refine pn_topl (pn_L Q0) (by rw [hQ0]) ?_
    have hqa : 0 ≤ Q0 ∧ Q0 ≤ 4294967295 ∧ Q0 * h ≤ two := by subst hQ0; omega
    have hq3 : Q0 = 4294967295 ∨ two < (Q0 + 1) * h := Or.inl hQ0
    have hr1 : two - Q0 * h < 8589934592 := by subst hQ0; omega
    refine lv_lstore (lv' := [(10, .long (pn_L Q0)), (8, .long (pn_L (pn_u (f (top - 2))))), (6, .long (pn_L two)), (0, .ref qd), (1, .int (nI top)), (2, .long (pn_L h)), (4, .long (pn_L lw))]) hx hb d_D_guess_61 hl (by decide) rfl (fun ls hl => ?_)
    refine lv_lload hx hb d_D_guess_63 (lv_at hl 2 rfl) ?_
    refine lv_lload hx hb d_D_guess_65 (lv_at hl 0 rfl) ?_
    refine lv_lload_n hx hb d_D_guess_67 rfl (lv_at hl 5 rfl) ?_
    refine pw_lmul hx hb d_D_guess_68 ?_
    refine pw_lsub hx hb d_D_guess_69 ?_
    refine lv_lstore (lv' := [(12, .long (pn_L (two - (Q0 * h)))), (10, .long (pn_L Q0)), (8, .long (pn_L (pn_u (f (top - 2))))), (6, .long (pn_L two)), (0, .ref qd), (1, .int (nI top)), (2, .long (pn_L h)), (4, .long (pn_L lw))]) hx hb d_D_guess_70 hl (by decide) rfl (fun ls hl => ?_)
    refine lv_iconst (v := nI 0) hx hb d_D_guess_72 (by decide) ?_
    refine lv_istore (lv' := [(14, .int (nI 0)), (12, .long (pn_L (two - (Q0 * h)))), (10, .long (pn_L Q0)), (8, .long (pn_L (pn_u (f (top - 2))))), (6, .long (pn_L two)), (0, .ref qd), (1, .int (nI top)), (2, .long (pn_L h)), (4, .long (pn_L lw))]) hx hb d_D_guess_73 hl (by decide) rfl (fun ls hl => ?_)
    have loop75 : ∀ (N : Nat) (tn : Nat) (Qc : Int), 2 - tn < N → (tn ≤ 2) → (0 ≤ Qc ∧ Qc ≤ 4294967295 ∧ Qc * h ≤ two) → (Qc = 4294967295 ∨ (two * 4294967296 + pn_u (f (top - 2))) < (Qc + 1) * (h * 4294967296 + lw)) → ((Qc - (2 - (tn : Int))) * (h * 4294967296 + lw) ≤ (two * 4294967296 + pn_u (f (top - 2)))) → (two - Qc * h < 8589934592 ∨ 0 < tn) → (two - Qc * h < 17179869184 + 4294967296 * (tn : Int)) → ∀ (H : Heap) (locs : List Loc) (ls : Array Slot), lv_has ls 15 [(10, .long (pn_L Qc)), (12, .long (pn_L (two - Qc * h))), (14, .int (nI tn)), (8, .long (pn_L (pn_u (f (top - 2))))), (0, .ref qd), (1, .int (nI top)), (2, .long (pn_L h)), (4, .long (pn_L lw))] → va_P D pn_cl [(qd, .inl (cI, 632, .inl f))] H → va_D A [(qd, .inl (cI, 632, .inl f))] → va_S A s.heap H locs → W p l e ({ frames := 1, cells := 0, slots := 0, locals := 40 } : Room) s m ([.ref qd, .int (nI top), .long (pn_L h), .long (pn_L lw)] : List Value).toArray below meth c H locs 0 0 Q (F0 m 75 ls []) := by
      intro N
      induction N with
      | zero => intro tn Qc hM; exact absurd hM (Nat.not_lt_zero _)
      | succ N ih75 =>
        intro tn Qc hM75 htn hqc hup hdist hrb hrc H locs ls hl hP hD hS
        refine lv_iload hx hb d_D_guess_75 (lv_at hl 2 rfl) ?_
        refine lv_iconst (v := nI 2) hx hb d_D_guess_77 (by decide) ?_
        refine pw_icmp_ge (a := tn) (b := 2) (tgt := 136) hx hb d_D_guess_78 (by decide) (by omega) (by omega) (fun h_78 => ?_) (fun h_78 => ?_)
        · skip
          have hfin : Qc * (h * 4294967296 + lw) ≤ (two * 4294967296 + pn_u (f (top - 2))) := by have e : tn = 2 := (by omega); subst e; simpa using hdist
          refine lv_lload hx hb d_D_guess_136 (lv_at hl 0 rfl) ?_
          exact pn_retl (()) Fx hr hlocks hQ hAe hP hD hS (by (try dsimp only); first | done | exact (by rw [← htwo]; exact ⟨Qc, rfl, hqc.1, hqc.2.1, hfin, hup⟩)) d_D_guess_138
        · skip
          refine lv_lload hx hb d_D_guess_81 (lv_at hl 1 rfl) ?_
          refine lv_ldc2 hx hb Fx.2.2.2.1 (Fx.2.2.2.2 _ kw_486) d_D_guess_83 ?_
          refine pn_topl (pn_L (4294967295)) (by decide) ?_
          refine W.lcmp hx hb d_D_guess_86 ?_
          refine pw_ifl_gt (a := two - Qc * h) (b := 4294967295) (tgt := 136) hx hb d_D_guess_87 (by decide) (by omega) (by omega) (by omega) (by omega) (fun h_87 => ?_) (fun h_87 => ?_)
          · skip
            have hfin : Qc * (h * 4294967296 + lw) ≤ (two * 4294967296 + pn_u (f (top - 2))) := by have pl := pn_prod_le hqc.1 hqc.2.1 hl0 (show lw ≤ 4294967295 by omega); have tt := (pn_kn_test (q := Qc) (h := h) (l := lw) (u2 := pn_u (f top)) (u1 := pn_u (f (top - 1))) (u0 := pn_u (f (top - 2))) (r := two - Qc * h) (by rw [htwo])).mp (by omega); rw [← htwo] at tt; exact tt
            refine lv_lload hx hb d_D_guess_136 (lv_at hl 0 rfl) ?_
            exact pn_retl (()) Fx hr hlocks hQ hAe hP hD hS (by (try dsimp only); first | done | exact (by rw [← htwo]; exact ⟨Qc, rfl, hqc.1, hqc.2.1, hfin, hup⟩)) d_D_guess_138
          · skip
            have pl := pn_prod_le hqc.1 hqc.2.1 hl0 (show lw ≤ 4294967295 by omega)
            have tt := pn_kn_test (q := Qc) (h := h) (l := lw) (u2 := pn_u (f top)) (u1 := pn_u (f (top - 1))) (u0 := pn_u (f (top - 2))) (r := two - Qc * h) (by rw [htwo])
            rw [← htwo] at tt
            refine lv_lload hx hb d_D_guess_90 (lv_at hl 0 rfl) ?_
            refine lv_lload hx hb d_D_guess_92 (lv_at hl 7 rfl) ?_
            refine pw_lmul hx hb d_D_guess_94 ?_
            refine lv_ldc2 hx hb Fx.2.2.2.1 (Fx.2.2.2.2 _ kw_491) d_D_guess_95 ?_
            refine pn_topl (pn_L (-9223372036854775808)) (by decide) ?_
            refine pw_ladd hx hb d_D_guess_98 ?_
            refine lv_lload hx hb d_D_guess_99 (lv_at hl 1 rfl) ?_
            refine lv_bipush (v := 32) hx hb d_D_guess_101 (by decide) ?_
            refine pw_lshl32 hx hb d_D_guess_103 ?_
            refine lv_lload hx hb d_D_guess_104 (lv_at hl 3 rfl) ?_
            refine pw_lor hx hb d_D_guess_106 (by omega) (by omega) a0 b0 ?_
            refine lv_ldc2 hx hb Fx.2.2.2.1 (Fx.2.2.2.2 _ kw_491) d_D_guess_107 ?_
            refine pn_topl (pn_L (-9223372036854775808)) (by decide) ?_
            refine pw_ladd hx hb d_D_guess_110 ?_
            refine W.lcmp hx hb d_D_guess_111 ?_
            refine pw_ifl_gt (a := (Qc * lw) + (-9223372036854775808)) (b := ((two - Qc * h) * 4294967296 + pn_u (f (top - 2))) + (-9223372036854775808)) (tgt := 118) hx hb d_D_guess_112 (by decide) (by omega) (by omega) (by omega) (by omega) (fun h_112 => ?_) (fun h_112 => ?_)
            · skip
              have hbig : (two * 4294967296 + pn_u (f (top - 2))) < Qc * (h * 4294967296 + lw) := Int.not_le.mp (fun z => absurd (tt.mpr z) (by omega))
              have hQ1 : 1 ≤ Qc := by rcases (show Qc ≤ 0 ∨ 1 ≤ Qc by omega) with z | z; (· have e : Qc = 0 := (by omega); subst e; omega); (· exact z)
              have e9 : (Qc - 1) * h = Qc * h - h := by grind
              refine lv_lload hx hb d_D_guess_118 (lv_at hl 0 rfl) ?_
              refine lv_lconst (v := pn_L 1) hx hb d_D_guess_120 (by decide) ?_
              refine pw_lsub hx hb d_D_guess_121 ?_
              refine lv_lstore (lv' := [(10, .long (pn_L (Qc - 1))), (12, .long (pn_L (two - Qc * h))), (14, .int (nI tn)), (8, .long (pn_L (pn_u (f (top - 2))))), (0, .ref qd), (1, .int (nI top)), (2, .long (pn_L h)), (4, .long (pn_L lw))]) hx hb d_D_guess_122 hl (by decide) rfl (fun ls hl => ?_)
              refine lv_lload hx hb d_D_guess_124 (lv_at hl 1 rfl) ?_
              refine lv_lload_n hx hb d_D_guess_126 rfl (lv_at hl 6 rfl) ?_
              refine pw_ladd hx hb d_D_guess_127 ?_
              refine pn_topl (pn_L (two - (Qc - 1) * h)) (by congr 1; grind) ?_
              refine lv_lstore (lv' := [(12, .long (pn_L (two - (Qc - 1) * h))), (10, .long (pn_L (Qc - 1))), (14, .int (nI tn)), (8, .long (pn_L (pn_u (f (top - 2))))), (0, .ref qd), (1, .int (nI top)), (2, .long (pn_L h)), (4, .long (pn_L lw))]) hx hb d_D_guess_128 hl (by decide) rfl (fun ls hl => ?_)
              refine lv_iinc (v := nI (tn + 1)) (lv' := [(14, .int (nI (tn + 1))), (12, .long (pn_L (two - (Qc - 1) * h))), (10, .long (pn_L (Qc - 1))), (8, .long (pn_L (pn_u (f (top - 2))))), (0, .ref qd), (1, .int (nI top)), (2, .long (pn_L h)), (4, .long (pn_L lw))]) hx hb d_D_guess_130 hl (k := 2) rfl (nI_add _ 1) (by decide) rfl (fun ls hl => ?_)
              refine lv_goto (tgt := 75) hx hb d_D_guess_133 (by decide) ?_
              exact ih75 (tn + 1) (Qc - 1) (by omega) (by omega) (by omega) (Or.inr (by rw [Int.sub_add_cancel]; exact hbig)) (by have e : Qc - 1 - (2 - ((tn + 1 : Nat) : Int)) = Qc - (2 - (tn : Int)) := (by omega); rw [e]; exact hdist) (by omega) (by omega) _ _ _ (lv_sub hl [2, 1, 0, 3, 4, 5, 6, 7] rfl) hP hD hS
            · skip
              have hfin : Qc * (h * 4294967296 + lw) ≤ (two * 4294967296 + pn_u (f (top - 2))) := tt.mp (by omega)
              refine lv_goto (tgt := 136) hx hb d_D_guess_115 (by decide) ?_
              refine lv_lload hx hb d_D_guess_136 (lv_at hl 0 rfl) ?_
              exact pn_retl (()) Fx hr hlocks hQ hAe hP hD hS (by (try dsimp only); first | done | exact (by rw [← htwo]; exact ⟨Qc, rfl, hqc.1, hqc.2.1, hfin, hup⟩)) d_D_guess_138
    exact loop75 _ 0 Q0 (Nat.lt_succ_self _) (by decide) hqa (hq3.elim Or.inl (fun z => Or.inr (by rw [htwo] at *; exact pn_kn_up z b0 hqa.1 hl0))) (by have z := pn_kn_two (q := Q0) (u2 := pn_u (f top)) (u1 := pn_u (f (top - 1))) (u0 := pn_u (f (top - 2))) hh hl0 (show lw ≤ 4294967295 by omega) hqa.1 hqa.2.1 (by rw [← htwo]; exact hqa.2.2) a0; rw [← htwo] at z; simpa using z) (Or.inl hr1) (by omega) _ _ _ (lv_sub hl [2, 1, 0, 3, 5, 6, 7, 8] rfl) hP hD hS

set_option maxHeartbeats 4000000 in
set_option maxRecDepth 100000 in
theorem c_D_takeMultiple (l : Launch) (D : va_G) (cI cZ cB cJ : ClassId) (sz : Nat) (qd : Nat) (fd : Nat → Int32) (ob qb : Nat) (fb : Nat → Int32) (nb : Nat) (bb : Bool) (F : Int) (at_ : Nat) (hF0 : 0 ≤ F) (hF : F ≤ 4294967295) (hat : at_ + nb < 632) : pn_Ci l D (pn_ty cI cZ cB cJ) y_D_takeMultiple w_D_takeMultiple ({ frames := 0, cells := 0, slots := 0, locals := 0 } : Room) [.ref qd, .int (nI at_), .ref ob, .long (pn_L F)] [(qd, .inl (cI, 632, .inl fd)), (ob, .inr (1, [.ref qb, .int (nI nb), .int (pn_b bb)])), (qb, .inl (cI, 632, .inl fb))] sz (S := Nat → Int32) (fun r g => ∃ k : Int, r = pn_b (decide (pn_u (fd (at_ + nb)) < k)) ∧ (∀ j, (j < at_ ∨ at_ + nb ≤ j) → g j = fd j) ∧ pn_V (pn_sh g at_) nb - k * pn_E nb = pn_V (pn_sh fd at_) nb - F * pn_V fb nb) (fun g => [(qd, .inl (cI, 632, .inl g)), (ob, .inr (1, [.ref qb, .int (nI nb), .int (pn_b bb)])), (qb, .inl (cI, 632, .inl fb))]) := by
  refine pn_start (by decide) (Nat.le_of_ble_eq_true rfl) ?_
  intro p e s m below meth c A Q ls hQ hAe Fx hr hlocks hN hK hP hD hS hA hl
  have hx := Fx.1
  have hb := Fx.2.1
  have hl : lv_has ls 10 [(0, .ref qd), (1, .int (nI at_)), (2, .ref ob), (3, .long (pn_L F))] := hl
  refine lv_lconst (v := pn_L 0) hx hb d_D_takeMultiple_0 (by decide) ?_
  refine lv_lstore (lv' := [(5, .long (pn_L 0)), (0, .ref qd), (1, .int (nI at_)), (2, .ref ob), (3, .long (pn_L F))]) hx hb d_D_takeMultiple_1 hl (by decide) rfl (fun ls hl => ?_)
  refine lv_iconst (v := nI 0) hx hb d_D_takeMultiple_3 (by decide) ?_
  refine lv_istore (lv' := [(7, .int (nI 0)), (5, .long (pn_L 0)), (0, .ref qd), (1, .int (nI at_)), (2, .ref ob), (3, .long (pn_L F))]) hx hb d_D_takeMultiple_4 hl (by decide) rfl (fun ls hl => ?_)
  have loop6 : ∀ (N : Nat) (i : Nat) (g : Nat → Int32) (c0 : Int), nb - i < N → (i ≤ nb) → (0 ≤ c0 ∧ c0 ≤ 4294967295) → (∀ j, (j < at_ ∨ at_ + i ≤ j) → g j = fd j) → (pn_V (pn_sh g at_) i - c0 * pn_E i = pn_V (pn_sh fd at_) i - F * pn_V fb i) → ∀ (H : Heap) (locs : List Loc) (ls : Array Slot), lv_has ls 10 [(7, .int (nI i)), (5, .long (pn_L c0)), (0, .ref qd), (1, .int (nI at_)), (2, .ref ob), (3, .long (pn_L F))] → va_P D pn_cl [(qd, .inl (cI, 632, .inl g)), (ob, .inr (1, [.ref qb, .int (nI nb), .int (pn_b bb)])), (qb, .inl (cI, 632, .inl fb))] H → va_D A [(qd, .inl (cI, 632, .inl g)), (ob, .inr (1, [.ref qb, .int (nI nb), .int (pn_b bb)])), (qb, .inl (cI, 632, .inl fb))] → va_S A s.heap H locs → W p l e ({ frames := 0, cells := 0, slots := 0, locals := 0 } : Room) s m ([.ref qd, .int (nI at_), .ref ob, .long (pn_L F)] : List Value).toArray below meth c H locs 0 0 Q (F0 m 6 ls []) := by
    intro N
    induction N with
    | zero => intro i g c0 hM; exact absurd hM (Nat.not_lt_zero _)
    | succ N ih6 =>
      intro i g c0 hM6 hi hc hu hV H locs ls hl hP hD hS
      refine lv_iload hx hb d_D_takeMultiple_6 (lv_at hl 0 rfl) ?_
      refine lv_aload_n hx hb d_D_takeMultiple_8 rfl (lv_at hl 4 rfl) ?_
      refine pw_getN Fx hN hK hP fld_R 1 rfl 1 (by decide) kn_95 (v := .int (nI nb)) rfl d_D_takeMultiple_9 ?_
      refine pw_icmp_ge (a := i) (b := nb) (tgt := 90) hx hb d_D_takeMultiple_12 (by decide) (by omega) (by omega) (fun h_12 => ?_) (fun h_12 => ?_)
      · skip
        obtain rfl : nb = i := by omega
        refine lv_aload_n hx hb d_D_takeMultiple_90 rfl (lv_at hl 2 rfl) ?_
        refine lv_iload_n hx hb d_D_takeMultiple_91 rfl (lv_at hl 3 rfl) ?_
        refine lv_aload_n hx hb d_D_takeMultiple_92 rfl (lv_at hl 4 rfl) ?_
        refine pw_getN Fx hN hK hP fld_R 1 rfl 1 (by decide) kn_95 (v := .int (nI nb)) rfl d_D_takeMultiple_93 ?_
        refine pw_iadd hx hb d_D_takeMultiple_96 ?_
        refine pw_iald Fx hK hP 0 0 (f := g) rfl rfl (k := at_ + nb) (by omega) (by decide) d_D_takeMultiple_97 ?_
        refine pw_i2l hx hb d_D_takeMultiple_98 ?_
        refine lv_ldc2 hx hb Fx.2.2.2.1 (Fx.2.2.2.2 _ kw_486) d_D_takeMultiple_99 ?_
        refine pw_limb hx hb d_D_takeMultiple_102 ?_
        have w0 := pn_u_nonneg (g (at_ + nb))
        have w1 := pn_u_lt (g (at_ + nb))
        have w2 := hu (at_ + nb) (by omega)
        refine lv_lload hx hb d_D_takeMultiple_103 (lv_at hl 1 rfl) ?_
        refine W.lcmp hx hb d_D_takeMultiple_105 ?_
        refine pw_ifl_ge (a := pn_u (g (at_ + nb))) (b := c0) (tgt := 113) hx hb d_D_takeMultiple_106 (by decide) (by omega) (by omega) (by omega) (by omega) (fun h_106 => ?_) (fun h_106 => ?_)
        · skip
          have hz : pn_b false = pn_b (decide (pn_u (fd (at_ + nb)) < c0)) := by rw [← w2, decide_eq_false (by omega)]
          refine lv_iconst (v := nI 0) hx hb d_D_takeMultiple_113 (by decide) ?_
          refine pn_topi (pn_b false) (by decide) ?_
          exact pn_retz (g) Fx hr (hn := pn_b_nar _) hlocks hQ hAe hP hD hS (by (try dsimp only); first | done | exact (⟨c0, hz, hu, hV⟩)) d_D_takeMultiple_114
        · skip
          have hz : pn_b true = pn_b (decide (pn_u (fd (at_ + nb)) < c0)) := by rw [← w2, decide_eq_true (by omega)]
          refine lv_iconst (v := nI 1) hx hb d_D_takeMultiple_109 (by decide) ?_
          refine lv_goto (tgt := 114) hx hb d_D_takeMultiple_110 (by decide) ?_
          refine pn_topi (pn_b true) (by decide) ?_
          exact pn_retz (g) Fx hr (hn := pn_b_nar _) hlocks hQ hAe hP hD hS (by (try dsimp only); first | done | exact (⟨c0, hz, hu, hV⟩)) d_D_takeMultiple_114
      · skip
        refine lv_lload hx hb d_D_takeMultiple_15 (lv_at hl 1 rfl) ?_
        refine lv_lload_n hx hb d_D_takeMultiple_17 rfl (lv_at hl 5 rfl) ?_
        refine lv_aload_n hx hb d_D_takeMultiple_18 rfl (lv_at hl 4 rfl) ?_
        refine pw_getN Fx hN hK hP fld_R 1 rfl 0 (by decide) kn_91 (v := .ref qb) rfl d_D_takeMultiple_19 ?_
        refine lv_iload hx hb d_D_takeMultiple_22 (lv_at hl 0 rfl) ?_
        refine pw_iald Fx hK hP 2 0 (f := fb) rfl rfl (k := i) (by omega) (by decide) d_D_takeMultiple_24 ?_
        refine pw_i2l hx hb d_D_takeMultiple_25 ?_
        refine lv_ldc2 hx hb Fx.2.2.2.1 (Fx.2.2.2.2 _ kw_486) d_D_takeMultiple_26 ?_
        refine pw_limb hx hb d_D_takeMultiple_29 ?_
        refine pw_lmul hx hb d_D_takeMultiple_30 ?_
        have pl := pn_prod_le hF0 hF (pn_u_nonneg (fb i)) (show pn_u (fb i) ≤ 4294967295 by have := pn_u_lt (fb i); omega)
        obtain ⟨t, ht⟩ : ∃ t, t = c0 + F * pn_u (fb i) := ⟨_, rfl⟩
        have w0 := pn_u_nonneg (g (at_ + i))
        have w1 := pn_u_lt (g (at_ + i))
        refine pw_ladd hx hb d_D_takeMultiple_31 ?_
        refine pn_topl (pn_L t) (by rw [ht]) ?_
        refine lv_lstore (lv' := [(5, .long (pn_L t)), (7, .int (nI i)), (0, .ref qd), (1, .int (nI at_)), (2, .ref ob), (3, .long (pn_L F))]) hx hb d_D_takeMultiple_32 hl (by decide) rfl (fun ls hl => ?_)
        refine lv_aload_n hx hb d_D_takeMultiple_34 rfl (lv_at hl 2 rfl) ?_
        refine lv_iload_n hx hb d_D_takeMultiple_35 rfl (lv_at hl 3 rfl) ?_
        refine lv_iload hx hb d_D_takeMultiple_36 (lv_at hl 1 rfl) ?_
        refine pw_iadd hx hb d_D_takeMultiple_38 ?_
        refine pw_iald Fx hK hP 0 0 (f := g) rfl rfl (k := at_ + i) (by omega) (by decide) d_D_takeMultiple_39 ?_
        refine pw_i2l hx hb d_D_takeMultiple_40 ?_
        refine lv_ldc2 hx hb Fx.2.2.2.1 (Fx.2.2.2.2 _ kw_486) d_D_takeMultiple_41 ?_
        refine pw_limb hx hb d_D_takeMultiple_44 ?_
        refine lv_lload hx hb d_D_takeMultiple_45 (lv_at hl 0 rfl) ?_
        refine lv_ldc2 hx hb Fx.2.2.2.1 (Fx.2.2.2.2 _ kw_486) d_D_takeMultiple_47 ?_
        refine pw_lmask hx hb d_D_takeMultiple_50 ?_
        refine pw_lsub hx hb d_D_takeMultiple_51 ?_
        refine lv_lstore (lv' := [(8, .long (pn_L ((pn_u (g (at_ + i))) - (t % 4294967296)))), (5, .long (pn_L t)), (7, .int (nI i)), (0, .ref qd), (1, .int (nI at_)), (2, .ref ob), (3, .long (pn_L F))]) hx hb d_D_takeMultiple_52 hl (by decide) rfl (fun ls hl => ?_)
        refine lv_aload_n hx hb d_D_takeMultiple_54 rfl (lv_at hl 3 rfl) ?_
        refine lv_iload_n hx hb d_D_takeMultiple_55 rfl (lv_at hl 4 rfl) ?_
        refine lv_iload hx hb d_D_takeMultiple_56 (lv_at hl 2 rfl) ?_
        refine pw_iadd hx hb d_D_takeMultiple_58 ?_
        refine lv_lload hx hb d_D_takeMultiple_59 (lv_at hl 0 rfl) ?_
        refine pw_l2i hx hb d_D_takeMultiple_61 ?_
        refine pw_iast Fx hK hP hD hS 0 0 (f := g) rfl rfl (k := at_ + i) (by omega) (by decide) (w' := [(qd, .inl (cI, 632, .inl (upd g (at_ + i) (pn_I ((pn_u (g (at_ + i))) - (t % 4294967296)))))), (ob, .inr (1, [.ref qb, .int (nI nb), .int (pn_b bb)])), (qb, .inl (cI, 632, .inl fb))]) rfl d_D_takeMultiple_62 (fun H locs hP hD hS => ?_)
        refine lv_lload hx hb d_D_takeMultiple_63 (lv_at hl 1 rfl) ?_
        refine lv_bipush (v := 32) hx hb d_D_takeMultiple_65 (by decide) ?_
        refine pw_lushr32 hx hb d_D_takeMultiple_67 (by omega) (by omega) ?_
        refine lv_lload hx hb d_D_takeMultiple_68 (lv_at hl 0 rfl) ?_
        refine lv_lconst (v := pn_L 0) hx hb d_D_takeMultiple_70 (by decide) ?_
        refine W.lcmp hx hb d_D_takeMultiple_71 ?_
        refine pw_ifl_ge (a := (pn_u (g (at_ + i))) - (t % 4294967296)) (b := 0) (tgt := 79) hx hb d_D_takeMultiple_72 (by decide) (by omega) (by omega) (by omega) (by omega) (fun h_72 => ?_) (fun h_72 => ?_)
        · skip
          have hz1 : (0 : Int) = if pn_u (g (at_ + i)) - (c0 + F * pn_u (fb i)) % 4294967296 < 0 then 1 else 0 := by rw [← ht, if_neg (by omega)]
          refine lv_iconst (v := nI 0) hx hb d_D_takeMultiple_79 (by decide) ?_
          refine pw_i2l hx hb d_D_takeMultiple_80 ?_
          refine pn_topl (pn_L 0) (by decide) ?_
          refine pw_ladd hx hb d_D_takeMultiple_81 ?_
          refine lv_lstore (lv' := [(5, .long (pn_L ((t / 4294967296) + 0))), (8, .long (pn_L ((pn_u (g (at_ + i))) - (t % 4294967296)))), (7, .int (nI i)), (0, .ref qd), (1, .int (nI at_)), (2, .ref ob), (3, .long (pn_L F))]) hx hb d_D_takeMultiple_82 hl (by decide) rfl (fun ls hl => ?_)
          refine lv_iinc (v := nI (i + 1)) (lv' := [(7, .int (nI (i + 1))), (5, .long (pn_L ((t / 4294967296) + 0))), (8, .long (pn_L ((pn_u (g (at_ + i))) - (t % 4294967296)))), (0, .ref qd), (1, .int (nI at_)), (2, .ref ob), (3, .long (pn_L F))]) hx hb d_D_takeMultiple_84 hl (k := 2) rfl (nI_add _ 1) (by decide) rfl (fun ls hl => ?_)
          refine lv_goto (tgt := 6) hx hb d_D_takeMultiple_87 (by decide) ?_
          exact ih6 (i + 1) _ ((t / 4294967296) + 0) (by omega) (by omega) (by have z := pn_kn_carry hc.1 hc.2 hF0 hF (pn_u_nonneg (fb i)) (show pn_u (fb i) ≤ 4294967295 by have := pn_u_lt (fb i); omega) (pn_u_nonneg (g (at_ + i))) hz1; rw [← ht] at z; exact z) (fun j h => by rw [pk_un (by omega)]; exact hu j (by omega)) (pn_take_step (hu _ (by omega)) hV ht (by rw [ht]; exact hz1)) _ _ _ (lv_sub hl [0, 1, 3, 4, 5, 6] rfl) hP hD hS
        · skip
          have hz1 : (1 : Int) = if pn_u (g (at_ + i)) - (c0 + F * pn_u (fb i)) % 4294967296 < 0 then 1 else 0 := by rw [← ht, if_pos (by omega)]
          refine lv_iconst (v := nI 1) hx hb d_D_takeMultiple_75 (by decide) ?_
          refine lv_goto (tgt := 80) hx hb d_D_takeMultiple_76 (by decide) ?_
          refine pw_i2l hx hb d_D_takeMultiple_80 ?_
          refine pn_topl (pn_L 1) (by decide) ?_
          refine pw_ladd hx hb d_D_takeMultiple_81 ?_
          refine lv_lstore (lv' := [(5, .long (pn_L ((t / 4294967296) + 1))), (8, .long (pn_L ((pn_u (g (at_ + i))) - (t % 4294967296)))), (7, .int (nI i)), (0, .ref qd), (1, .int (nI at_)), (2, .ref ob), (3, .long (pn_L F))]) hx hb d_D_takeMultiple_82 hl (by decide) rfl (fun ls hl => ?_)
          refine lv_iinc (v := nI (i + 1)) (lv' := [(7, .int (nI (i + 1))), (5, .long (pn_L ((t / 4294967296) + 1))), (8, .long (pn_L ((pn_u (g (at_ + i))) - (t % 4294967296)))), (0, .ref qd), (1, .int (nI at_)), (2, .ref ob), (3, .long (pn_L F))]) hx hb d_D_takeMultiple_84 hl (k := 2) rfl (nI_add _ 1) (by decide) rfl (fun ls hl => ?_)
          refine lv_goto (tgt := 6) hx hb d_D_takeMultiple_87 (by decide) ?_
          exact ih6 (i + 1) _ ((t / 4294967296) + 1) (by omega) (by omega) (by have z := pn_kn_carry hc.1 hc.2 hF0 hF (pn_u_nonneg (fb i)) (show pn_u (fb i) ≤ 4294967295 by have := pn_u_lt (fb i); omega) (pn_u_nonneg (g (at_ + i))) hz1; rw [← ht] at z; exact z) (fun j h => by rw [pk_un (by omega)]; exact hu j (by omega)) (pn_take_step (hu _ (by omega)) hV ht (by rw [ht]; exact hz1)) _ _ _ (lv_sub hl [0, 1, 3, 4, 5, 6] rfl) hP hD hS
  exact loop6 _ 0 fd 0 (Nat.lt_succ_self _) (Nat.zero_le _) (by decide) (fun j _ => rfl) (by simp [pn_V_0]) _ _ _ hl hP hD hS

set_option maxHeartbeats 4000000 in
set_option maxRecDepth 100000 in
theorem c_D_putBack (l : Launch) (D : va_G) (cI cZ cB cJ : ClassId) (sz : Nat) (qd : Nat) (fd : Nat → Int32) (ob qb : Nat) (fb : Nat → Int32) (nb : Nat) (bb : Bool) (at_ : Nat) (hat : at_ + nb ≤ 632) : pn_Cv l D (pn_ty cI cZ cB cJ) y_D_putBack w_D_putBack ({ frames := 0, cells := 0, slots := 0, locals := 0 } : Room) [.ref qd, .int (nI at_), .ref ob] [(qd, .inl (cI, 632, .inl fd)), (ob, .inr (1, [.ref qb, .int (nI nb), .int (pn_b bb)])), (qb, .inl (cI, 632, .inl fb))] sz (S := Nat → Int32) (fun g => ∃ k : Int, (∀ j, (j < at_ ∨ at_ + nb ≤ j) → g j = fd j) ∧ pn_V (pn_sh g at_) nb + k * pn_E nb = pn_V (pn_sh fd at_) nb + 1 * pn_V fb nb) (fun g => [(qd, .inl (cI, 632, .inl g)), (ob, .inr (1, [.ref qb, .int (nI nb), .int (pn_b bb)])), (qb, .inl (cI, 632, .inl fb))]) := by
  refine pn_start (by decide) (Nat.le_of_ble_eq_true rfl) ?_
  intro p e s m below meth c A Q ls hQ hAe Fx hr hlocks hN hK hP hD hS hA hl
  have hx := Fx.1
  have hb := Fx.2.1
  have hl : lv_has ls 6 [(0, .ref qd), (1, .int (nI at_)), (2, .ref ob)] := hl
  refine lv_lconst (v := pn_L 0) hx hb d_D_putBack_0 (by decide) ?_
  refine lv_lstore_n (lv' := [(3, .long (pn_L 0)), (0, .ref qd), (1, .int (nI at_)), (2, .ref ob)]) hx hb d_D_putBack_1 rfl hl (by decide) rfl (fun ls hl => ?_)
  refine lv_iconst (v := nI 0) hx hb d_D_putBack_2 (by decide) ?_
  refine lv_istore (lv' := [(5, .int (nI 0)), (3, .long (pn_L 0)), (0, .ref qd), (1, .int (nI at_)), (2, .ref ob)]) hx hb d_D_putBack_3 hl (by decide) rfl (fun ls hl => ?_)
  have loop5 : ∀ (N : Nat) (i : Nat) (g : Nat → Int32) (c0 : Int), nb - i < N → (i ≤ nb) → (0 ≤ c0 ∧ c0 ≤ 1) → (∀ j, (j < at_ ∨ at_ + i ≤ j) → g j = fd j) → (pn_V (pn_sh g at_) i + c0 * pn_E i = pn_V (pn_sh fd at_) i + 1 * pn_V fb i) → ∀ (H : Heap) (locs : List Loc) (ls : Array Slot), lv_has ls 6 [(5, .int (nI i)), (3, .long (pn_L c0)), (0, .ref qd), (1, .int (nI at_)), (2, .ref ob)] → va_P D pn_cl [(qd, .inl (cI, 632, .inl g)), (ob, .inr (1, [.ref qb, .int (nI nb), .int (pn_b bb)])), (qb, .inl (cI, 632, .inl fb))] H → va_D A [(qd, .inl (cI, 632, .inl g)), (ob, .inr (1, [.ref qb, .int (nI nb), .int (pn_b bb)])), (qb, .inl (cI, 632, .inl fb))] → va_S A s.heap H locs → W p l e ({ frames := 0, cells := 0, slots := 0, locals := 0 } : Room) s m ([.ref qd, .int (nI at_), .ref ob] : List Value).toArray below meth c H locs 0 0 Q (F0 m 5 ls []) := by
    intro N
    induction N with
    | zero => intro i g c0 hM; exact absurd hM (Nat.not_lt_zero _)
    | succ N ih5 =>
      intro i g c0 hM5 hi hc hu hV H locs ls hl hP hD hS
      refine lv_iload hx hb d_D_putBack_5 (lv_at hl 0 rfl) ?_
      refine lv_aload_n hx hb d_D_putBack_7 rfl (lv_at hl 4 rfl) ?_
      refine pw_getN Fx hN hK hP fld_R 1 rfl 1 (by decide) kn_95 (v := .int (nI nb)) rfl d_D_putBack_8 ?_
      refine pw_icmp_ge (a := i) (b := nb) (tgt := 60) hx hb d_D_putBack_11 (by decide) (by omega) (by omega) (fun h_11 => ?_) (fun h_11 => ?_)
      · skip
        obtain rfl : nb = i := by omega
        exact pn_retv (g) Fx hr hlocks hQ hAe hP hD hS (by (try dsimp only); first | done | exact (⟨c0, hu, hV⟩)) d_D_putBack_60
      · skip
        refine lv_lload_n hx hb d_D_putBack_14 rfl (lv_at hl 1 rfl) ?_
        refine lv_aload_n hx hb d_D_putBack_15 rfl (lv_at hl 2 rfl) ?_
        refine lv_iload_n hx hb d_D_putBack_16 rfl (lv_at hl 3 rfl) ?_
        refine lv_iload hx hb d_D_putBack_17 (lv_at hl 0 rfl) ?_
        refine pw_iadd hx hb d_D_putBack_19 ?_
        refine pw_iald Fx hK hP 0 0 (f := g) rfl rfl (k := at_ + i) (by omega) (by decide) d_D_putBack_20 ?_
        refine pw_i2l hx hb d_D_putBack_21 ?_
        refine lv_ldc2 hx hb Fx.2.2.2.1 (Fx.2.2.2.2 _ kw_486) d_D_putBack_22 ?_
        refine pw_limb hx hb d_D_putBack_25 ?_
        refine lv_aload_n hx hb d_D_putBack_26 rfl (lv_at hl 4 rfl) ?_
        refine pw_getN Fx hN hK hP fld_R 1 rfl 0 (by decide) kn_91 (v := .ref qb) rfl d_D_putBack_27 ?_
        refine lv_iload hx hb d_D_putBack_30 (lv_at hl 0 rfl) ?_
        refine pw_iald Fx hK hP 2 0 (f := fb) rfl rfl (k := i) (by omega) (by decide) d_D_putBack_32 ?_
        refine pw_i2l hx hb d_D_putBack_33 ?_
        refine lv_ldc2 hx hb Fx.2.2.2.1 (Fx.2.2.2.2 _ kw_486) d_D_putBack_34 ?_
        refine pw_limb hx hb d_D_putBack_37 ?_
        refine pw_ladd hx hb d_D_putBack_38 ?_
        obtain ⟨t, ht⟩ : ∃ t, t = c0 + (pn_u (g (at_ + i)) + pn_u (fb i)) := ⟨_, rfl⟩
        have w0 := pn_u_nonneg (g (at_ + i))
        have w1 := pn_u_lt (g (at_ + i))
        have w2 := pn_u_nonneg (fb i)
        have w3 := pn_u_lt (fb i)
        refine pw_ladd hx hb d_D_putBack_39 ?_
        refine pn_topl (pn_L t) (by rw [ht]) ?_
        refine lv_lstore_n (lv' := [(3, .long (pn_L t)), (5, .int (nI i)), (0, .ref qd), (1, .int (nI at_)), (2, .ref ob)]) hx hb d_D_putBack_40 rfl hl (by decide) rfl (fun ls hl => ?_)
        refine lv_aload_n hx hb d_D_putBack_41 rfl (lv_at hl 2 rfl) ?_
        refine lv_iload_n hx hb d_D_putBack_42 rfl (lv_at hl 3 rfl) ?_
        refine lv_iload hx hb d_D_putBack_43 (lv_at hl 1 rfl) ?_
        refine pw_iadd hx hb d_D_putBack_45 ?_
        refine lv_lload_n hx hb d_D_putBack_46 rfl (lv_at hl 0 rfl) ?_
        refine pw_l2i hx hb d_D_putBack_47 ?_
        refine pw_iast Fx hK hP hD hS 0 0 (f := g) rfl rfl (k := at_ + i) (by omega) (by decide) (w' := [(qd, .inl (cI, 632, .inl (upd g (at_ + i) (pn_I t)))), (ob, .inr (1, [.ref qb, .int (nI nb), .int (pn_b bb)])), (qb, .inl (cI, 632, .inl fb))]) rfl d_D_putBack_48 (fun H locs hP hD hS => ?_)
        refine lv_lload_n hx hb d_D_putBack_49 rfl (lv_at hl 0 rfl) ?_
        refine lv_bipush (v := 32) hx hb d_D_putBack_50 (by decide) ?_
        refine pw_lushr32 hx hb d_D_putBack_52 (by omega) (by omega) ?_
        refine lv_lstore_n (lv' := [(3, .long (pn_L (t / 4294967296))), (5, .int (nI i)), (0, .ref qd), (1, .int (nI at_)), (2, .ref ob)]) hx hb d_D_putBack_53 rfl hl (by decide) rfl (fun ls hl => ?_)
        refine lv_iinc (v := nI (i + 1)) (lv' := [(5, .int (nI (i + 1))), (3, .long (pn_L (t / 4294967296))), (0, .ref qd), (1, .int (nI at_)), (2, .ref ob)]) hx hb d_D_putBack_54 hl (k := 1) rfl (nI_add _ 1) (by decide) rfl (fun ls hl => ?_)
        refine lv_goto (tgt := 5) hx hb d_D_putBack_57 (by decide) ?_
        exact ih5 (i + 1) _ (t / 4294967296) (by omega) (by omega) (by omega) (fun j h => by rw [pk_un (by omega)]; exact hu j (by omega)) (pn_mult_step (hu _ (by omega)) hV (by rw [ht]; omega)) _ _ _ hl hP hD hS
  exact loop5 _ 0 fd 0 (Nat.lt_succ_self _) (Nat.zero_le _) (by decide) (fun j _ => rfl) (by simp [pn_V_0]) _ _ _ hl hP hD hS
