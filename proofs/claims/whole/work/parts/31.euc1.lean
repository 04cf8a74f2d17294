theorem pn_leh_M0 {x y c d : Int} (hy0 : 0 ≤ y) (hyx : y ≤ x) (h0 : 0 ≤ c * x + d * y) (h1 : c * x + d * y < 0 * x + 1 * y) {q : Int} (hc : c = 1 - q * 0) (hd : d = 0 - q * 1) : pn_lehM x y 0 1 c d := by
  have e1 : (0 : Int) * x + 1 * y = y := by grind
  have e2 : c * x + d * y = x - q * y := by subst hc; subst hd; grind
  unfold pn_lehM
  rw [e1] at h1 ⊢
  rw [e2] at h0 h1 ⊢
  refine ⟨h1, Int.le_refl _, ?_⟩
  exact pn_half hy0 hyx rfl h0 h1
theorem pn_leh_Ms {x y a b c d a' c' b' d' q : Int} (hM : pn_lehM x y a b c d) (hY : 0 ≤ c * x + d * y) (h0 : 0 ≤ c' * x + d' * y) (h1 : c' * x + d' * y < c * x + d * y) : pn_lehM x y c d c' d' := by
  obtain ⟨m1, m2, m3⟩ := hM
  refine ⟨h1, by omega, ?_⟩
  have p1 := pn_mul_le (Int.le_of_lt m1) h0
  have p2 := pn_le_mul (show c' * x + d' * y ≤ c * x + d * y by omega) (show 0 ≤ a * x + b * y by omega)
  omega
theorem pn_abs_le {z M : Int} (h : (z.natAbs : Int) ≤ M) : -M ≤ z ∧ z ≤ M := by omega
theorem pn_qc_bd {q c : Int} (hq0 : 0 ≤ q) (hq : q ≤ 2147483647) (h0 : -2147483647 ≤ c) (h1 : c ≤ 2147483647) : -4611686014132420609 ≤ q * c ∧ q * c ≤ 4611686014132420609 := by
  have a1 := pn_le_mul h1 hq0
  have a2 := pn_le_mul h0 hq0
  have e : q * -2147483647 = -(q * 2147483647) := by grind
  omega

set_option maxHeartbeats 4000000 in
set_option maxRecDepth 100000 in
theorem c_E_foresee (l : Launch) (D : va_G) (cI cZ cB cJ : ClassId) (sz : Nat) (oe : Nat) (a0 b0 c0 d0 : Int) (x0 y0 x y s0 e0 g0 : Int) (hs : 0 < s0) (hxx : x = s0 * x0 + e0) (hyy : y = s0 * y0 + g0) (he0 : 0 ≤ e0) (he : e0 ≤ s0) (hg0 : 0 ≤ g0) (hg : g0 ≤ s0) (hx00 : 0 ≤ x0) (hx01 : x0 < 4611686018427387904) (hy00 : 0 ≤ y0) (hy01 : y0 < 4611686018427387904) (hyx : y ≤ x) (hyp : 0 ≤ y) : pn_Cv l D (pn_ty cI cZ cB cJ) y_E_foresee w_E_foresee ({ frames := 1, cells := 0, slots := 0, locals := 40 } : Room) [.ref oe, .long (pn_L x0), .long (pn_L y0)] [(oe, .inr (0, [.long (pn_L a0), .long (pn_L b0), .long (pn_L c0), .long (pn_L d0)]))] sz (S := Int × Int × Int × Int) (fun u => pn_lehS u.1 u.2.1 u.2.2.1 u.2.2.2 ∧ (-2147483647 ≤ u.1 ∧ u.1 ≤ 2147483647) ∧ (-2147483647 ≤ u.2.1 ∧ u.2.1 ≤ 2147483647) ∧ (-2147483647 ≤ u.2.2.1 ∧ u.2.2.1 ≤ 2147483647) ∧ (-2147483647 ≤ u.2.2.2 ∧ u.2.2.2 ≤ 2147483647) ∧ 0 ≤ u.2.2.1 * x + u.2.2.2 * y ∧ Int.gcd (u.1 * x + u.2.1 * y) (u.2.2.1 * x + u.2.2.2 * y) = Int.gcd x y ∧ (u.2.1 ≠ 0 → pn_lehM x y u.1 u.2.1 u.2.2.1 u.2.2.2)) (fun u => [(oe, .inr (0, [.long (pn_L u.1), .long (pn_L u.2.1), .long (pn_L u.2.2.1), .long (pn_L u.2.2.2)]))]) := by
  refine pn_start (by decide) (Nat.le_of_ble_eq_true rfl) ?_
  intro p e s m below meth c A Q ls hQ hAe Fx hr hlocks hN hK hP hD hS hA hl
  have hx := Fx.1
  have hb := Fx.2.1
  have hl : lv_has ls 18 [(0, .ref oe), (1, .long (pn_L x0)), (3, .long (pn_L y0))] := hl
  refine lv_lload_n hx hb d_E_foresee_0 rfl (lv_at hl 1 rfl) ?_
  refine lv_lstore (lv' := [(5, .long (pn_L x0)), (0, .ref oe), (1, .long (pn_L x0)), (3, .long (pn_L y0))]) hx hb d_E_foresee_1 hl (by decide) rfl (fun ls hl => ?_)
  refine lv_lload_n hx hb d_E_foresee_3 rfl (lv_at hl 3 rfl) ?_
  refine lv_lstore (lv' := [(7, .long (pn_L y0)), (5, .long (pn_L x0)), (0, .ref oe), (1, .long (pn_L x0)), (3, .long (pn_L y0))]) hx hb d_E_foresee_4 hl (by decide) rfl (fun ls hl => ?_)
  refine lv_aload_n hx hb d_E_foresee_6 rfl (lv_at hl 2 rfl) ?_
  refine lv_lconst (v := pn_L 1) hx hb d_E_foresee_7 (by decide) ?_
  refine pw_put Fx hK hP hD hS fld_E 0 rfl 0 (by decide) kw_56 rfl rfl rfl (Nat.le_of_ble_eq_true rfl) (w' := [(oe, .inr (0, [.long (pn_L 1), .long (pn_L b0), .long (pn_L c0), .long (pn_L d0)]))]) rfl d_E_foresee_8 (fun H locs hP hD hS => ?_)
  refine lv_aload_n hx hb d_E_foresee_11 rfl (lv_at hl 2 rfl) ?_
  refine lv_lconst (v := pn_L 0) hx hb d_E_foresee_12 (by decide) ?_
  refine pw_put Fx hK hP hD hS fld_E 0 rfl 1 (by decide) kw_57 rfl rfl rfl (Nat.le_of_ble_eq_true rfl) (w' := [(oe, .inr (0, [.long (pn_L 1), .long (pn_L 0), .long (pn_L c0), .long (pn_L d0)]))]) rfl d_E_foresee_13 (fun H locs hP hD hS => ?_)
  refine lv_aload_n hx hb d_E_foresee_16 rfl (lv_at hl 2 rfl) ?_
  refine lv_lconst (v := pn_L 0) hx hb d_E_foresee_17 (by decide) ?_
  refine pw_put Fx hK hP hD hS fld_E 0 rfl 2 (by decide) kw_58 rfl rfl rfl (Nat.le_of_ble_eq_true rfl) (w' := [(oe, .inr (0, [.long (pn_L 1), .long (pn_L 0), .long (pn_L 0), .long (pn_L d0)]))]) rfl d_E_foresee_18 (fun H locs hP hD hS => ?_)
  refine lv_aload_n hx hb d_E_foresee_21 rfl (lv_at hl 2 rfl) ?_
  refine lv_lconst (v := pn_L 1) hx hb d_E_foresee_22 (by decide) ?_
  refine pw_put Fx hK hP hD hS fld_E 0 rfl 3 (by decide) kw_59 rfl rfl rfl (Nat.le_of_ble_eq_true rfl) (w' := [(oe, .inr (0, [.long (pn_L 1), .long (pn_L 0), .long (pn_L 0), .long (pn_L 1)]))]) rfl d_E_foresee_23 (fun H locs hP hD hS => ?_)
  refine lv_iconst (v := nI 0) hx hb d_E_foresee_26 (by decide) ?_
  refine lv_istore (lv' := [(9, .int (nI 0)), (7, .long (pn_L y0)), (5, .long (pn_L x0)), (0, .ref oe), (1, .long (pn_L x0)), (3, .long (pn_L y0))]) hx hb d_E_foresee_27 hl (by decide) rfl (fun ls hl => ?_)
  have loop29 : ∀ (N : Nat) (i : Nat) (xc : Int) (yc : Int) (aa : Int) (bb : Int) (cc : Int) (dd : Int), 62 - i < N → (i ≤ 62) → (pn_lehI x y x0 y0 xc yc aa bb cc dd) → (xc < 4611686018427387904) → (yc < 4611686018427387904) → (-2147483647 ≤ aa ∧ aa ≤ 2147483647) → (-2147483647 ≤ bb ∧ bb ≤ 2147483647) → (-2147483647 ≤ cc ∧ cc ≤ 2147483647) → (-2147483647 ≤ dd ∧ dd ≤ 2147483647) → ((aa = 1 ∧ bb = 0 ∧ cc = 0 ∧ dd = 1) ∨ pn_lehM x y aa bb cc dd) → ∀ (H : Heap) (locs : List Loc) (ls : Array Slot), lv_has ls 18 [(9, .int (nI i)), (5, .long (pn_L xc)), (7, .long (pn_L yc)), (0, .ref oe), (1, .long (pn_L x0)), (3, .long (pn_L y0))] → va_P D pn_cl [(oe, .inr (0, [.long (pn_L aa), .long (pn_L bb), .long (pn_L cc), .long (pn_L dd)]))] H → va_D A [(oe, .inr (0, [.long (pn_L aa), .long (pn_L bb), .long (pn_L cc), .long (pn_L dd)]))] → va_S A s.heap H locs → W p l e ({ frames := 1, cells := 0, slots := 0, locals := 40 } : Room) s m ([.ref oe, .long (pn_L x0), .long (pn_L y0)] : List Value).toArray below meth c H locs 0 0 Q (F0 m 29 ls []) := by
    intro N
    induction N with
    | zero => intro i xc yc aa bb cc dd hM; exact absurd hM (Nat.not_lt_zero _)
    | succ N ih29 =>
      intro i xc yc aa bb cc dd hM29 hi hI hxb hyb hba hbb hbc hbd hM H locs ls hl hP hD hS
      refine lv_iload hx hb d_E_foresee_29 (lv_at hl 0 rfl) ?_
      refine lv_bipush (v := nI 62) hx hb d_E_foresee_31 (by decide) ?_
      refine pw_icmp_ge (a := i) (b := 62) (tgt := 220) hx hb d_E_foresee_33 (by decide) (by omega) (by omega) (fun h_33 => ?_) (fun h_33 => ?_)
      · skip
        exact pn_retv ((aa, bb, cc, dd)) Fx hr hlocks hQ hAe hP hD hS (by (try dsimp only); first | done | exact (⟨hI.2.2.1, hba, hbb, hbc, hbd, hI.2.2.2.2.2.2.2.1, hI.2.2.2.2.2.2.2.2, fun hb9 => hM.elim (fun z => absurd z.2.1 hb9) id⟩)) d_E_foresee_220
      · skip
        obtain ⟨hI1, hI2, hI3, hI4, hI5, hI6, hI7, hI8, hI9⟩ := id hI
        refine lv_lload hx hb d_E_foresee_36 (lv_at hl 2 rfl) ?_
        refine lv_aload_n hx hb d_E_foresee_38 rfl (lv_at hl 3 rfl) ?_
        refine pw_get Fx hK hP fld_E 0 rfl 2 (by decide) kw_58 (v := .long (pn_L cc)) rfl d_E_foresee_39 ?_
        refine pw_ladd hx hb d_E_foresee_42 ?_
        refine lv_lconst (v := pn_L 0) hx hb d_E_foresee_43 (by decide) ?_
        refine W.lcmp hx hb d_E_foresee_44 ?_
        refine pw_ifl_le (a := yc + cc) (b := 0) (tgt := 220) hx hb d_E_foresee_45 (by decide) (by omega) (by omega) (by omega) (by omega) (fun h_45 => ?_) (fun h_45 => ?_)
        · skip
          exact pn_retv ((aa, bb, cc, dd)) Fx hr hlocks hQ hAe hP hD hS (by (try dsimp only); first | done | exact (⟨hI.2.2.1, hba, hbb, hbc, hbd, hI.2.2.2.2.2.2.2.1, hI.2.2.2.2.2.2.2.2, fun hb9 => hM.elim (fun z => absurd z.2.1 hb9) id⟩)) d_E_foresee_220
        · skip
          refine lv_lload hx hb d_E_foresee_48 (lv_at hl 2 rfl) ?_
          refine lv_aload_n hx hb d_E_foresee_50 rfl (lv_at hl 3 rfl) ?_
          refine pw_get Fx hK hP fld_E 0 rfl 3 (by decide) kw_59 (v := .long (pn_L dd)) rfl d_E_foresee_51 ?_
          refine pw_ladd hx hb d_E_foresee_54 ?_
          refine lv_lconst (v := pn_L 0) hx hb d_E_foresee_55 (by decide) ?_
          refine W.lcmp hx hb d_E_foresee_56 ?_
          refine pw_ifl_gt (a := yc + dd) (b := 0) (tgt := 63) hx hb d_E_foresee_57 (by decide) (by omega) (by omega) (by omega) (by omega) (fun h_57 => ?_) (fun h_57 => ?_)
          · skip
            refine lv_lload hx hb d_E_foresee_63 (lv_at hl 1 rfl) ?_
            refine lv_aload_n hx hb d_E_foresee_65 rfl (lv_at hl 3 rfl) ?_
            refine pw_get Fx hK hP fld_E 0 rfl 0 (by decide) kw_56 (v := .long (pn_L aa)) rfl d_E_foresee_66 ?_
            refine pw_ladd hx hb d_E_foresee_69 ?_
            refine lv_lload hx hb d_E_foresee_70 (lv_at hl 2 rfl) ?_
            refine lv_aload_n hx hb d_E_foresee_72 rfl (lv_at hl 3 rfl) ?_
            refine pw_get Fx hK hP fld_E 0 rfl 2 (by decide) kw_58 (v := .long (pn_L cc)) rfl d_E_foresee_73 ?_
            refine pw_ladd hx hb d_E_foresee_76 ?_
            refine pw_ldiv hx hb d_E_foresee_77 hI4 (by omega) h_45 (by omega) ?_
            obtain ⟨qq, hqq⟩ : ∃ qq, qq = (xc + aa) / (yc + cc) := ⟨_, rfl⟩
            have q0 : 0 ≤ qq := by rw [hqq]; exact Int.ediv_nonneg hI4 (by omega)
            have q1 : qq ≤ xc + aa := by rw [hqq]; exact Int.ediv_le_self _ hI4
            refine pn_topl (pn_L qq) (by rw [hqq]) ?_
            refine lv_lstore (lv' := [(10, .long (pn_L qq)), (9, .int (nI i)), (5, .long (pn_L xc)), (7, .long (pn_L yc)), (0, .ref oe), (1, .long (pn_L x0)), (3, .long (pn_L y0))]) hx hb d_E_foresee_78 hl (by decide) rfl (fun ls hl => ?_)
            refine lv_lload hx hb d_E_foresee_80 (lv_at hl 0 rfl) ?_
            refine lv_lload hx hb d_E_foresee_82 (lv_at hl 2 rfl) ?_
            refine lv_aload_n hx hb d_E_foresee_84 rfl (lv_at hl 4 rfl) ?_
            refine pw_get Fx hK hP fld_E 0 rfl 1 (by decide) kw_57 (v := .long (pn_L bb)) rfl d_E_foresee_85 ?_
            refine pw_ladd hx hb d_E_foresee_88 ?_
            refine lv_lload hx hb d_E_foresee_89 (lv_at hl 3 rfl) ?_
            refine lv_aload_n hx hb d_E_foresee_91 rfl (lv_at hl 4 rfl) ?_
            refine pw_get Fx hK hP fld_E 0 rfl 3 (by decide) kw_59 (v := .long (pn_L dd)) rfl d_E_foresee_92 ?_
            refine pw_ladd hx hb d_E_foresee_95 ?_
            refine pw_ldiv hx hb d_E_foresee_96 hI5 (by omega) h_57 (by omega) ?_
            have r0 : 0 ≤ (xc + bb) / (yc + dd) := Int.ediv_nonneg hI5 (by omega)
            have r1 : (xc + bb) / (yc + dd) ≤ xc + bb := Int.ediv_le_self _ hI5
            refine W.lcmp hx hb d_E_foresee_97 ?_
            refine pw_ifl_ne (a := qq) (b := (xc + bb) / (yc + dd)) (tgt := 220) hx hb d_E_foresee_98 (by decide) (by omega) (by omega) (by omega) (by omega) (fun h_98 => ?_) (fun h_98 => ?_)
            · skip
              exact pn_retv ((aa, bb, cc, dd)) Fx hr hlocks hQ hAe hP hD hS (by (try dsimp only); first | done | exact (⟨hI.2.2.1, hba, hbb, hbc, hbd, hI.2.2.2.2.2.2.2.1, hI.2.2.2.2.2.2.2.2, fun hb9 => hM.elim (fun z => absurd z.2.1 hb9) id⟩)) d_E_foresee_220
            · skip
              have sp := pn_leh_step hs hxx hyy he0 he hg0 hg hI h_45 h_57 rfl (by rw [← hqq]; exact h_98)
              refine lv_lload hx hb d_E_foresee_101 (lv_at hl 0 rfl) ?_
              refine lv_ldc2 hx hb Fx.2.2.2.1 (Fx.2.2.2.2 _ kw_554) d_E_foresee_103 ?_
              refine pn_topl (pn_L (2147483647)) (by decide) ?_
              refine W.lcmp hx hb d_E_foresee_106 ?_
              refine pw_ifl_le (a := qq) (b := 2147483647) (tgt := 113) hx hb d_E_foresee_107 (by decide) (by omega) (by omega) (by omega) (by omega) (fun h_107 => ?_) (fun h_107 => ?_)
              · skip
                have c1 := pn_qc_bd q0 h_107 hbc.1 hbc.2
                have c2 := pn_qc_bd q0 h_107 hbd.1 hbd.2
                refine lv_aload_n hx hb d_E_foresee_113 rfl (lv_at hl 4 rfl) ?_
                refine pw_get Fx hK hP fld_E 0 rfl 0 (by decide) kw_56 (v := .long (pn_L aa)) rfl d_E_foresee_114 ?_
                refine lv_lload hx hb d_E_foresee_117 (lv_at hl 0 rfl) ?_
                refine lv_aload_n hx hb d_E_foresee_119 rfl (lv_at hl 4 rfl) ?_
                refine pw_get Fx hK hP fld_E 0 rfl 2 (by decide) kw_58 (v := .long (pn_L cc)) rfl d_E_foresee_120 ?_
                refine pw_lmul hx hb d_E_foresee_123 ?_
                refine pw_lsub hx hb d_E_foresee_124 ?_
                refine lv_lstore (lv' := [(12, .long (pn_L (aa - (qq * cc)))), (10, .long (pn_L qq)), (9, .int (nI i)), (5, .long (pn_L xc)), (7, .long (pn_L yc)), (0, .ref oe), (1, .long (pn_L x0)), (3, .long (pn_L y0))]) hx hb d_E_foresee_125 hl (by decide) rfl (fun ls hl => ?_)
                refine lv_aload_n hx hb d_E_foresee_127 rfl (lv_at hl 5 rfl) ?_
                refine pw_get Fx hK hP fld_E 0 rfl 1 (by decide) kw_57 (v := .long (pn_L bb)) rfl d_E_foresee_128 ?_
                refine lv_lload hx hb d_E_foresee_131 (lv_at hl 1 rfl) ?_
                refine lv_aload_n hx hb d_E_foresee_133 rfl (lv_at hl 5 rfl) ?_
                refine pw_get Fx hK hP fld_E 0 rfl 3 (by decide) kw_59 (v := .long (pn_L dd)) rfl d_E_foresee_134 ?_
                refine pw_lmul hx hb d_E_foresee_137 ?_
                refine pw_lsub hx hb d_E_foresee_138 ?_
                refine lv_lstore (lv' := [(14, .long (pn_L (bb - (qq * dd)))), (12, .long (pn_L (aa - (qq * cc)))), (10, .long (pn_L qq)), (9, .int (nI i)), (5, .long (pn_L xc)), (7, .long (pn_L yc)), (0, .ref oe), (1, .long (pn_L x0)), (3, .long (pn_L y0))]) hx hb d_E_foresee_139 hl (by decide) rfl (fun ls hl => ?_)
                refine lv_lload hx hb d_E_foresee_141 (lv_at hl 1 rfl) ?_
                refine pw_labs Fx hl.1 kw_555 (z := aa - (qq * cc)) (by omega) (by omega) (rest := []) (by decide) (Nat.le_of_ble_eq_true rfl) ⟨Nat.zero_le _, Nat.zero_le _⟩ d_E_foresee_143 ?_
                refine lv_ldc2 hx hb Fx.2.2.2.1 (Fx.2.2.2.2 _ kw_554) d_E_foresee_146 ?_
                refine pn_topl (pn_L (2147483647)) (by decide) ?_
                refine W.lcmp hx hb d_E_foresee_149 ?_
                refine pw_ifl_gt (a := ((aa - (qq * cc)).natAbs : Int)) (b := 2147483647) (tgt := 220) hx hb d_E_foresee_150 (by decide) (by omega) (by omega) (by omega) (by omega) (fun h_150 => ?_) (fun h_150 => ?_)
                · skip
                  exact pn_retv ((aa, bb, cc, dd)) Fx hr hlocks hQ hAe hP hD hS (by (try dsimp only); first | done | exact (⟨hI.2.2.1, hba, hbb, hbc, hbd, hI.2.2.2.2.2.2.2.1, hI.2.2.2.2.2.2.2.2, fun hb9 => hM.elim (fun z => absurd z.2.1 hb9) id⟩)) d_E_foresee_220
                · skip
                  refine lv_lload hx hb d_E_foresee_153 (lv_at hl 0 rfl) ?_
                  refine pw_labs Fx hl.1 kw_555 (z := bb - (qq * dd)) (by omega) (by omega) (rest := []) (by decide) (Nat.le_of_ble_eq_true rfl) ⟨Nat.zero_le _, Nat.zero_le _⟩ d_E_foresee_155 ?_
                  refine lv_ldc2 hx hb Fx.2.2.2.1 (Fx.2.2.2.2 _ kw_554) d_E_foresee_158 ?_
                  refine pn_topl (pn_L (2147483647)) (by decide) ?_
                  refine W.lcmp hx hb d_E_foresee_161 ?_
                  refine pw_ifl_le (a := ((bb - (qq * dd)).natAbs : Int)) (b := 2147483647) (tgt := 168) hx hb d_E_foresee_162 (by decide) (by omega) (by omega) (by omega) (by omega) (fun h_162 => ?_) (fun h_162 => ?_)
                  · skip
                    refine lv_lload hx hb d_E_foresee_168 (lv_at hl 4 rfl) ?_
                    refine lv_lload hx hb d_E_foresee_170 (lv_at hl 2 rfl) ?_
                    refine lv_lload hx hb d_E_foresee_172 (lv_at hl 5 rfl) ?_
                    refine pw_lmul hx hb d_E_foresee_174 ?_
                    refine pw_lsub hx hb d_E_foresee_175 ?_
                    refine lv_lstore (lv' := [(16, .long (pn_L (xc - (qq * yc)))), (14, .long (pn_L (bb - (qq * dd)))), (12, .long (pn_L (aa - (qq * cc)))), (10, .long (pn_L qq)), (9, .int (nI i)), (5, .long (pn_L xc)), (7, .long (pn_L yc)), (0, .ref oe), (1, .long (pn_L x0)), (3, .long (pn_L y0))]) hx hb d_E_foresee_176 hl (by decide) rfl (fun ls hl => ?_)
                    refine lv_aload_n hx hb d_E_foresee_178 rfl (lv_at hl 7 rfl) ?_
                    refine lv_aload_n hx hb d_E_foresee_179 rfl (lv_at hl 7 rfl) ?_
                    refine pw_get Fx hK hP fld_E 0 rfl 2 (by decide) kw_58 (v := .long (pn_L cc)) rfl d_E_foresee_180 ?_
                    refine pw_put Fx hK hP hD hS fld_E 0 rfl 0 (by decide) kw_56 rfl rfl rfl (Nat.le_of_ble_eq_true rfl) (w' := [(oe, .inr (0, [.long (pn_L cc), .long (pn_L bb), .long (pn_L cc), .long (pn_L dd)]))]) rfl d_E_foresee_183 (fun H locs hP hD hS => ?_)
                    refine lv_aload_n hx hb d_E_foresee_186 rfl (lv_at hl 7 rfl) ?_
                    refine lv_aload_n hx hb d_E_foresee_187 rfl (lv_at hl 7 rfl) ?_
                    refine pw_get Fx hK hP fld_E 0 rfl 3 (by decide) kw_59 (v := .long (pn_L dd)) rfl d_E_foresee_188 ?_
                    refine pw_put Fx hK hP hD hS fld_E 0 rfl 1 (by decide) kw_57 rfl rfl rfl (Nat.le_of_ble_eq_true rfl) (w' := [(oe, .inr (0, [.long (pn_L cc), .long (pn_L dd), .long (pn_L cc), .long (pn_L dd)]))]) rfl d_E_foresee_191 (fun H locs hP hD hS => ?_)
                    refine lv_lload hx hb d_E_foresee_194 (lv_at hl 6 rfl) ?_
                    refine lv_lstore (lv' := [(5, .long (pn_L yc)), (16, .long (pn_L (xc - (qq * yc)))), (14, .long (pn_L (bb - (qq * dd)))), (12, .long (pn_L (aa - (qq * cc)))), (10, .long (pn_L qq)), (9, .int (nI i)), (7, .long (pn_L yc)), (0, .ref oe), (1, .long (pn_L x0)), (3, .long (pn_L y0))]) hx hb d_E_foresee_196 hl (by decide) rfl (fun ls hl => ?_)
                    refine lv_aload_n hx hb d_E_foresee_198 rfl (lv_at hl 7 rfl) ?_
                    refine lv_lload hx hb d_E_foresee_199 (lv_at hl 3 rfl) ?_
                    refine pw_put Fx hK hP hD hS fld_E 0 rfl 2 (by decide) kw_58 rfl rfl rfl (Nat.le_of_ble_eq_true rfl) (w' := [(oe, .inr (0, [.long (pn_L cc), .long (pn_L dd), .long (pn_L (aa - (qq * cc))), .long (pn_L dd)]))]) rfl d_E_foresee_201 (fun H locs hP hD hS => ?_)
                    refine lv_aload_n hx hb d_E_foresee_204 rfl (lv_at hl 7 rfl) ?_
                    refine lv_lload hx hb d_E_foresee_205 (lv_at hl 2 rfl) ?_
                    refine pw_put Fx hK hP hD hS fld_E 0 rfl 3 (by decide) kw_59 rfl rfl rfl (Nat.le_of_ble_eq_true rfl) (w' := [(oe, .inr (0, [.long (pn_L cc), .long (pn_L dd), .long (pn_L (aa - (qq * cc))), .long (pn_L (bb - (qq * dd)))]))]) rfl d_E_foresee_207 (fun H locs hP hD hS => ?_)
                    refine lv_lload hx hb d_E_foresee_210 (lv_at hl 1 rfl) ?_
                    refine lv_lstore (lv' := [(7, .long (pn_L (xc - (qq * yc)))), (5, .long (pn_L yc)), (16, .long (pn_L (xc - (qq * yc)))), (14, .long (pn_L (bb - (qq * dd)))), (12, .long (pn_L (aa - (qq * cc)))), (10, .long (pn_L qq)), (9, .int (nI i)), (0, .ref oe), (1, .long (pn_L x0)), (3, .long (pn_L y0))]) hx hb d_E_foresee_212 hl (by decide) rfl (fun ls hl => ?_)
                    refine lv_iinc (v := nI (i + 1)) (lv' := [(9, .int (nI (i + 1))), (7, .long (pn_L (xc - (qq * yc)))), (5, .long (pn_L yc)), (16, .long (pn_L (xc - (qq * yc)))), (14, .long (pn_L (bb - (qq * dd)))), (12, .long (pn_L (aa - (qq * cc)))), (10, .long (pn_L qq)), (0, .ref oe), (1, .long (pn_L x0)), (3, .long (pn_L y0))]) hx hb d_E_foresee_214 hl (k := 6) rfl (nI_add _ 1) (by decide) rfl (fun ls hl => ?_)
                    refine lv_goto (tgt := 29) hx hb d_E_foresee_217 (by decide) ?_
                    exact ih29 (i + 1) yc (xc - qq * yc) cc dd (aa - qq * cc) (bb - qq * dd) (by omega) (by omega) (by have z := sp.1; rw [← hqq] at z; exact z) hyb (by have z := sp.2.2.1; rw [← hqq] at z; omega) hbc hbd (pn_abs_le h_150) (pn_abs_le h_162) (by have z1 := sp.1; have z2 := sp.2.1; rw [← hqq] at z1 z2; exact Or.inr (hM.elim (fun hm => by obtain ⟨rfl, rfl, rfl, rfl⟩ := hm; exact pn_leh_M0 hyp hyx z1.2.2.2.2.2.2.2.1 z2 rfl rfl) (fun hm => pn_leh_Ms (q := qq) (a' := 0) (b' := 0) hm hI.2.2.2.2.2.2.2.1 z1.2.2.2.2.2.2.2.1 z2))) _ _ _ (lv_sub hl [0, 2, 1, 7, 8, 9] rfl) hP hD hS
                  · skip
                    refine lv_goto (tgt := 220) hx hb d_E_foresee_165 (by decide) ?_
                    exact pn_retv ((aa, bb, cc, dd)) Fx hr hlocks hQ hAe hP hD hS (by (try dsimp only); first | done | exact (⟨hI.2.2.1, hba, hbb, hbc, hbd, hI.2.2.2.2.2.2.2.1, hI.2.2.2.2.2.2.2.2, fun hb9 => hM.elim (fun z => absurd z.2.1 hb9) id⟩)) d_E_foresee_220
              · skip
                refine lv_goto (tgt := 220) hx hb d_E_foresee_110 (by decide) ?_
                exact pn_retv ((aa, bb, cc, dd)) Fx hr hlocks hQ hAe hP hD hS (by (try dsimp only); first | done | exact (⟨hI.2.2.1, hba, hbb, hbc, hbd, hI.2.2.2.2.2.2.2.1, hI.2.2.2.2.2.2.2.2, fun hb9 => hM.elim (fun z => absurd z.2.1 hb9) id⟩)) d_E_foresee_220
          · skip
            refine lv_goto (tgt := 220) hx hb d_E_foresee_60 (by decide) ?_
            exact pn_retv ((aa, bb, cc, dd)) Fx hr hlocks hQ hAe hP hD hS (by (try dsimp only); first | done | exact (⟨hI.2.2.1, hba, hbb, hbc, hbd, hI.2.2.2.2.2.2.2.1, hI.2.2.2.2.2.2.2.2, fun hb9 => hM.elim (fun z => absurd z.2.1 hb9) id⟩)) d_E_foresee_220
  exact loop29 _ 0 x0 y0 1 0 0 1 (Nat.lt_succ_self _) (by decide) (⟨by grind, by grind, Or.inl ⟨by decide, by decide, by decide, by decide⟩, by omega, by omega, hx00, hy00, by omega, by congr 1 <;> grind⟩) hx01 hy01 (by decide) (by decide) (by decide) (by decide) (Or.inl ⟨rfl, rfl, rfl, rfl⟩) _ _ _ (lv_sub hl [0, 2, 1, 3, 4, 5] rfl) hP hD hS
