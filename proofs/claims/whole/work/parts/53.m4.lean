theorem pm_take_end {V v w bo P : Nat} (h : V + w = v + bo * P) (hV : V < P) (hw : w ≤ v) (hb : bo ≤ 1) : V = v - w := by
  rcases (show bo = 0 ∨ bo = 1 by omega) with z | z
  · subst z; omega
  · subst z; omega

theorem pm_tk {A B V P bo x y d b2 : Nat} (h : V + B = A + bo * P) (e : d + y + bo = x + b2 * 10000) : V + d * P + (B + y * P) = A + x * P + b2 * (P * 10000) := by
  have e2 : (d + y + bo) * P = (x + b2 * 10000) * P := by rw [e]
  rw [Nat.add_mul, Nat.add_mul, Nat.add_mul] at e2
  have : b2 * (P * 10000) = b2 * 10000 * P := by rw [Nat.mul_comm P 10000, Nat.mul_assoc]
  omega

set_option maxHeartbeats 4000000 in
set_option maxRecDepth 100000 in
theorem c_M_takeFrom (l : Launch) (D : va_G) (cI cZ cB cJ : ClassId) (sz : Nat) (oM qW qM qK qJ qG qH qP cd pl : Nat) (wk mn : Nat → Nat) (b c9 v v2 : Nat) (hb7 : b < 7) (hc7 : c9 < 7) (hbc : b ≠ c9) (hN1 : pm_N wk mn b v) (hN2 : pm_N wk mn c9 v2) (hle : v2 ≤ v) : pn_Cv l D (pn_ty cI cZ cB cJ) y_M_takeFrom w_M_takeFrom ({ frames := 1, cells := 0, slots := 0, locals := 40 } : Room) [.ref oM, .int (nI b), .int (nI c9)] [(oM, .inr (5, [.int (nI cd), .ref qW, .ref qM, .ref qK, .ref qJ, .ref qG, .ref qH, .ref qP, .int (nI pl)])), (qW, .inl (cI, 22400, .inl (fun z9 => nI (wk z9)))), (qM, .inl (cI, 7, .inl (fun z9 => nI (mn z9))))] sz (S := (Nat → Nat) × Nat) (fun u => pm_N u.1 (pn_up mn b u.2) b (v - v2) ∧ pm_K b wk mn u.1 (pn_up mn b u.2)) (fun u => [(oM, .inr (5, [.int (nI cd), .ref qW, .ref qM, .ref qK, .ref qJ, .ref qG, .ref qH, .ref qP, .int (nI pl)])), (qW, .inl (cI, 22400, .inl (fun z9 => nI (u.1 z9)))), (qM, .inl (cI, 7, .inl (fun z9 => nI ((pn_up mn b u.2) z9))))]) := by
  refine pn_start (by decide) (Nat.le_of_ble_eq_true rfl) ?_
  intro p e s m below meth c A Q ls hQ hAe Fx hr hlocks hN hK hP hD hS hA hl
  have hx := Fx.1
  have hb := Fx.2.1
  have hl : lv_has ls 6 [(0, .ref oM), (1, .int (nI b)), (2, .int (nI c9))] := hl
  obtain ⟨n1, n2, n3, n4⟩ := id hN1
  obtain ⟨m1, m2, m3, m4⟩ := id hN2
  have hmm : mn c9 ≤ mn b := pm_N_cnt hN2 (Nat.lt_of_le_of_lt hle (pm_N_lt hN1))
  refine lv_iconst (v := nI 0) hx hb d_M_takeFrom_0 (by decide) ?_
  refine lv_istore_n (lv' := [(3, .int (nI 0)), (0, .ref oM), (1, .int (nI b)), (2, .int (nI c9))]) hx hb d_M_takeFrom_1 rfl hl (by decide) rfl (fun ls hl => ?_)
  refine lv_iconst (v := nI 0) hx hb d_M_takeFrom_2 (by decide) ?_
  refine lv_istore (lv' := [(4, .int (nI 0)), (3, .int (nI 0)), (0, .ref oM), (1, .int (nI b)), (2, .int (nI c9))]) hx hb d_M_takeFrom_3 hl (by decide) rfl (fun ls hl => ?_)
  have loop5 : ∀ (N : Nat) (i : Nat) (bo : Nat) (w1 : Nat → Nat), mn b - i < N → (i ≤ mn b) → (bo ≤ 1) → (pm_fr b wk w1) → (pm_fig (pm_at w1 b) i) → (∀ j, i ≤ j → pm_at w1 b j = pm_at wk b j) → (pm_V (pm_at w1 b) i + pm_V (pm_c (pm_at wk c9) (mn c9)) i = pm_V (pm_at wk b) i + bo * 10000 ^ i) → ∀ (H : Heap) (locs : List Loc) (ls : Array Slot), lv_has ls 6 [(4, .int (nI i)), (3, .int (nI bo)), (0, .ref oM), (1, .int (nI b)), (2, .int (nI c9))] → va_P D pn_cl [(oM, .inr (5, [.int (nI cd), .ref qW, .ref qM, .ref qK, .ref qJ, .ref qG, .ref qH, .ref qP, .int (nI pl)])), (qW, .inl (cI, 22400, .inl (fun z9 => nI (w1 z9)))), (qM, .inl (cI, 7, .inl (fun z9 => nI (mn z9))))] H → va_D A [(oM, .inr (5, [.int (nI cd), .ref qW, .ref qM, .ref qK, .ref qJ, .ref qG, .ref qH, .ref qP, .int (nI pl)])), (qW, .inl (cI, 22400, .inl (fun z9 => nI (w1 z9)))), (qM, .inl (cI, 7, .inl (fun z9 => nI (mn z9))))] → va_S A s.heap H locs → W p l e ({ frames := 1, cells := 0, slots := 0, locals := 40 } : Room) s m ([.ref oM, .int (nI b), .int (nI c9)] : List Value).toArray below meth c H locs 0 0 Q (F0 m 5 ls []) := by
    intro N
    induction N with
    | zero => intro i bo w1 hM; exact absurd hM (Nat.not_lt_zero _)
    | succ N ih5 =>
      intro i bo w1 hM5 hi hbo hF hfg hun hV H locs ls hl hP hD hS
      refine lv_iload hx hb d_M_takeFrom_5 (lv_at hl 0 rfl) ?_
      refine lv_aload_n hx hb d_M_takeFrom_7 rfl (lv_at hl 2 rfl) ?_
      refine pw_get Fx hK hP fld_M 0 rfl 2 (by decide) kw_632 (v := .ref qM) rfl d_M_takeFrom_8 ?_
      refine lv_iload_n hx hb d_M_takeFrom_11 rfl (lv_at hl 3 rfl) ?_
      refine pw_iald Fx hK hP 2 0 (f := fun z9 => nI (mn z9)) rfl rfl (k := b) (by omega) (by decide) d_M_takeFrom_12 ?_
      refine pn_topi (nI (mn b)) rfl ?_
      refine pw_icmp_ge (a := i) (b := mn b) (tgt := 87) hx hb d_M_takeFrom_13 (by decide) (by omega) (by omega) (fun h_13 => ?_) (fun h_13 => ?_)
      · skip
        have hin : i = mn b := by omega
        subst hin
        refine lv_aload_n hx hb d_M_takeFrom_87 rfl (lv_at hl 2 rfl) ?_
        refine lv_iload_n hx hb d_M_takeFrom_88 rfl (lv_at hl 3 rfl) ?_
        refine lv_aload_n hx hb d_M_takeFrom_89 rfl (lv_at hl 2 rfl) ?_
        refine pw_get Fx hK hP fld_M 0 rfl 2 (by decide) kw_632 (v := .ref qM) rfl d_M_takeFrom_90 ?_
        refine lv_iload_n hx hb d_M_takeFrom_93 rfl (lv_at hl 3 rfl) ?_
        refine pw_iald Fx hK hP 2 0 (f := fun z9 => nI (mn z9)) rfl rfl (k := b) (by omega) (by decide) d_M_takeFrom_94 ?_
        refine pn_topi (nI (mn b)) rfl ?_
        refine pn_bv (wr := []) [0, 1, 2] [] hP hD hS hA (pn_rV [.int (nI b), .int (nI (mn b))] [] Fx hK hN hP hD [0, 1, 2] rfl rfl (c_M_trim l D cI cZ cB cJ _ oM qW qM qK qJ qG qH qP cd pl w1 mn b (mn b) hb7 (by omega) hfg) kw_695 cal_M_trim inst_M_trim sel_M_trim ⟨by decide, by decide⟩ ⟨rfl, rfl⟩ 0 rfl rfl rfl rfl hl.1 (Nat.le_of_ble_eq_true rfl) d_M_takeFrom_95 ⟨Nat.zero_le _, Nat.zero_le _⟩) rfl rfl rfl (by decide) (fun u_95 H locs hw hP hD hS => ?_)
        obtain ⟨t1, t2, t3⟩ := hw
        have hP : va_P D pn_cl [(oM, .inr (5, [.int (nI cd), .ref qW, .ref qM, .ref qK, .ref qJ, .ref qG, .ref qH, .ref qP, .int (nI pl)])), (qW, .inl (cI, 22400, .inl (fun z9 => nI (w1 z9)))), (qM, .inl (cI, 7, .inl (fun z9 => nI ((pn_up mn b u_95) z9))))] H := hP
        have hD : va_D A [(oM, .inr (5, [.int (nI cd), .ref qW, .ref qM, .ref qK, .ref qJ, .ref qG, .ref qH, .ref qP, .int (nI pl)])), (qW, .inl (cI, 22400, .inl (fun z9 => nI (w1 z9)))), (qM, .inl (cI, 7, .inl (fun z9 => nI ((pn_up mn b u_95) z9))))] := hD
        exact pn_retv ((w1, u_95)) Fx hr hlocks hQ hAe hP hD hS (by (try dsimp only); first | done | exact (⟨pm_N_of (n := mn b) (by omega) hfg t1 t2 t3 (pm_take_end (by rw [pm_c_V hmm, m4, n4] at hV; exact hV) (pm_V_lt hfg) hle hbo), pm_K_of hF⟩)) d_M_takeFrom_98
      · skip
        have hxe : w1 (3200 * b + i) = pm_at wk b i := hun i (Nat.le_refl i)
        have f1 := n2 i h_13
        rw [← hxe] at f1
        have f2 := pm_c_lt m2 i
        refine lv_aload_n hx hb d_M_takeFrom_16 rfl (lv_at hl 2 rfl) ?_
        refine pw_get Fx hK hP fld_M 0 rfl 1 (by decide) kw_631 (v := .ref qW) rfl d_M_takeFrom_17 ?_
        refine lv_sipush (v := nI 3200) hx hb d_M_takeFrom_20 (by decide) ?_
        refine lv_iload_n hx hb d_M_takeFrom_23 rfl (lv_at hl 3 rfl) ?_
        refine pw_imul hx hb d_M_takeFrom_24 ?_
        refine lv_iload hx hb d_M_takeFrom_25 (lv_at hl 0 rfl) ?_
        refine pw_iadd hx hb d_M_takeFrom_27 ?_
        refine pw_iald Fx hK hP 1 0 (f := fun z9 => nI (w1 z9)) rfl rfl (k := 3200 * b + i) (by omega) (by decide) d_M_takeFrom_28 ?_
        refine pn_topi (nI (w1 (3200 * b + i))) rfl ?_
        refine lv_aload_n hx hb d_M_takeFrom_29 rfl (lv_at hl 2 rfl) ?_
        refine lv_iload_n hx hb d_M_takeFrom_30 rfl (lv_at hl 4 rfl) ?_
        refine lv_iload hx hb d_M_takeFrom_31 (lv_at hl 0 rfl) ?_
        refine pn_bi (wr := []) [0, 1, 2] [] hP hD hS hA (pn_rV [.int (nI c9), .int (nI i)] [.int (nI (w1 (3200 * b + i)))] Fx hK hN hP hD [0, 1, 2] rfl rfl (c_M_figure l D cI cZ cB cJ _ oM qW qM qK qJ qG qH qP cd pl w1 mn c9 i (by omega) (by omega) (by omega)) kw_716 cal_M_figure inst_M_figure sel_M_figure ⟨by decide, by decide⟩ ⟨rfl, rfl⟩ 0 rfl rfl rfl rfl hl.1 (Nat.le_of_ble_eq_true rfl) d_M_takeFrom_33 ⟨Nat.zero_le _, Nat.zero_le _⟩) rfl rfl rfl (by decide) (fun r_33 u_33 H locs hw hP hD hS => ?_)
        obtain ⟨⟩ := u_33
        have hP : va_P D pn_cl [(oM, .inr (5, [.int (nI cd), .ref qW, .ref qM, .ref qK, .ref qJ, .ref qG, .ref qH, .ref qP, .int (nI pl)])), (qW, .inl (cI, 22400, .inl (fun z9 => nI (w1 z9)))), (qM, .inl (cI, 7, .inl (fun z9 => nI (mn z9))))] H := hP
        have hD : va_D A [(oM, .inr (5, [.int (nI cd), .ref qW, .ref qM, .ref qK, .ref qJ, .ref qG, .ref qH, .ref qP, .int (nI pl)])), (qW, .inl (cI, 22400, .inl (fun z9 => nI (w1 z9)))), (qM, .inl (cI, 7, .inl (fun z9 => nI (mn z9))))] := hD
        refine pn_topi (nI (pm_c (pm_at wk c9) (mn c9) i)) (by rw [hw]; unfold pm_c; split; (· rw [hF c9 i (Ne.symm hbc) (by omega)]); (· rfl)) ?_
        refine pw_isubNN hx hb d_M_takeFrom_36 ?_
        refine lv_iload_n hx hb d_M_takeFrom_37 rfl (lv_at hl 1 rfl) ?_
        refine pw_isubZN hx hb d_M_takeFrom_38 ?_
        refine lv_istore (lv' := [(5, .int (pn_I ((((w1 (3200 * b + i) : Nat) : Int) - ((pm_c (pm_at wk c9) (mn c9) i : Nat) : Int)) - ((bo : Nat) : Int)))), (4, .int (nI i)), (3, .int (nI bo)), (0, .ref oM), (1, .int (nI b)), (2, .int (nI c9))]) hx hb d_M_takeFrom_39 hl (by decide) rfl (fun ls hl => ?_)
        refine lv_iload hx hb d_M_takeFrom_41 (lv_at hl 0 rfl) ?_
        refine pw_ifz_ge (z := (((w1 (3200 * b + i) : Nat) : Int) - ((pm_c (pm_at wk c9) (mn c9) i : Nat) : Int)) - ((bo : Nat) : Int)) (tgt := 50) hx hb d_M_takeFrom_43 (by decide) (by omega) (by omega) (fun h_43 => ?_) (fun h_43 => ?_)
        · skip
          refine lv_iconst (v := nI 0) hx hb d_M_takeFrom_50 (by decide) ?_
          refine lv_istore_n (lv' := [(3, .int (nI 0)), (5, .int (pn_I ((((w1 (3200 * b + i) : Nat) : Int) - ((pm_c (pm_at wk c9) (mn c9) i : Nat) : Int)) - ((bo : Nat) : Int)))), (4, .int (nI i)), (0, .ref oM), (1, .int (nI b)), (2, .int (nI c9))]) hx hb d_M_takeFrom_51 rfl hl (by decide) rfl (fun ls hl => ?_)
          refine lv_aload_n hx hb d_M_takeFrom_52 rfl (lv_at hl 3 rfl) ?_
          refine pw_get Fx hK hP fld_M 0 rfl 1 (by decide) kw_631 (v := .ref qW) rfl d_M_takeFrom_53 ?_
          refine lv_sipush (v := nI 3200) hx hb d_M_takeFrom_56 (by decide) ?_
          refine lv_iload_n hx hb d_M_takeFrom_59 rfl (lv_at hl 4 rfl) ?_
          refine pw_imul hx hb d_M_takeFrom_60 ?_
          refine lv_iload hx hb d_M_takeFrom_61 (lv_at hl 2 rfl) ?_
          refine pw_iadd hx hb d_M_takeFrom_63 ?_
          refine lv_iload hx hb d_M_takeFrom_64 (lv_at hl 1 rfl) ?_
          refine pw_ifz_ge (z := (((w1 (3200 * b + i) : Nat) : Int) - ((pm_c (pm_at wk c9) (mn c9) i : Nat) : Int)) - ((bo : Nat) : Int)) (tgt := 78) hx hb d_M_takeFrom_66 (by decide) (by omega) (by omega) (fun h_66 => ?_) (fun h_66 => ?_)
          · skip
            refine lv_iload hx hb d_M_takeFrom_78 (lv_at hl 1 rfl) ?_
            refine pn_topi (nI (w1 (3200 * b + i) - pm_c (pm_at wk c9) (mn c9) i - bo)) (by rw [← pn_I_nI]; exact congrArg pn_I (by omega)) ?_
            refine pw_iastN Fx hK hP hD hS 1 0 (g := w1) rfl rfl (k := 3200 * b + i) (by omega) (by decide) (w' := [(oM, .inr (5, [.int (nI cd), .ref qW, .ref qM, .ref qK, .ref qJ, .ref qG, .ref qH, .ref qP, .int (nI pl)])), (qW, .inl (cI, 22400, .inl (fun z9 => nI ((pn_up w1 (3200 * b + i) (w1 (3200 * b + i) - pm_c (pm_at wk c9) (mn c9) i - bo)) z9)))), (qM, .inl (cI, 7, .inl (fun z9 => nI (mn z9))))]) rfl d_M_takeFrom_80 (fun H locs hP hD hS => ?_)
            refine lv_iinc (v := nI (i + 1)) (lv' := [(4, .int (nI (i + 1))), (3, .int (nI 0)), (5, .int (pn_I ((((w1 (3200 * b + i) : Nat) : Int) - ((pm_c (pm_at wk c9) (mn c9) i : Nat) : Int)) - ((bo : Nat) : Int)))), (0, .ref oM), (1, .int (nI b)), (2, .int (nI c9))]) hx hb d_M_takeFrom_81 hl (k := 2) rfl (nI_add _ 1) (by decide) rfl (fun ls hl => ?_)
            refine lv_goto (tgt := 5) hx hb d_M_takeFrom_84 (by decide) ?_
            exact ih5 (i + 1) 0 _ (by omega) (by omega) (by omega) (pm_fr_up hF (by omega)) (by rw [pm_at_up]; exact pm_fig_upS hfg (by omega)) (fun j hj => by rw [pm_at_up, pn_up_n (by omega)]; exact hun j (by omega)) (by rw [pm_at_up, pm_V_upS, pm_P_s, pm_V_s, pm_V_s, ← hxe]; have := pm_tk (P := 10000 ^ i) hV (x := w1 (3200 * b + i)) (y := pm_c (pm_at wk c9) (mn c9) i) (d := w1 (3200 * b + i) - pm_c (pm_at wk c9) (mn c9) i - bo) (b2 := 0) (by omega); omega) _ _ _ (lv_sub hl [0, 1, 3, 4, 5] rfl) hP hD hS
          · skip
            exact absurd h_66 (by omega)
        · skip
          refine lv_iconst (v := nI 1) hx hb d_M_takeFrom_46 (by decide) ?_
          refine lv_goto (tgt := 51) hx hb d_M_takeFrom_47 (by decide) ?_
          refine lv_istore_n (lv' := [(3, .int (nI 1)), (5, .int (pn_I ((((w1 (3200 * b + i) : Nat) : Int) - ((pm_c (pm_at wk c9) (mn c9) i : Nat) : Int)) - ((bo : Nat) : Int)))), (4, .int (nI i)), (0, .ref oM), (1, .int (nI b)), (2, .int (nI c9))]) hx hb d_M_takeFrom_51 rfl hl (by decide) rfl (fun ls hl => ?_)
          refine lv_aload_n hx hb d_M_takeFrom_52 rfl (lv_at hl 3 rfl) ?_
          refine pw_get Fx hK hP fld_M 0 rfl 1 (by decide) kw_631 (v := .ref qW) rfl d_M_takeFrom_53 ?_
          refine lv_sipush (v := nI 3200) hx hb d_M_takeFrom_56 (by decide) ?_
          refine lv_iload_n hx hb d_M_takeFrom_59 rfl (lv_at hl 4 rfl) ?_
          refine pw_imul hx hb d_M_takeFrom_60 ?_
          refine lv_iload hx hb d_M_takeFrom_61 (lv_at hl 2 rfl) ?_
          refine pw_iadd hx hb d_M_takeFrom_63 ?_
          refine lv_iload hx hb d_M_takeFrom_64 (lv_at hl 1 rfl) ?_
          refine pw_ifz_ge (z := (((w1 (3200 * b + i) : Nat) : Int) - ((pm_c (pm_at wk c9) (mn c9) i : Nat) : Int)) - ((bo : Nat) : Int)) (tgt := 78) hx hb d_M_takeFrom_66 (by decide) (by omega) (by omega) (fun h_66 => ?_) (fun h_66 => ?_)
          · skip
            exact absurd h_66 (by omega)
          · skip
            refine lv_iload hx hb d_M_takeFrom_69 (lv_at hl 1 rfl) ?_
            refine lv_sipush (v := nI 10000) hx hb d_M_takeFrom_71 (by decide) ?_
            refine lv_iadd hx hb d_M_takeFrom_74 ?_
            refine pn_topi (nI (w1 (3200 * b + i) + 10000 - pm_c (pm_at wk c9) (mn c9) i - bo)) (by rw [← pn_I_nI 10000, pn_I_add, ← pn_I_nI]; exact congrArg pn_I (by omega)) ?_
            refine lv_goto (tgt := 80) hx hb d_M_takeFrom_75 (by decide) ?_
            refine pw_iastN Fx hK hP hD hS 1 0 (g := w1) rfl rfl (k := 3200 * b + i) (by omega) (by decide) (w' := [(oM, .inr (5, [.int (nI cd), .ref qW, .ref qM, .ref qK, .ref qJ, .ref qG, .ref qH, .ref qP, .int (nI pl)])), (qW, .inl (cI, 22400, .inl (fun z9 => nI ((pn_up w1 (3200 * b + i) (w1 (3200 * b + i) + 10000 - pm_c (pm_at wk c9) (mn c9) i - bo)) z9)))), (qM, .inl (cI, 7, .inl (fun z9 => nI (mn z9))))]) rfl d_M_takeFrom_80 (fun H locs hP hD hS => ?_)
            refine lv_iinc (v := nI (i + 1)) (lv' := [(4, .int (nI (i + 1))), (3, .int (nI 1)), (5, .int (pn_I ((((w1 (3200 * b + i) : Nat) : Int) - ((pm_c (pm_at wk c9) (mn c9) i : Nat) : Int)) - ((bo : Nat) : Int)))), (0, .ref oM), (1, .int (nI b)), (2, .int (nI c9))]) hx hb d_M_takeFrom_81 hl (k := 2) rfl (nI_add _ 1) (by decide) rfl (fun ls hl => ?_)
            refine lv_goto (tgt := 5) hx hb d_M_takeFrom_84 (by decide) ?_
            exact ih5 (i + 1) 1 _ (by omega) (by omega) (by omega) (pm_fr_up hF (by omega)) (by rw [pm_at_up]; exact pm_fig_upS hfg (by omega)) (fun j hj => by rw [pm_at_up, pn_up_n (by omega)]; exact hun j (by omega)) (by rw [pm_at_up, pm_V_upS, pm_P_s, pm_V_s, pm_V_s, ← hxe]; have := pm_tk (P := 10000 ^ i) hV (x := w1 (3200 * b + i)) (y := pm_c (pm_at wk c9) (mn c9) i) (d := w1 (3200 * b + i) + 10000 - pm_c (pm_at wk c9) (mn c9) i - bo) (b2 := 1) (by omega); omega) _ _ _ (lv_sub hl [0, 1, 3, 4, 5] rfl) hP hD hS
  exact loop5 _ 0 0 wk (Nat.lt_succ_self _) (Nat.zero_le _) (by omega) pm_fr_refl (fun i hi => by omega) (fun _ _ => rfl) (by simp [pm_V_0]) _ _ _ hl hP hD hS

theorem pm_sm {V A f c x P : Nat} (h : V + c * P = f * A) : V + (c + x * f) % 10000 * P + (c + x * f) / 10000 * (P * 10000) = f * (A + x * P) := by
  rw [Nat.add_assoc, pm_digit, Nat.add_mul, Nat.mul_add, ← h, ← Nat.mul_assoc, Nat.mul_comm f x]; omega
theorem pm_sm_b {f c x : Nat} (hc : c ≤ f) (hx : x < 10000) : (c + x * f) / 10000 ≤ f ∧ c + x * f ≤ 10000 * f := by
  have : x * f ≤ 9999 * f := Nat.mul_le_mul_right _ (by omega)
  omega
theorem pm_room {V c P T m n : Nat} (h : V + c * 10000 ^ n = T) (hc : 0 < c) (hT : T < 10000 ^ m) : n < m := by
  have a : 1 * 10000 ^ n ≤ c * 10000 ^ n := Nat.mul_le_mul_right _ hc
  refine Nat.lt_of_not_le (fun z => ?_)
  have := pm_mono z
  omega

set_option maxHeartbeats 4000000 in
set_option maxRecDepth 100000 in
theorem c_M_small (l : Launch) (D : va_G) (cI cZ cB cJ : ClassId) (sz : Nat) (oM qW qM qK qJ qG qH qP cd pl : Nat) (wk mn : Nat → Nat) (b fa v : Nat) (hb7 : b < 7) (hfa : fa < 2 ^ 31) (hN1 : pm_N wk mn b v) (hlim : fa * v < 10000 ^ 3200) : pn_Cv l D (pn_ty cI cZ cB cJ) y_M_small w_M_small ({ frames := 1, cells := 0, slots := 0, locals := 40 } : Room) [.ref oM, .int (nI b), .int (nI fa)] [(oM, .inr (5, [.int (nI cd), .ref qW, .ref qM, .ref qK, .ref qJ, .ref qG, .ref qH, .ref qP, .int (nI pl)])), (qW, .inl (cI, 22400, .inl (fun z9 => nI (wk z9)))), (qM, .inl (cI, 7, .inl (fun z9 => nI (mn z9))))] sz (S := (Nat → Nat) × Nat) (fun u => pm_N u.1 (pn_up mn b u.2) b (fa * v) ∧ pm_K b wk mn u.1 (pn_up mn b u.2)) (fun u => [(oM, .inr (5, [.int (nI cd), .ref qW, .ref qM, .ref qK, .ref qJ, .ref qG, .ref qH, .ref qP, .int (nI pl)])), (qW, .inl (cI, 22400, .inl (fun z9 => nI (u.1 z9)))), (qM, .inl (cI, 7, .inl (fun z9 => nI ((pn_up mn b u.2) z9))))]) := by
  refine pn_start (by decide) (Nat.le_of_ble_eq_true rfl) ?_
  intro p e s m below meth c A Q ls hQ hAe Fx hr hlocks hN hK hP hD hS hA hl
  have hx := Fx.1
  have hb := Fx.2.1
  have hl : lv_has ls 7 [(0, .ref oM), (1, .int (nI b)), (2, .int (nI fa))] := hl
  obtain ⟨n1, n2, n3, n4⟩ := id hN1
  refine lv_lconst (v := pn_L 0) hx hb d_M_small_0 (by decide) ?_
  refine lv_lstore_n (lv' := [(3, .long (pn_L 0)), (0, .ref oM), (1, .int (nI b)), (2, .int (nI fa))]) hx hb d_M_small_1 rfl hl (by decide) rfl (fun ls hl => ?_)
  refine lv_aload_n hx hb d_M_small_2 rfl (lv_at hl 1 rfl) ?_
  refine pw_get Fx hK hP fld_M 0 rfl 2 (by decide) kw_632 (v := .ref qM) rfl d_M_small_3 ?_
  refine lv_iload_n hx hb d_M_small_6 rfl (lv_at hl 2 rfl) ?_
  refine pw_iald Fx hK hP 2 0 (f := fun z9 => nI (mn z9)) rfl rfl (k := b) (by omega) (by decide) d_M_small_7 ?_
  refine pn_topi (nI (mn b)) rfl ?_
  refine lv_istore (lv' := [(5, .int (nI (mn b))), (3, .long (pn_L 0)), (0, .ref oM), (1, .int (nI b)), (2, .int (nI fa))]) hx hb d_M_small_8 hl (by decide) rfl (fun ls hl => ?_)
  refine lv_iconst (v := nI 0) hx hb d_M_small_10 (by decide) ?_
  refine lv_istore (lv' := [(6, .int (nI 0)), (5, .int (nI (mn b))), (3, .long (pn_L 0)), (0, .ref oM), (1, .int (nI b)), (2, .int (nI fa))]) hx hb d_M_small_11 hl (by decide) rfl (fun ls hl => ?_)
  have loop13 : ∀ (N : Nat) (i : Nat) (cr : Nat) (w1 : Nat → Nat), mn b - i < N → (i ≤ mn b) → (cr ≤ fa) → (pm_fr b wk w1) → (pm_fig (pm_at w1 b) i) → (∀ j, i ≤ j → pm_at w1 b j = pm_at wk b j) → (pm_V (pm_at w1 b) i + cr * 10000 ^ i = fa * pm_V (pm_at wk b) i) → ∀ (H : Heap) (locs : List Loc) (ls : Array Slot), lv_has ls 7 [(6, .int (nI i)), (3, .long (pn_L ((cr : Nat) : Int))), (5, .int (nI (mn b))), (0, .ref oM), (1, .int (nI b)), (2, .int (nI fa))] → va_P D pn_cl [(oM, .inr (5, [.int (nI cd), .ref qW, .ref qM, .ref qK, .ref qJ, .ref qG, .ref qH, .ref qP, .int (nI pl)])), (qW, .inl (cI, 22400, .inl (fun z9 => nI (w1 z9)))), (qM, .inl (cI, 7, .inl (fun z9 => nI (mn z9))))] H → va_D A [(oM, .inr (5, [.int (nI cd), .ref qW, .ref qM, .ref qK, .ref qJ, .ref qG, .ref qH, .ref qP, .int (nI pl)])), (qW, .inl (cI, 22400, .inl (fun z9 => nI (w1 z9)))), (qM, .inl (cI, 7, .inl (fun z9 => nI (mn z9))))] → va_S A s.heap H locs → W p l e ({ frames := 1, cells := 0, slots := 0, locals := 40 } : Room) s m ([.ref oM, .int (nI b), .int (nI fa)] : List Value).toArray below meth c H locs 0 0 Q (F0 m 13 ls []) := by
    intro N
    induction N with
    | zero => intro i cr w1 hM; exact absurd hM (Nat.not_lt_zero _)
    | succ N ih13 =>
      intro i cr w1 hM13 hi hcr hF hfg hun hV H locs ls hl hP hD hS
      refine lv_iload hx hb d_M_small_13 (lv_at hl 0 rfl) ?_
      refine lv_iload hx hb d_M_small_15 (lv_at hl 2 rfl) ?_
      refine pw_icmp_ge (a := i) (b := mn b) (tgt := 71) hx hb d_M_small_17 (by decide) (by omega) (by omega) (fun h_17 => ?_) (fun h_17 => ?_)
      · skip
        obtain rfl : i = mn b := by omega
        have loop71 : ∀ (N : Nat) (n : Nat) (cr : Nat) (w2 : Nat → Nat), cr < N → (n ≤ 3200) → (cr < 2 ^ 31) → (pm_fr b wk w2) → (pm_fig (pm_at w2 b) n) → (pm_V (pm_at w2 b) n + cr * 10000 ^ n = fa * v) → ∀ (H : Heap) (locs : List Loc) (ls : Array Slot), lv_has ls 7 [(5, .int (nI n)), (3, .long (pn_L ((cr : Nat) : Int))), (0, .ref oM), (1, .int (nI b)), (2, .int (nI fa))] → va_P D pn_cl [(oM, .inr (5, [.int (nI cd), .ref qW, .ref qM, .ref qK, .ref qJ, .ref qG, .ref qH, .ref qP, .int (nI pl)])), (qW, .inl (cI, 22400, .inl (fun z9 => nI (w2 z9)))), (qM, .inl (cI, 7, .inl (fun z9 => nI (mn z9))))] H → va_D A [(oM, .inr (5, [.int (nI cd), .ref qW, .ref qM, .ref qK, .ref qJ, .ref qG, .ref qH, .ref qP, .int (nI pl)])), (qW, .inl (cI, 22400, .inl (fun z9 => nI (w2 z9)))), (qM, .inl (cI, 7, .inl (fun z9 => nI (mn z9))))] → va_S A s.heap H locs → W p l e ({ frames := 1, cells := 0, slots := 0, locals := 40 } : Room) s m ([.ref oM, .int (nI b), .int (nI fa)] : List Value).toArray below meth c H locs 0 0 Q (F0 m 71 ls []) := by
          intro N
          induction N with
          | zero => intro n cr w2 hM; exact absurd hM (Nat.not_lt_zero _)
          | succ N ih71 =>
            intro n cr w2 hM71 hn hcr hF hfg hV H locs ls hl hP hD hS
            refine lv_lload_n hx hb d_M_small_71 rfl (lv_at hl 1 rfl) ?_
            refine lv_lconst (v := pn_L 0) hx hb d_M_small_72 (by decide) ?_
            refine W.lcmp hx hb d_M_small_73 ?_
            refine pw_ifl_le (a := ((cr : Nat) : Int)) (b := 0) (tgt := 108) hx hb d_M_small_74 (by decide) (by omega) (by omega) (by omega) (by omega) (fun h_74 => ?_) (fun h_74 => ?_)
            · skip
              have hc0 : cr = 0 := by omega
              subst hc0
              refine lv_aload_n hx hb d_M_small_108 rfl (lv_at hl 2 rfl) ?_
              refine lv_iload_n hx hb d_M_small_109 rfl (lv_at hl 3 rfl) ?_
              refine lv_iload hx hb d_M_small_110 (lv_at hl 0 rfl) ?_
              refine pn_bv (wr := []) [0, 1, 2] [] hP hD hS hA (pn_rV [.int (nI b), .int (nI n)] [] Fx hK hN hP hD [0, 1, 2] rfl rfl (c_M_trim l D cI cZ cB cJ _ oM qW qM qK qJ qG qH qP cd pl w2 mn b n hb7 hn hfg) kw_695 cal_M_trim inst_M_trim sel_M_trim ⟨by decide, by decide⟩ ⟨rfl, rfl⟩ 0 rfl rfl rfl rfl hl.1 (Nat.le_of_ble_eq_true rfl) d_M_small_112 ⟨Nat.zero_le _, Nat.zero_le _⟩) rfl rfl rfl (by decide) (fun u_112 H locs hw hP hD hS => ?_)
              obtain ⟨t1, t2, t3⟩ := hw
              have hP : va_P D pn_cl [(oM, .inr (5, [.int (nI cd), .ref qW, .ref qM, .ref qK, .ref qJ, .ref qG, .ref qH, .ref qP, .int (nI pl)])), (qW, .inl (cI, 22400, .inl (fun z9 => nI (w2 z9)))), (qM, .inl (cI, 7, .inl (fun z9 => nI ((pn_up mn b u_112) z9))))] H := hP
              have hD : va_D A [(oM, .inr (5, [.int (nI cd), .ref qW, .ref qM, .ref qK, .ref qJ, .ref qG, .ref qH, .ref qP, .int (nI pl)])), (qW, .inl (cI, 22400, .inl (fun z9 => nI (w2 z9)))), (qM, .inl (cI, 7, .inl (fun z9 => nI ((pn_up mn b u_112) z9))))] := hD
              exact pn_retv ((w2, u_112)) Fx hr hlocks hQ hAe hP hD hS (by (try dsimp only); first | done | exact (⟨pm_N_of (n := n) hn hfg t1 t2 t3 (by omega), pm_K_of hF⟩)) d_M_small_115
            · skip
              have hnr := pm_room (P := 1) hV (by omega) hlim
              refine lv_aload_n hx hb d_M_small_77 rfl (lv_at hl 2 rfl) ?_
              refine pw_get Fx hK hP fld_M 0 rfl 1 (by decide) kw_631 (v := .ref qW) rfl d_M_small_78 ?_
              refine lv_sipush (v := nI 3200) hx hb d_M_small_81 (by decide) ?_
              refine lv_iload_n hx hb d_M_small_84 rfl (lv_at hl 3 rfl) ?_
              refine pw_imul hx hb d_M_small_85 ?_
              refine lv_iload hx hb d_M_small_86 (lv_at hl 0 rfl) ?_
              refine pw_iadd hx hb d_M_small_88 ?_
              refine lv_lload_n hx hb d_M_small_89 rfl (lv_at hl 1 rfl) ?_
              refine lv_ldc2 hx hb Fx.2.2.2.1 (Fx.2.2.2.2 _ kw_677) d_M_small_90 ?_
              refine pn_topl (pn_L (10000)) (by decide) ?_
              refine pw_lrem hx hb d_M_small_93 (by omega) (by omega) (by omega) (by omega) ?_
              refine pw_l2i hx hb d_M_small_94 ?_
              refine pn_topi (nI (cr % 10000)) (by rw [← pn_I_nI]; exact congrArg pn_I (by omega)) ?_
              refine pw_iastN Fx hK hP hD hS 1 0 (g := w2) rfl rfl (k := 3200 * b + n) (by omega) (by decide) (w' := [(oM, .inr (5, [.int (nI cd), .ref qW, .ref qM, .ref qK, .ref qJ, .ref qG, .ref qH, .ref qP, .int (nI pl)])), (qW, .inl (cI, 22400, .inl (fun z9 => nI ((pn_up w2 (3200 * b + n) (cr % 10000)) z9)))), (qM, .inl (cI, 7, .inl (fun z9 => nI (mn z9))))]) rfl d_M_small_95 (fun H locs hP hD hS => ?_)
              refine lv_lload_n hx hb d_M_small_96 rfl (lv_at hl 1 rfl) ?_
              refine lv_ldc2 hx hb Fx.2.2.2.1 (Fx.2.2.2.2 _ kw_677) d_M_small_97 ?_
              refine pn_topl (pn_L (10000)) (by decide) ?_
              refine pw_ldiv hx hb d_M_small_100 (by omega) (by omega) (by omega) (by omega) ?_
              refine pn_topl (pn_L ((cr / 10000 : Nat) : Int)) (congrArg pn_L (by omega)) ?_
              refine lv_lstore_n (lv' := [(3, .long (pn_L ((cr / 10000 : Nat) : Int))), (5, .int (nI n)), (0, .ref oM), (1, .int (nI b)), (2, .int (nI fa))]) hx hb d_M_small_101 rfl hl (by decide) rfl (fun ls hl => ?_)
              refine lv_iinc (v := nI (n + 1)) (lv' := [(5, .int (nI (n + 1))), (3, .long (pn_L ((cr / 10000 : Nat) : Int))), (0, .ref oM), (1, .int (nI b)), (2, .int (nI fa))]) hx hb d_M_small_102 hl (k := 1) rfl (nI_add _ 1) (by decide) rfl (fun ls hl => ?_)
              refine lv_goto (tgt := 71) hx hb d_M_small_105 (by decide) ?_
              exact ih71 (n + 1) (cr / 10000) _ (by omega) (by omega) (by omega) (pm_fr_up hF (by omega)) (by rw [pm_at_up]; exact pm_fig_upS hfg (by omega)) (by rw [pm_at_up, pm_V_upS, pm_P_s, Nat.add_assoc, pm_digit]; exact hV) _ _ _ hl hP hD hS
        exact loop71 _ (mn b) cr w1 (Nat.lt_succ_self _) n1 (by omega) hF hfg (by rw [hV, n4]) _ _ _ (lv_sub hl [2, 1, 3, 4, 5] rfl) hP hD hS
      · skip
        have hxe : w1 (3200 * b + i) = pm_at wk b i := hun i (Nat.le_refl i)
        have f1 := n2 i h_17
        rw [← hxe] at f1
        have hbd := pm_sm_b hcr f1
        refine lv_lload_n hx hb d_M_small_20 rfl (lv_at hl 1 rfl) ?_
        refine lv_aload_n hx hb d_M_small_21 rfl (lv_at hl 3 rfl) ?_
        refine pw_get Fx hK hP fld_M 0 rfl 1 (by decide) kw_631 (v := .ref qW) rfl d_M_small_22 ?_
        refine lv_sipush (v := nI 3200) hx hb d_M_small_25 (by decide) ?_
        refine lv_iload_n hx hb d_M_small_28 rfl (lv_at hl 4 rfl) ?_
        refine pw_imul hx hb d_M_small_29 ?_
        refine lv_iload hx hb d_M_small_30 (lv_at hl 0 rfl) ?_
        refine pw_iadd hx hb d_M_small_32 ?_
        refine pw_iald Fx hK hP 1 0 (f := fun z9 => nI (w1 z9)) rfl rfl (k := 3200 * b + i) (by omega) (by decide) d_M_small_33 ?_
        refine pn_topi (nI (w1 (3200 * b + i))) rfl ?_
        refine pw_i2lN hx hb d_M_small_34 (by omega) ?_
        refine lv_iload_n hx hb d_M_small_35 rfl (lv_at hl 5 rfl) ?_
        refine pw_i2lN hx hb d_M_small_36 (by omega) ?_
        refine pw_lmul hx hb d_M_small_37 ?_
        refine pn_topl (pn_L ((w1 (3200 * b + i) * fa : Nat) : Int)) (by rw [Int.natCast_mul]) ?_
        refine pw_ladd hx hb d_M_small_38 ?_
        refine pn_topl (pn_L ((cr + w1 (3200 * b + i) * fa : Nat) : Int)) (congrArg pn_L (by omega)) ?_
        refine lv_lstore_n (lv' := [(3, .long (pn_L ((cr + w1 (3200 * b + i) * fa : Nat) : Int))), (6, .int (nI i)), (5, .int (nI (mn b))), (0, .ref oM), (1, .int (nI b)), (2, .int (nI fa))]) hx hb d_M_small_39 rfl hl (by decide) rfl (fun ls hl => ?_)
        refine lv_aload_n hx hb d_M_small_40 rfl (lv_at hl 3 rfl) ?_
        refine pw_get Fx hK hP fld_M 0 rfl 1 (by decide) kw_631 (v := .ref qW) rfl d_M_small_41 ?_
        refine lv_sipush (v := nI 3200) hx hb d_M_small_44 (by decide) ?_
        refine lv_iload_n hx hb d_M_small_47 rfl (lv_at hl 4 rfl) ?_
        refine pw_imul hx hb d_M_small_48 ?_
        refine lv_iload hx hb d_M_small_49 (lv_at hl 1 rfl) ?_
        refine pw_iadd hx hb d_M_small_51 ?_
        refine lv_lload_n hx hb d_M_small_52 rfl (lv_at hl 0 rfl) ?_
        refine lv_ldc2 hx hb Fx.2.2.2.1 (Fx.2.2.2.2 _ kw_677) d_M_small_53 ?_
        refine pn_topl (pn_L (10000)) (by decide) ?_
        refine pw_lrem hx hb d_M_small_56 (by omega) (by omega) (by omega) (by omega) ?_
        refine pw_l2i hx hb d_M_small_57 ?_
        refine pn_topi (nI ((cr + w1 (3200 * b + i) * fa) % 10000)) (by rw [← pn_I_nI]; exact congrArg pn_I (by omega)) ?_
        refine pw_iastN Fx hK hP hD hS 1 0 (g := w1) rfl rfl (k := 3200 * b + i) (by omega) (by decide) (w' := [(oM, .inr (5, [.int (nI cd), .ref qW, .ref qM, .ref qK, .ref qJ, .ref qG, .ref qH, .ref qP, .int (nI pl)])), (qW, .inl (cI, 22400, .inl (fun z9 => nI ((pn_up w1 (3200 * b + i) ((cr + w1 (3200 * b + i) * fa) % 10000)) z9)))), (qM, .inl (cI, 7, .inl (fun z9 => nI (mn z9))))]) rfl d_M_small_58 (fun H locs hP hD hS => ?_)
        refine lv_lload_n hx hb d_M_small_59 rfl (lv_at hl 0 rfl) ?_
        refine lv_ldc2 hx hb Fx.2.2.2.1 (Fx.2.2.2.2 _ kw_677) d_M_small_60 ?_
        refine pn_topl (pn_L (10000)) (by decide) ?_
        refine pw_ldiv hx hb d_M_small_63 (by omega) (by omega) (by omega) (by omega) ?_
        refine pn_topl (pn_L (((cr + w1 (3200 * b + i) * fa) / 10000 : Nat) : Int)) (congrArg pn_L (by omega)) ?_
        refine lv_lstore_n (lv' := [(3, .long (pn_L (((cr + w1 (3200 * b + i) * fa) / 10000 : Nat) : Int))), (6, .int (nI i)), (5, .int (nI (mn b))), (0, .ref oM), (1, .int (nI b)), (2, .int (nI fa))]) hx hb d_M_small_64 rfl hl (by decide) rfl (fun ls hl => ?_)
        refine lv_iinc (v := nI (i + 1)) (lv' := [(6, .int (nI (i + 1))), (3, .long (pn_L (((cr + w1 (3200 * b + i) * fa) / 10000 : Nat) : Int))), (5, .int (nI (mn b))), (0, .ref oM), (1, .int (nI b)), (2, .int (nI fa))]) hx hb d_M_small_65 hl (k := 1) rfl (nI_add _ 1) (by decide) rfl (fun ls hl => ?_)
        refine lv_goto (tgt := 13) hx hb d_M_small_68 (by decide) ?_
        exact ih13 (i + 1) ((cr + w1 (3200 * b + i) * fa) / 10000) _ (by omega) (by omega) hbd.1 (pm_fr_up hF (by omega)) (by rw [pm_at_up]; exact pm_fig_upS hfg (by omega)) (fun j hj => by rw [pm_at_up, pn_up_n (by omega)]; exact hun j (by omega)) (by rw [pm_at_up, pm_V_upS, pm_P_s, pm_V_s, ← hxe]; exact pm_sm hV) _ _ _ hl hP hD hS
  exact loop13 _ 0 0 wk (Nat.lt_succ_self _) (Nat.zero_le _) (by omega) pm_fr_refl (fun i hi => by omega) (fun _ _ => rfl) (by simp [pm_V_0]) _ _ _ (lv_sub hl [0, 2, 1, 3, 4, 5] rfl) hP hD hS

set_option maxHeartbeats 4000000 in
set_option maxRecDepth 100000 in
theorem c_M_load (l : Launch) (D : va_G) (cI cZ cB cJ : ClassId) (sz : Nat) (oM qW qM qK qJ qG qH qP cd pl : Nat) (wk mn : Nat → Nat) (kp km : Nat → Nat) (b r v : Nat) (hb7 : b < 7) (hr24 : r < 24) (hR : pm_R kp km r v) : pn_Cv l D (pn_ty cI cZ cB cJ) y_M_load w_M_load ({ frames := 0, cells := 0, slots := 0, locals := 0 } : Room) [.ref oM, .int (nI b), .int (nI r)] [(oM, .inr (5, [.int (nI cd), .ref qW, .ref qM, .ref qK, .ref qJ, .ref qG, .ref qH, .ref qP, .int (nI pl)])), (qW, .inl (cI, 22400, .inl (fun z9 => nI (wk z9)))), (qM, .inl (cI, 7, .inl (fun z9 => nI (mn z9)))), (qK, .inl (cI, 36480, .inl (fun z9 => nI (kp z9)))), (qJ, .inl (cI, 24, .inl (fun z9 => nI (km z9))))] sz (S := (Nat → Nat)) (fun u => pm_N u (pn_up mn b (km r)) b v ∧ pm_K b wk mn u (pn_up mn b (km r))) (fun u => [(oM, .inr (5, [.int (nI cd), .ref qW, .ref qM, .ref qK, .ref qJ, .ref qG, .ref qH, .ref qP, .int (nI pl)])), (qW, .inl (cI, 22400, .inl (fun z9 => nI (u z9)))), (qM, .inl (cI, 7, .inl (fun z9 => nI ((pn_up mn b (km r)) z9)))), (qK, .inl (cI, 36480, .inl (fun z9 => nI (kp z9)))), (qJ, .inl (cI, 24, .inl (fun z9 => nI (km z9))))]) := by
  refine pn_start (by decide) (Nat.le_of_ble_eq_true rfl) ?_
  intro p e s m below meth c A Q ls hQ hAe Fx hr hlocks hN hK hP hD hS hA hl
  have hx := Fx.1
  have hb := Fx.2.1
  have hl : lv_has ls 4 [(0, .ref oM), (1, .int (nI b)), (2, .int (nI r))] := hl
  obtain ⟨n1, n2, n3, n4⟩ := id hR
  refine lv_iconst (v := nI 0) hx hb d_M_load_0 (by decide) ?_
  refine lv_istore_n (lv' := [(3, .int (nI 0)), (0, .ref oM), (1, .int (nI b)), (2, .int (nI r))]) hx hb d_M_load_1 rfl hl (by decide) rfl (fun ls hl => ?_)
  have loop2 : ∀ (N : Nat) (k : Nat) (w1 : Nat → Nat), km r - k < N → (k ≤ km r) → (pm_fr b wk w1) → (∀ i, i < k → pm_at w1 b i = kp (1520 * r + i)) → ∀ (H : Heap) (locs : List Loc) (ls : Array Slot), lv_has ls 4 [(3, .int (nI k)), (0, .ref oM), (1, .int (nI b)), (2, .int (nI r))] → va_P D pn_cl [(oM, .inr (5, [.int (nI cd), .ref qW, .ref qM, .ref qK, .ref qJ, .ref qG, .ref qH, .ref qP, .int (nI pl)])), (qW, .inl (cI, 22400, .inl (fun z9 => nI (w1 z9)))), (qM, .inl (cI, 7, .inl (fun z9 => nI (mn z9)))), (qK, .inl (cI, 36480, .inl (fun z9 => nI (kp z9)))), (qJ, .inl (cI, 24, .inl (fun z9 => nI (km z9))))] H → va_D A [(oM, .inr (5, [.int (nI cd), .ref qW, .ref qM, .ref qK, .ref qJ, .ref qG, .ref qH, .ref qP, .int (nI pl)])), (qW, .inl (cI, 22400, .inl (fun z9 => nI (w1 z9)))), (qM, .inl (cI, 7, .inl (fun z9 => nI (mn z9)))), (qK, .inl (cI, 36480, .inl (fun z9 => nI (kp z9)))), (qJ, .inl (cI, 24, .inl (fun z9 => nI (km z9))))] → va_S A s.heap H locs → W p l e ({ frames := 0, cells := 0, slots := 0, locals := 0 } : Room) s m ([.ref oM, .int (nI b), .int (nI r)] : List Value).toArray below meth c H locs 0 0 Q (F0 m 2 ls []) := by
    intro N
    induction N with
    | zero => intro k w1 hM; exact absurd hM (Nat.not_lt_zero _)
    | succ N ih2 =>
      intro k w1 hM2 hk hF hc1 H locs ls hl hP hD hS
      refine lv_iload_n hx hb d_M_load_2 rfl (lv_at hl 0 rfl) ?_
      refine lv_aload_n hx hb d_M_load_3 rfl (lv_at hl 1 rfl) ?_
      refine pw_get Fx hK hP fld_M 0 rfl 4 (by decide) kw_634 (v := .ref qJ) rfl d_M_load_4 ?_
      refine lv_iload_n hx hb d_M_load_7 rfl (lv_at hl 3 rfl) ?_
      refine pw_iald Fx hK hP 4 0 (f := fun z9 => nI (km z9)) rfl rfl (k := r) (by omega) (by decide) d_M_load_8 ?_
      refine pn_topi (nI (km r)) rfl ?_
      refine pw_icmp_ge (a := k) (b := km r) (tgt := 42) hx hb d_M_load_9 (by decide) (by omega) (by omega) (fun h_9 => ?_) (fun h_9 => ?_)
      · skip
        have hkk : k = km r := by omega
        subst hkk
        refine lv_aload_n hx hb d_M_load_42 rfl (lv_at hl 1 rfl) ?_
        refine pw_get Fx hK hP fld_M 0 rfl 2 (by decide) kw_632 (v := .ref qM) rfl d_M_load_43 ?_
        refine lv_iload_n hx hb d_M_load_46 rfl (lv_at hl 2 rfl) ?_
        refine lv_aload_n hx hb d_M_load_47 rfl (lv_at hl 1 rfl) ?_
        refine pw_get Fx hK hP fld_M 0 rfl 4 (by decide) kw_634 (v := .ref qJ) rfl d_M_load_48 ?_
        refine lv_iload_n hx hb d_M_load_51 rfl (lv_at hl 3 rfl) ?_
        refine pw_iald Fx hK hP 4 0 (f := fun z9 => nI (km z9)) rfl rfl (k := r) (by omega) (by decide) d_M_load_52 ?_
        refine pn_topi (nI (km r)) rfl ?_
        refine pw_iastN Fx hK hP hD hS 2 0 (g := mn) rfl rfl (k := b) (by omega) (by decide) (w' := [(oM, .inr (5, [.int (nI cd), .ref qW, .ref qM, .ref qK, .ref qJ, .ref qG, .ref qH, .ref qP, .int (nI pl)])), (qW, .inl (cI, 22400, .inl (fun z9 => nI (w1 z9)))), (qM, .inl (cI, 7, .inl (fun z9 => nI ((pn_up mn b (km r)) z9)))), (qK, .inl (cI, 36480, .inl (fun z9 => nI (kp z9)))), (qJ, .inl (cI, 24, .inl (fun z9 => nI (km z9))))]) rfl d_M_load_53 (fun H locs hP hD hS => ?_)
        exact pn_retv (w1) Fx hr hlocks hQ hAe hP hD hS (by (try dsimp only); first | done | exact (⟨⟨by rw [pn_up_s]; omega, by rw [pn_up_s]; exact fun i hi => by rw [hc1 i hi]; exact n2 i hi, by rw [pn_up_s]; exact fun i hi => by rw [hc1 i (by omega)]; exact n3 i hi, by rw [pn_up_s, pm_V_congr hc1]; exact n4⟩, pm_K_of hF⟩)) d_M_load_54
      · skip
        refine lv_aload_n hx hb d_M_load_12 rfl (lv_at hl 1 rfl) ?_
        refine pw_get Fx hK hP fld_M 0 rfl 1 (by decide) kw_631 (v := .ref qW) rfl d_M_load_13 ?_
        refine lv_sipush (v := nI 3200) hx hb d_M_load_16 (by decide) ?_
        refine lv_iload_n hx hb d_M_load_19 rfl (lv_at hl 2 rfl) ?_
        refine pw_imul hx hb d_M_load_20 ?_
        refine lv_iload_n hx hb d_M_load_21 rfl (lv_at hl 0 rfl) ?_
        refine pw_iadd hx hb d_M_load_22 ?_
        refine lv_aload_n hx hb d_M_load_23 rfl (lv_at hl 1 rfl) ?_
        refine pw_get Fx hK hP fld_M 0 rfl 3 (by decide) kw_633 (v := .ref qK) rfl d_M_load_24 ?_
        refine lv_sipush (v := nI 1520) hx hb d_M_load_27 (by decide) ?_
        refine lv_iload_n hx hb d_M_load_30 rfl (lv_at hl 3 rfl) ?_
        refine pw_imul hx hb d_M_load_31 ?_
        refine lv_iload_n hx hb d_M_load_32 rfl (lv_at hl 0 rfl) ?_
        refine pw_iadd hx hb d_M_load_33 ?_
        refine pw_iald Fx hK hP 3 0 (f := fun z9 => nI (kp z9)) rfl rfl (k := 1520 * r + k) (by omega) (by decide) d_M_load_34 ?_
        refine pn_topi (nI (kp (1520 * r + k))) rfl ?_
        refine pw_iastN Fx hK hP hD hS 1 0 (g := w1) rfl rfl (k := 3200 * b + k) (by omega) (by decide) (w' := [(oM, .inr (5, [.int (nI cd), .ref qW, .ref qM, .ref qK, .ref qJ, .ref qG, .ref qH, .ref qP, .int (nI pl)])), (qW, .inl (cI, 22400, .inl (fun z9 => nI ((pn_up w1 (3200 * b + k) (kp (1520 * r + k))) z9)))), (qM, .inl (cI, 7, .inl (fun z9 => nI (mn z9)))), (qK, .inl (cI, 36480, .inl (fun z9 => nI (kp z9)))), (qJ, .inl (cI, 24, .inl (fun z9 => nI (km z9))))]) rfl d_M_load_35 (fun H locs hP hD hS => ?_)
        refine lv_iinc (v := nI (k + 1)) (lv' := [(3, .int (nI (k + 1))), (0, .ref oM), (1, .int (nI b)), (2, .int (nI r))]) hx hb d_M_load_36 hl (k := 0) rfl (nI_add _ 1) (by decide) rfl (fun ls hl => ?_)
        refine lv_goto (tgt := 2) hx hb d_M_load_39 (by decide) ?_
        exact ih2 (k + 1) _ (by omega) (by omega) (pm_fr_up hF (by omega)) (fun i hi => by rw [pm_at_up]; rcases (show i = k ∨ i < k by omega) with z | z; (· rw [z, pn_up_s]); (· rw [pn_up_n (by omega)]; exact hc1 i z)) _ _ _ hl hP hD hS
  exact loop2 _ 0 wk (Nat.lt_succ_self _) (Nat.zero_le _) pm_fr_refl (fun i hi => by omega) _ _ _ hl hP hD hS
