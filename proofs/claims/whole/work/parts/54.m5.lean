theorem pm_ps {f : Nat → Nat} {k n t cr d X : Nat} (hk : k < n) (hV : pm_V f n + cr * 10000 ^ k = X) (ht : t = f k + d + cr) : pm_V (pn_up f k (t % 10000)) n + t / 10000 * 10000 ^ (k + 1) = X + d * 10000 ^ k := by
  have e := pm_V_in (f := f) (x := t % 10000) hk
  have g := pm_digit t (10000 ^ k)
  have h : t * 10000 ^ k = f k * 10000 ^ k + d * 10000 ^ k + cr * 10000 ^ k := by rw [ht, Nat.add_mul, Nat.add_mul]
  rw [pm_P_s]; omega
theorem pm_pd {f g : Nat → Nat} {i j : Nat} : f i * pm_V g (j + 1) * 10000 ^ i = f i * pm_V g j * 10000 ^ i + f i * g j * 10000 ^ (i + j) := by
  rw [pm_V_s, Nat.mul_add, Nat.add_mul, Nat.pow_add]
  congr 1
  rw [← Nat.mul_assoc, Nat.mul_assoc (f i * g j), Nat.mul_comm (10000 ^ j)]
theorem pm_pt {f : Nat → Nat} {i w : Nat} : pm_V f (i + 1) * w = pm_V f i * w + f i * w * 10000 ^ i := by
  rw [pm_V_s, Nat.add_mul, Nat.mul_assoc (f i), Nat.mul_comm (10000 ^ i), ← Nat.mul_assoc]
theorem pm_fy {x y : Nat} (hx : x < 10000) (hy : y < 10000) : x * y ≤ 99980001 := Nat.le_trans (Nat.mul_le_mul (show x ≤ 9999 by omega) (show y ≤ 9999 by omega)) (by decide)
theorem pm_pl {f : Nat → Nat} {i m n w : Nat} (hf : pm_fig f (i + 1)) (hw : w < 10000 ^ m) (h : i + 1 + m ≤ n) : pm_V f (i + 1) * w < 10000 ^ n := by
  have a := pm_V_lt hf
  have b : pm_V f (i + 1) * w < 10000 ^ (i + 1) * 10000 ^ m := by
    rcases Nat.eq_zero_or_pos w with z | z
    · subst z; rw [Nat.mul_zero]; exact Nat.mul_pos (pm_P _) (pm_P _)
    · exact Nat.lt_of_lt_of_le (Nat.mul_lt_mul_of_pos_right a z) (Nat.mul_le_mul_left _ (by omega))
  rw [← Nat.pow_add] at b
  exact Nat.lt_of_lt_of_le b (pm_mono h)

set_option maxHeartbeats 4000000 in
set_option maxRecDepth 100000 in
theorem c_M_product (l : Launch) (D : va_G) (cI cZ cB cJ : ClassId) (sz : Nat) (oM qW qM qK qJ qG qH qP cd pl : Nat) (wk mn : Nat → Nat) (t9 b c9 v v2 : Nat) (ht7 : t9 < 7) (hb7 : b < 7) (hc7 : c9 < 7) (htb : t9 ≠ b) (htc : t9 ≠ c9) (hN1 : pm_N wk mn b v) (hN2 : pm_N wk mn c9 v2) (hmm : mn b + mn c9 ≤ 3200) : pn_Cv l D (pn_ty cI cZ cB cJ) y_M_product w_M_product ({ frames := 1, cells := 0, slots := 0, locals := 40 } : Room) [.ref oM, .int (nI t9), .int (nI b), .int (nI c9)] [(oM, .inr (5, [.int (nI cd), .ref qW, .ref qM, .ref qK, .ref qJ, .ref qG, .ref qH, .ref qP, .int (nI pl)])), (qW, .inl (cI, 22400, .inl (fun z9 => nI (wk z9)))), (qM, .inl (cI, 7, .inl (fun z9 => nI (mn z9))))] sz (S := (Nat → Nat) × Nat) (fun u => pm_N u.1 (pn_up mn t9 u.2) t9 (v * v2) ∧ pm_K t9 wk mn u.1 (pn_up mn t9 u.2)) (fun u => [(oM, .inr (5, [.int (nI cd), .ref qW, .ref qM, .ref qK, .ref qJ, .ref qG, .ref qH, .ref qP, .int (nI pl)])), (qW, .inl (cI, 22400, .inl (fun z9 => nI (u.1 z9)))), (qM, .inl (cI, 7, .inl (fun z9 => nI ((pn_up mn t9 u.2) z9))))]) := by
  refine pn_start (by decide) (Nat.le_of_ble_eq_true rfl) ?_
  intro p e s m below meth c A Q ls hQ hAe Fx hr hlocks hN hK hP hD hS hA hl
  have hx := Fx.1
  have hb := Fx.2.1
  have hl : lv_has ls 10 [(0, .ref oM), (1, .int (nI t9)), (2, .int (nI b)), (3, .int (nI c9))] := hl
  obtain ⟨n1, n2, n3, n4⟩ := id hN1
  obtain ⟨m1, m2, m3, m4⟩ := id hN2
  have hw2 := pm_N_lt hN2
  refine lv_aload_n hx hb d_M_product_0 rfl (lv_at hl 0 rfl) ?_
  refine pw_get Fx hK hP fld_M 0 rfl 2 (by decide) kw_632 (v := .ref qM) rfl d_M_product_1 ?_
  refine lv_iload_n hx hb d_M_product_4 rfl (lv_at hl 2 rfl) ?_
  refine pw_iald Fx hK hP 2 0 (f := fun z9 => nI (mn z9)) rfl rfl (k := b) (by omega) (by decide) d_M_product_5 ?_
  refine pn_topi (nI (mn b)) rfl ?_
  refine lv_aload_n hx hb d_M_product_6 rfl (lv_at hl 0 rfl) ?_
  refine pw_get Fx hK hP fld_M 0 rfl 2 (by decide) kw_632 (v := .ref qM) rfl d_M_product_7 ?_
  refine lv_iload_n hx hb d_M_product_10 rfl (lv_at hl 3 rfl) ?_
  refine pw_iald Fx hK hP 2 0 (f := fun z9 => nI (mn z9)) rfl rfl (k := c9) (by omega) (by decide) d_M_product_11 ?_
  refine pn_topi (nI (mn c9)) rfl ?_
  refine pw_iadd hx hb d_M_product_12 ?_
  refine lv_istore (lv' := [(4, .int (nI (mn b + (mn c9)))), (0, .ref oM), (1, .int (nI t9)), (2, .int (nI b)), (3, .int (nI c9))]) hx hb d_M_product_13 hl (by decide) rfl (fun ls hl => ?_)
  refine lv_iconst (v := nI 0) hx hb d_M_product_15 (by decide) ?_
  refine lv_istore (lv' := [(5, .int (nI 0)), (4, .int (nI (mn b + (mn c9)))), (0, .ref oM), (1, .int (nI t9)), (2, .int (nI b)), (3, .int (nI c9))]) hx hb d_M_product_16 hl (by decide) rfl (fun ls hl => ?_)
  have loop18 : ∀ (N : Nat) (k : Nat) (w1 : Nat → Nat), mn b + mn c9 - k < N → (k ≤ mn b + mn c9) → (pm_fr t9 wk w1) → (∀ j, j < k → pm_at w1 t9 j = 0) → ∀ (H : Heap) (locs : List Loc) (ls : Array Slot), lv_has ls 10 [(5, .int (nI k)), (4, .int (nI (mn b + mn c9))), (0, .ref oM), (1, .int (nI t9)), (2, .int (nI b)), (3, .int (nI c9))] → va_P D pn_cl [(oM, .inr (5, [.int (nI cd), .ref qW, .ref qM, .ref qK, .ref qJ, .ref qG, .ref qH, .ref qP, .int (nI pl)])), (qW, .inl (cI, 22400, .inl (fun z9 => nI (w1 z9)))), (qM, .inl (cI, 7, .inl (fun z9 => nI (mn z9))))] H → va_D A [(oM, .inr (5, [.int (nI cd), .ref qW, .ref qM, .ref qK, .ref qJ, .ref qG, .ref qH, .ref qP, .int (nI pl)])), (qW, .inl (cI, 22400, .inl (fun z9 => nI (w1 z9)))), (qM, .inl (cI, 7, .inl (fun z9 => nI (mn z9))))] → va_S A s.heap H locs → W p l e ({ frames := 1, cells := 0, slots := 0, locals := 40 } : Room) s m ([.ref oM, .int (nI t9), .int (nI b), .int (nI c9)] : List Value).toArray below meth c H locs 0 0 Q (F0 m 18 ls []) := by
    intro N
    induction N with
    | zero => intro k w1 hM; exact absurd hM (Nat.not_lt_zero _)
    | succ N ih18 =>
      intro k w1 hM18 hk hF hz0 H locs ls hl hP hD hS
      refine lv_iload hx hb d_M_product_18 (lv_at hl 0 rfl) ?_
      refine lv_iload hx hb d_M_product_20 (lv_at hl 1 rfl) ?_
      refine pw_icmp_ge (a := k) (b := mn b + mn c9) (tgt := 45) hx hb d_M_product_22 (by decide) (by omega) (by omega) (fun h_22 => ?_) (fun h_22 => ?_)
      · skip
        obtain rfl : k = mn b + mn c9 := by omega
        refine lv_iconst (v := nI 0) hx hb d_M_product_45 (by decide) ?_
        refine lv_istore (lv' := [(5, .int (nI 0)), (4, .int (nI (mn b + mn c9))), (0, .ref oM), (1, .int (nI t9)), (2, .int (nI b)), (3, .int (nI c9))]) hx hb d_M_product_46 hl (by decide) rfl (fun ls hl => ?_)
        have loop48 : ∀ (N : Nat) (i : Nat) (w1 : Nat → Nat), mn b - i < N → (i ≤ mn b) → (pm_fr t9 wk w1) → (pm_fig (pm_at w1 t9) (mn b + mn c9)) → (pm_V (pm_at w1 t9) (mn b + mn c9) = pm_V (pm_at wk b) i * v2) → ∀ (H : Heap) (locs : List Loc) (ls : Array Slot), lv_has ls 10 [(5, .int (nI i)), (4, .int (nI (mn b + mn c9))), (0, .ref oM), (1, .int (nI t9)), (2, .int (nI b)), (3, .int (nI c9))] → va_P D pn_cl [(oM, .inr (5, [.int (nI cd), .ref qW, .ref qM, .ref qK, .ref qJ, .ref qG, .ref qH, .ref qP, .int (nI pl)])), (qW, .inl (cI, 22400, .inl (fun z9 => nI (w1 z9)))), (qM, .inl (cI, 7, .inl (fun z9 => nI (mn z9))))] H → va_D A [(oM, .inr (5, [.int (nI cd), .ref qW, .ref qM, .ref qK, .ref qJ, .ref qG, .ref qH, .ref qP, .int (nI pl)])), (qW, .inl (cI, 22400, .inl (fun z9 => nI (w1 z9)))), (qM, .inl (cI, 7, .inl (fun z9 => nI (mn z9))))] → va_S A s.heap H locs → W p l e ({ frames := 1, cells := 0, slots := 0, locals := 40 } : Room) s m ([.ref oM, .int (nI t9), .int (nI b), .int (nI c9)] : List Value).toArray below meth c H locs 0 0 Q (F0 m 48 ls []) := by
          intro N
          induction N with
          | zero => intro i w1 hM; exact absurd hM (Nat.not_lt_zero _)
          | succ N ih48 =>
            intro i w1 hM48 hi hF hfg hV H locs ls hl hP hD hS
            refine lv_iload hx hb d_M_product_48 (lv_at hl 0 rfl) ?_
            refine lv_aload_n hx hb d_M_product_50 rfl (lv_at hl 2 rfl) ?_
            refine pw_get Fx hK hP fld_M 0 rfl 2 (by decide) kw_632 (v := .ref qM) rfl d_M_product_51 ?_
            refine lv_iload_n hx hb d_M_product_54 rfl (lv_at hl 4 rfl) ?_
            refine pw_iald Fx hK hP 2 0 (f := fun z9 => nI (mn z9)) rfl rfl (k := b) (by omega) (by decide) d_M_product_55 ?_
            refine pn_topi (nI (mn b)) rfl ?_
            refine pw_icmp_ge (a := i) (b := mn b) (tgt := 238) hx hb d_M_product_56 (by decide) (by omega) (by omega) (fun h_56 => ?_) (fun h_56 => ?_)
            · skip
              obtain rfl : i = mn b := by omega
              refine lv_aload_n hx hb d_M_product_238 rfl (lv_at hl 2 rfl) ?_
              refine lv_iload_n hx hb d_M_product_239 rfl (lv_at hl 3 rfl) ?_
              refine lv_iload hx hb d_M_product_240 (lv_at hl 1 rfl) ?_
              refine pn_bv (wr := []) [0, 1, 2] [] hP hD hS hA (pn_rV [.int (nI t9), .int (nI (mn b + mn c9))] [] Fx hK hN hP hD [0, 1, 2] rfl rfl (c_M_trim l D cI cZ cB cJ _ oM qW qM qK qJ qG qH qP cd pl w1 mn t9 (mn b + mn c9) ht7 hmm hfg) kw_695 cal_M_trim inst_M_trim sel_M_trim ⟨by decide, by decide⟩ ⟨rfl, rfl⟩ 0 rfl rfl rfl rfl hl.1 (Nat.le_of_ble_eq_true rfl) d_M_product_242 ⟨Nat.zero_le _, Nat.zero_le _⟩) rfl rfl rfl (by decide) (fun u_242 H locs hw hP hD hS => ?_)
              obtain ⟨t1, t2, t3⟩ := hw
              have hP : va_P D pn_cl [(oM, .inr (5, [.int (nI cd), .ref qW, .ref qM, .ref qK, .ref qJ, .ref qG, .ref qH, .ref qP, .int (nI pl)])), (qW, .inl (cI, 22400, .inl (fun z9 => nI (w1 z9)))), (qM, .inl (cI, 7, .inl (fun z9 => nI ((pn_up mn t9 u_242) z9))))] H := hP
              have hD : va_D A [(oM, .inr (5, [.int (nI cd), .ref qW, .ref qM, .ref qK, .ref qJ, .ref qG, .ref qH, .ref qP, .int (nI pl)])), (qW, .inl (cI, 22400, .inl (fun z9 => nI (w1 z9)))), (qM, .inl (cI, 7, .inl (fun z9 => nI ((pn_up mn t9 u_242) z9))))] := hD
              exact pn_retv ((w1, u_242)) Fx hr hlocks hQ hAe hP hD hS (by (try dsimp only); first | done | exact (⟨pm_N_of (n := mn b + mn c9) hmm hfg t1 t2 t3 (by rw [hV, n4]), pm_K_of hF⟩)) d_M_product_245
            · skip
              have f1 := n2 i h_56
              refine lv_aload_n hx hb d_M_product_59 rfl (lv_at hl 2 rfl) ?_
              refine pw_get Fx hK hP fld_M 0 rfl 1 (by decide) kw_631 (v := .ref qW) rfl d_M_product_60 ?_
              refine lv_sipush (v := nI 3200) hx hb d_M_product_63 (by decide) ?_
              refine lv_iload_n hx hb d_M_product_66 rfl (lv_at hl 4 rfl) ?_
              refine pw_imul hx hb d_M_product_67 ?_
              refine lv_iload hx hb d_M_product_68 (lv_at hl 0 rfl) ?_
              refine pw_iadd hx hb d_M_product_70 ?_
              refine pw_iald Fx hK hP 1 0 (f := fun z9 => nI (w1 z9)) rfl rfl (k := 3200 * b + i) (by omega) (by decide) d_M_product_71 ?_
              refine pn_topi (nI (w1 (3200 * b + i))) rfl ?_
              refine pn_topi (nI (pm_at wk b i)) (congrArg nI (hF b i (Ne.symm htb) (by omega))) ?_
              refine lv_istore (lv' := [(6, .int (nI (pm_at wk b i))), (5, .int (nI i)), (4, .int (nI (mn b + mn c9))), (0, .ref oM), (1, .int (nI t9)), (2, .int (nI b)), (3, .int (nI c9))]) hx hb d_M_product_72 hl (by decide) rfl (fun ls hl => ?_)
              refine lv_iconst (v := nI 0) hx hb d_M_product_74 (by decide) ?_
              refine lv_istore (lv' := [(7, .int (nI 0)), (6, .int (nI (pm_at wk b i))), (5, .int (nI i)), (4, .int (nI (mn b + mn c9))), (0, .ref oM), (1, .int (nI t9)), (2, .int (nI b)), (3, .int (nI c9))]) hx hb d_M_product_75 hl (by decide) rfl (fun ls hl => ?_)
              refine lv_iconst (v := nI 0) hx hb d_M_product_77 (by decide) ?_
              refine lv_istore (lv' := [(8, .int (nI 0)), (7, .int (nI 0)), (6, .int (nI (pm_at wk b i))), (5, .int (nI i)), (4, .int (nI (mn b + mn c9))), (0, .ref oM), (1, .int (nI t9)), (2, .int (nI b)), (3, .int (nI c9))]) hx hb d_M_product_78 hl (by decide) rfl (fun ls hl => ?_)
              have loop80 : ∀ (N : Nat) (j : Nat) (cr : Nat) (w2 : Nat → Nat), mn c9 - j < N → (j ≤ mn c9) → (cr < 10000) → (pm_fr t9 wk w2) → (pm_fig (pm_at w2 t9) (mn b + mn c9)) → (pm_V (pm_at w2 t9) (mn b + mn c9) + cr * 10000 ^ (i + j) = pm_V (pm_at wk b) i * v2 + pm_at wk b i * pm_V (pm_at wk c9) j * 10000 ^ i) → ∀ (H : Heap) (locs : List Loc) (ls : Array Slot), lv_has ls 10 [(8, .int (nI j)), (7, .int (nI cr)), (6, .int (nI (pm_at wk b i))), (5, .int (nI i)), (4, .int (nI (mn b + mn c9))), (0, .ref oM), (1, .int (nI t9)), (2, .int (nI b)), (3, .int (nI c9))] → va_P D pn_cl [(oM, .inr (5, [.int (nI cd), .ref qW, .ref qM, .ref qK, .ref qJ, .ref qG, .ref qH, .ref qP, .int (nI pl)])), (qW, .inl (cI, 22400, .inl (fun z9 => nI (w2 z9)))), (qM, .inl (cI, 7, .inl (fun z9 => nI (mn z9))))] H → va_D A [(oM, .inr (5, [.int (nI cd), .ref qW, .ref qM, .ref qK, .ref qJ, .ref qG, .ref qH, .ref qP, .int (nI pl)])), (qW, .inl (cI, 22400, .inl (fun z9 => nI (w2 z9)))), (qM, .inl (cI, 7, .inl (fun z9 => nI (mn z9))))] → va_S A s.heap H locs → W p l e ({ frames := 1, cells := 0, slots := 0, locals := 40 } : Room) s m ([.ref oM, .int (nI t9), .int (nI b), .int (nI c9)] : List Value).toArray below meth c H locs 0 0 Q (F0 m 80 ls []) := by
                intro N
                induction N with
                | zero => intro j cr w2 hM; exact absurd hM (Nat.not_lt_zero _)
                | succ N ih80 =>
                  intro j cr w2 hM80 hj hcr hF hfg hVc H locs ls hl hP hD hS
                  refine lv_iload hx hb d_M_product_80 (lv_at hl 0 rfl) ?_
                  refine lv_aload_n hx hb d_M_product_82 rfl (lv_at hl 5 rfl) ?_
                  refine pw_get Fx hK hP fld_M 0 rfl 2 (by decide) kw_632 (v := .ref qM) rfl d_M_product_83 ?_
                  refine lv_iload_n hx hb d_M_product_86 rfl (lv_at hl 8 rfl) ?_
                  refine pw_iald Fx hK hP 2 0 (f := fun z9 => nI (mn z9)) rfl rfl (k := c9) (by omega) (by decide) d_M_product_87 ?_
                  refine pn_topi (nI (mn c9)) rfl ?_
                  refine pw_icmp_ge (a := j) (b := mn c9) (tgt := 165) hx hb d_M_product_88 (by decide) (by omega) (by omega) (fun h_88 => ?_) (fun h_88 => ?_)
                  · skip
                    obtain rfl : j = mn c9 := by omega
                    refine lv_iload hx hb d_M_product_165 (lv_at hl 3 rfl) ?_
                    refine lv_aload_n hx hb d_M_product_167 rfl (lv_at hl 5 rfl) ?_
                    refine pw_get Fx hK hP fld_M 0 rfl 2 (by decide) kw_632 (v := .ref qM) rfl d_M_product_168 ?_
                    refine lv_iload_n hx hb d_M_product_171 rfl (lv_at hl 8 rfl) ?_
                    refine pw_iald Fx hK hP 2 0 (f := fun z9 => nI (mn z9)) rfl rfl (k := c9) (by omega) (by decide) d_M_product_172 ?_
                    refine pn_topi (nI (mn c9)) rfl ?_
                    refine pw_iadd hx hb d_M_product_173 ?_
                    refine lv_istore (lv' := [(8, .int (nI (i + (mn c9)))), (7, .int (nI cr)), (6, .int (nI (pm_at wk b i))), (5, .int (nI i)), (4, .int (nI (mn b + mn c9))), (0, .ref oM), (1, .int (nI t9)), (2, .int (nI b)), (3, .int (nI c9))]) hx hb d_M_product_174 hl (by decide) rfl (fun ls hl => ?_)
                    have loop176 : ∀ (N : Nat) (k : Nat) (cr : Nat) (w3 : Nat → Nat), mn b + mn c9 - k < N → (k ≤ mn b + mn c9) → (cr < 10000) → (pm_fr t9 wk w3) → (pm_fig (pm_at w3 t9) (mn b + mn c9)) → (pm_V (pm_at w3 t9) (mn b + mn c9) + cr * 10000 ^ k = pm_V (pm_at wk b) (i + 1) * v2) → ∀ (H : Heap) (locs : List Loc) (ls : Array Slot), lv_has ls 10 [(8, .int (nI k)), (7, .int (nI cr)), (6, .int (nI (pm_at wk b i))), (5, .int (nI i)), (4, .int (nI (mn b + mn c9))), (0, .ref oM), (1, .int (nI t9)), (2, .int (nI b)), (3, .int (nI c9))] → va_P D pn_cl [(oM, .inr (5, [.int (nI cd), .ref qW, .ref qM, .ref qK, .ref qJ, .ref qG, .ref qH, .ref qP, .int (nI pl)])), (qW, .inl (cI, 22400, .inl (fun z9 => nI (w3 z9)))), (qM, .inl (cI, 7, .inl (fun z9 => nI (mn z9))))] H → va_D A [(oM, .inr (5, [.int (nI cd), .ref qW, .ref qM, .ref qK, .ref qJ, .ref qG, .ref qH, .ref qP, .int (nI pl)])), (qW, .inl (cI, 22400, .inl (fun z9 => nI (w3 z9)))), (qM, .inl (cI, 7, .inl (fun z9 => nI (mn z9))))] → va_S A s.heap H locs → W p l e ({ frames := 1, cells := 0, slots := 0, locals := 40 } : Room) s m ([.ref oM, .int (nI t9), .int (nI b), .int (nI c9)] : List Value).toArray below meth c H locs 0 0 Q (F0 m 176 ls []) := by
                      intro N
                      induction N with
                      | zero => intro k cr w3 hM; exact absurd hM (Nat.not_lt_zero _)
                      | succ N ih176 =>
                        intro k cr w3 hM176 hk hcr hF hfg hVd H locs ls hl hP hD hS
                        refine lv_iload hx hb d_M_product_176 (lv_at hl 1 rfl) ?_
                        refine pw_if_le (a := cr) (tgt := 232) hx hb d_M_product_178 (by decide) (by omega) (fun h_178 => ?_) (fun h_178 => ?_)
                        · skip
                          have hc0 : cr = 0 := by omega
                          refine lv_iinc (v := nI (i + 1)) (lv' := [(5, .int (nI (i + 1))), (8, .int (nI k)), (7, .int (nI cr)), (6, .int (nI (pm_at wk b i))), (4, .int (nI (mn b + mn c9))), (0, .ref oM), (1, .int (nI t9)), (2, .int (nI b)), (3, .int (nI c9))]) hx hb d_M_product_232 hl (k := 3) rfl (nI_add _ 1) (by decide) rfl (fun ls hl => ?_)
                          refine lv_goto (tgt := 48) hx hb d_M_product_235 (by decide) ?_
                          exact ih48 (i + 1) w3 (by omega) (by omega) hF hfg (by rw [hc0, Nat.zero_mul, Nat.add_zero] at hVd; exact hVd) _ _ _ (lv_sub hl [0, 4, 5, 6, 7, 8] rfl) hP hD hS
                        · skip
                          have hkn := pm_room (P := 1) hVd (by omega) (pm_pl (fun q hq => n2 q (by omega)) hw2 (show i + 1 + mn c9 ≤ mn b + mn c9 by omega))
                          have f3 := hfg k hkn
                          rw [pm_at_e] at f3
                          refine lv_aload_n hx hb d_M_product_181 rfl (lv_at hl 5 rfl) ?_
                          refine pw_get Fx hK hP fld_M 0 rfl 1 (by decide) kw_631 (v := .ref qW) rfl d_M_product_182 ?_
                          refine lv_sipush (v := nI 3200) hx hb d_M_product_185 (by decide) ?_
                          refine lv_iload_n hx hb d_M_product_188 rfl (lv_at hl 6 rfl) ?_
                          refine pw_imul hx hb d_M_product_189 ?_
                          refine lv_iload hx hb d_M_product_190 (lv_at hl 0 rfl) ?_
                          refine pw_iadd hx hb d_M_product_192 ?_
                          refine pw_iald Fx hK hP 1 0 (f := fun z9 => nI (w3 z9)) rfl rfl (k := 3200 * t9 + k) (by omega) (by decide) d_M_product_193 ?_
                          refine pn_topi (nI (w3 (3200 * t9 + k))) rfl ?_
                          refine lv_iload hx hb d_M_product_194 (lv_at hl 1 rfl) ?_
                          refine pw_iadd hx hb d_M_product_196 ?_
                          refine lv_istore (lv' := [(9, .int (nI (w3 (3200 * t9 + k) + cr))), (8, .int (nI k)), (7, .int (nI cr)), (6, .int (nI (pm_at wk b i))), (5, .int (nI i)), (4, .int (nI (mn b + mn c9))), (0, .ref oM), (1, .int (nI t9)), (2, .int (nI b)), (3, .int (nI c9))]) hx hb d_M_product_197 hl (by decide) rfl (fun ls hl => ?_)
                          refine lv_aload_n hx hb d_M_product_199 rfl (lv_at hl 6 rfl) ?_
                          refine pw_get Fx hK hP fld_M 0 rfl 1 (by decide) kw_631 (v := .ref qW) rfl d_M_product_200 ?_
                          refine lv_sipush (v := nI 3200) hx hb d_M_product_203 (by decide) ?_
                          refine lv_iload_n hx hb d_M_product_206 rfl (lv_at hl 7 rfl) ?_
                          refine pw_imul hx hb d_M_product_207 ?_
                          refine lv_iload hx hb d_M_product_208 (lv_at hl 1 rfl) ?_
                          refine pw_iadd hx hb d_M_product_210 ?_
                          refine lv_iload hx hb d_M_product_211 (lv_at hl 0 rfl) ?_
                          refine lv_sipush (v := nI 10000) hx hb d_M_product_213 (by decide) ?_
                          refine pw_irem hx hb d_M_product_216 (by omega) (by omega) (by omega) ?_
                          refine pw_iastN Fx hK hP hD hS 1 0 (g := w3) rfl rfl (k := 3200 * t9 + k) (by omega) (by decide) (w' := [(oM, .inr (5, [.int (nI cd), .ref qW, .ref qM, .ref qK, .ref qJ, .ref qG, .ref qH, .ref qP, .int (nI pl)])), (qW, .inl (cI, 22400, .inl (fun z9 => nI ((pn_up w3 (3200 * t9 + k) ((w3 (3200 * t9 + k) + cr) % 10000)) z9)))), (qM, .inl (cI, 7, .inl (fun z9 => nI (mn z9))))]) rfl d_M_product_217 (fun H locs hP hD hS => ?_)
                          refine lv_iload hx hb d_M_product_218 (lv_at hl 0 rfl) ?_
                          refine lv_sipush (v := nI 10000) hx hb d_M_product_220 (by decide) ?_
                          refine pw_idiv hx hb d_M_product_223 (by omega) (by omega) (by omega) ?_
                          refine lv_istore (lv' := [(7, .int (nI ((w3 (3200 * t9 + k) + cr) / 10000))), (9, .int (nI (w3 (3200 * t9 + k) + cr))), (8, .int (nI k)), (6, .int (nI (pm_at wk b i))), (5, .int (nI i)), (4, .int (nI (mn b + mn c9))), (0, .ref oM), (1, .int (nI t9)), (2, .int (nI b)), (3, .int (nI c9))]) hx hb d_M_product_224 hl (by decide) rfl (fun ls hl => ?_)
                          refine lv_iinc (v := nI (k + 1)) (lv' := [(8, .int (nI (k + 1))), (7, .int (nI ((w3 (3200 * t9 + k) + cr) / 10000))), (9, .int (nI (w3 (3200 * t9 + k) + cr))), (6, .int (nI (pm_at wk b i))), (5, .int (nI i)), (4, .int (nI (mn b + mn c9))), (0, .ref oM), (1, .int (nI t9)), (2, .int (nI b)), (3, .int (nI c9))]) hx hb d_M_product_226 hl (k := 2) rfl (nI_add _ 1) (by decide) rfl (fun ls hl => ?_)
                          refine lv_goto (tgt := 176) hx hb d_M_product_229 (by decide) ?_
                          exact ih176 (k + 1) ((w3 (3200 * t9 + k) + cr) / 10000) _ (by omega) (by omega) (by omega) (pm_fr_up hF (by omega)) (by rw [pm_at_up]; exact pm_fig_up hfg (by omega)) (by rw [pm_at_up]; exact (pm_ps (d := 0) (by omega) hVd (by rw [pm_at_e]; omega)).trans (by omega)) _ _ _ (lv_sub hl [0, 1, 3, 4, 5, 6, 7, 8, 9] rfl) hP hD hS
                    exact loop176 _ (i + mn c9) cr w2 (Nat.lt_succ_self _) (by omega) hcr hF hfg (by rw [pm_pt, ← m4]; rw [m4] at hVc ⊢; exact hVc) _ _ _ hl hP hD hS
                  · skip
                    have f2 := m2 j h_88
                    have hfy := pm_fy f1 f2
                    have f3 := hfg (i + j) (by omega)
                    rw [pm_at_e] at f3
                    refine lv_aload_n hx hb d_M_product_91 rfl (lv_at hl 5 rfl) ?_
                    refine pw_get Fx hK hP fld_M 0 rfl 1 (by decide) kw_631 (v := .ref qW) rfl d_M_product_92 ?_
                    refine lv_sipush (v := nI 3200) hx hb d_M_product_95 (by decide) ?_
                    refine lv_iload_n hx hb d_M_product_98 rfl (lv_at hl 6 rfl) ?_
                    refine pw_imul hx hb d_M_product_99 ?_
                    refine lv_iload hx hb d_M_product_100 (lv_at hl 3 rfl) ?_
                    refine pw_iadd hx hb d_M_product_102 ?_
                    refine lv_iload hx hb d_M_product_103 (lv_at hl 0 rfl) ?_
                    refine lv_iadd hx hb d_M_product_105 ?_
                    refine pn_topi (nI (3200 * t9 + (i + j))) (by rw [nI_add, Nat.add_assoc]) ?_
                    refine pw_iald Fx hK hP 1 0 (f := fun z9 => nI (w2 z9)) rfl rfl (k := 3200 * t9 + (i + j)) (by omega) (by decide) d_M_product_106 ?_
                    refine pn_topi (nI (w2 (3200 * t9 + (i + j)))) rfl ?_
                    refine lv_iload hx hb d_M_product_107 (lv_at hl 2 rfl) ?_
                    refine lv_aload_n hx hb d_M_product_109 rfl (lv_at hl 5 rfl) ?_
                    refine pw_get Fx hK hP fld_M 0 rfl 1 (by decide) kw_631 (v := .ref qW) rfl d_M_product_110 ?_
                    refine lv_sipush (v := nI 3200) hx hb d_M_product_113 (by decide) ?_
                    refine lv_iload_n hx hb d_M_product_116 rfl (lv_at hl 8 rfl) ?_
                    refine pw_imul hx hb d_M_product_117 ?_
                    refine lv_iload hx hb d_M_product_118 (lv_at hl 0 rfl) ?_
                    refine pw_iadd hx hb d_M_product_120 ?_
                    refine pw_iald Fx hK hP 1 0 (f := fun z9 => nI (w2 z9)) rfl rfl (k := 3200 * c9 + j) (by omega) (by decide) d_M_product_121 ?_
                    refine pn_topi (nI (w2 (3200 * c9 + j))) rfl ?_
                    refine pn_topi (nI (pm_at wk c9 j)) (congrArg nI (hF c9 j (Ne.symm htc) (by omega))) ?_
                    refine pw_imul hx hb d_M_product_122 ?_
                    refine pw_iadd hx hb d_M_product_123 ?_
                    refine lv_iload hx hb d_M_product_124 (lv_at hl 1 rfl) ?_
                    refine pw_iadd hx hb d_M_product_126 ?_
                    refine lv_istore (lv' := [(9, .int (nI (w2 (3200 * t9 + (i + j)) + ((pm_at wk b i) * (pm_at wk c9 j)) + cr))), (8, .int (nI j)), (7, .int (nI cr)), (6, .int (nI (pm_at wk b i))), (5, .int (nI i)), (4, .int (nI (mn b + mn c9))), (0, .ref oM), (1, .int (nI t9)), (2, .int (nI b)), (3, .int (nI c9))]) hx hb d_M_product_127 hl (by decide) rfl (fun ls hl => ?_)
                    refine lv_aload_n hx hb d_M_product_129 rfl (lv_at hl 6 rfl) ?_
                    refine pw_get Fx hK hP fld_M 0 rfl 1 (by decide) kw_631 (v := .ref qW) rfl d_M_product_130 ?_
                    refine lv_sipush (v := nI 3200) hx hb d_M_product_133 (by decide) ?_
                    refine lv_iload_n hx hb d_M_product_136 rfl (lv_at hl 7 rfl) ?_
                    refine pw_imul hx hb d_M_product_137 ?_
                    refine lv_iload hx hb d_M_product_138 (lv_at hl 4 rfl) ?_
                    refine pw_iadd hx hb d_M_product_140 ?_
                    refine lv_iload hx hb d_M_product_141 (lv_at hl 1 rfl) ?_
                    refine lv_iadd hx hb d_M_product_143 ?_
                    refine pn_topi (nI (3200 * t9 + (i + j))) (by rw [nI_add, Nat.add_assoc]) ?_
                    refine lv_iload hx hb d_M_product_144 (lv_at hl 0 rfl) ?_
                    refine lv_sipush (v := nI 10000) hx hb d_M_product_146 (by decide) ?_
                    refine pw_irem hx hb d_M_product_149 (by omega) (by omega) (by omega) ?_
                    refine pw_iastN Fx hK hP hD hS 1 0 (g := w2) rfl rfl (k := 3200 * t9 + (i + j)) (by omega) (by decide) (w' := [(oM, .inr (5, [.int (nI cd), .ref qW, .ref qM, .ref qK, .ref qJ, .ref qG, .ref qH, .ref qP, .int (nI pl)])), (qW, .inl (cI, 22400, .inl (fun z9 => nI ((pn_up w2 (3200 * t9 + (i + j)) ((w2 (3200 * t9 + (i + j)) + ((pm_at wk b i) * (pm_at wk c9 j)) + cr) % 10000)) z9)))), (qM, .inl (cI, 7, .inl (fun z9 => nI (mn z9))))]) rfl d_M_product_150 (fun H locs hP hD hS => ?_)
                    refine lv_iload hx hb d_M_product_151 (lv_at hl 0 rfl) ?_
                    refine lv_sipush (v := nI 10000) hx hb d_M_product_153 (by decide) ?_
                    refine pw_idiv hx hb d_M_product_156 (by omega) (by omega) (by omega) ?_
                    refine lv_istore (lv' := [(7, .int (nI ((w2 (3200 * t9 + (i + j)) + ((pm_at wk b i) * (pm_at wk c9 j)) + cr) / 10000))), (9, .int (nI (w2 (3200 * t9 + (i + j)) + ((pm_at wk b i) * (pm_at wk c9 j)) + cr))), (8, .int (nI j)), (6, .int (nI (pm_at wk b i))), (5, .int (nI i)), (4, .int (nI (mn b + mn c9))), (0, .ref oM), (1, .int (nI t9)), (2, .int (nI b)), (3, .int (nI c9))]) hx hb d_M_product_157 hl (by decide) rfl (fun ls hl => ?_)
                    refine lv_iinc (v := nI (j + 1)) (lv' := [(8, .int (nI (j + 1))), (7, .int (nI ((w2 (3200 * t9 + (i + j)) + ((pm_at wk b i) * (pm_at wk c9 j)) + cr) / 10000))), (9, .int (nI (w2 (3200 * t9 + (i + j)) + ((pm_at wk b i) * (pm_at wk c9 j)) + cr))), (6, .int (nI (pm_at wk b i))), (5, .int (nI i)), (4, .int (nI (mn b + mn c9))), (0, .ref oM), (1, .int (nI t9)), (2, .int (nI b)), (3, .int (nI c9))]) hx hb d_M_product_159 hl (k := 2) rfl (nI_add _ 1) (by decide) rfl (fun ls hl => ?_)
                    refine lv_goto (tgt := 80) hx hb d_M_product_162 (by decide) ?_
                    exact ih80 (j + 1) ((w2 (3200 * t9 + (i + j)) + pm_at wk b i * pm_at wk c9 j + cr) / 10000) _ (by omega) (by omega) (by omega) (pm_fr_up hF (by omega)) (by rw [pm_at_up]; exact pm_fig_up hfg (by omega)) (by rw [pm_at_up, pm_pd]; exact (pm_ps (k := i + j) (by omega) hVc rfl).trans (by omega)) _ _ _ (lv_sub hl [0, 1, 3, 4, 5, 6, 7, 8, 9] rfl) hP hD hS
              exact loop80 _ 0 0 w1 (Nat.lt_succ_self _) (Nat.zero_le _) (by omega) hF hfg (by rw [hV, pm_V_0]; simp) _ _ _ hl hP hD hS
        exact loop48 _ 0 w1 (Nat.lt_succ_self _) (Nat.zero_le _) hF (fun i hi => by rw [hz0 i hi]; decide) (by rw [pm_V_zero hz0, pm_V_0, Nat.zero_mul]) _ _ _ hl hP hD hS
      · skip
        refine lv_aload_n hx hb d_M_product_25 rfl (lv_at hl 2 rfl) ?_
        refine pw_get Fx hK hP fld_M 0 rfl 1 (by decide) kw_631 (v := .ref qW) rfl d_M_product_26 ?_
        refine lv_sipush (v := nI 3200) hx hb d_M_product_29 (by decide) ?_
        refine lv_iload_n hx hb d_M_product_32 rfl (lv_at hl 3 rfl) ?_
        refine pw_imul hx hb d_M_product_33 ?_
        refine lv_iload hx hb d_M_product_34 (lv_at hl 0 rfl) ?_
        refine pw_iadd hx hb d_M_product_36 ?_
        refine lv_iconst (v := nI 0) hx hb d_M_product_37 (by decide) ?_
        refine pw_iastN Fx hK hP hD hS 1 0 (g := w1) rfl rfl (k := 3200 * t9 + k) (by omega) (by decide) (w' := [(oM, .inr (5, [.int (nI cd), .ref qW, .ref qM, .ref qK, .ref qJ, .ref qG, .ref qH, .ref qP, .int (nI pl)])), (qW, .inl (cI, 22400, .inl (fun z9 => nI ((pn_up w1 (3200 * t9 + k) 0) z9)))), (qM, .inl (cI, 7, .inl (fun z9 => nI (mn z9))))]) rfl d_M_product_38 (fun H locs hP hD hS => ?_)
        refine lv_iinc (v := nI (k + 1)) (lv' := [(5, .int (nI (k + 1))), (4, .int (nI (mn b + mn c9))), (0, .ref oM), (1, .int (nI t9)), (2, .int (nI b)), (3, .int (nI c9))]) hx hb d_M_product_39 hl (k := 0) rfl (nI_add _ 1) (by decide) rfl (fun ls hl => ?_)
        refine lv_goto (tgt := 18) hx hb d_M_product_42 (by decide) ?_
        exact ih18 (k + 1) _ (by omega) (by omega) (pm_fr_up hF (by omega)) (fun j hj => by rw [pm_at_up]; rcases (show j = k ∨ j < k by omega) with y | y; (· rw [y, pn_up_s]); (· rw [pn_up_n (by omega)]; exact hz0 j y)) _ _ _ hl hP hD hS
  exact loop18 _ 0 wk (Nat.lt_succ_self _) (Nat.zero_le _) pm_fr_refl (fun j hj => by omega) _ _ _ hl hP hD hS
