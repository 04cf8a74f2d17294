def pm_w (w : Nat → Nat) (b k : Nat) : Nat → Nat := fun i => pm_at w b (k + i)
theorem pm_w_e (w : Nat → Nat) (b k i : Nat) : pm_w w b k i = w (3200 * b + (k + i)) := rfl
theorem pm_w_up (w : Nat → Nat) (b k i x : Nat) : pm_w (pn_up w (3200 * b + (k + i)) x) b k = pn_up (pm_w w b k) i x := by
  funext j
  unfold pm_w
  rw [pm_at_up]
  by_cases z : j = i
  · subst z; rw [pn_up_s, pn_up_s]
  · rw [pn_up_n z, pn_up_n (by omega)]
def pm_r (x q : Nat) : Nat := (((x : Int) - (q : Int)) % 10000).toNat
def pm_b (x q : Nat) : Nat := (((pm_r x q : Int) + (q : Int) - (x : Int)) / 10000).toNat
theorem pm_rb (x q : Nat) (hx : x < 10000) : pm_r x q < 10000 ∧ pm_r x q + q = x + pm_b x q * 10000 ∧ (q ≤ 99990000 → pm_b x q ≤ 9999) := by
  unfold pm_b
  have h : (pm_r x q : Int) = ((x : Int) - (q : Int)) % 10000 := by unfold pm_r; omega
  omega
theorem pm_tmod (z : Int) : (0 ≤ z.tmod 10000 → z.tmod 10000 = z % 10000) ∧ (z.tmod 10000 < 0 → z.tmod 10000 + 10000 = z % 10000) ∧ -10000 < z.tmod 10000 ∧ z.tmod 10000 < 10000 := by
  rcases Int.lt_or_le z 0 with h | h
  · have e : z.tmod 10000 = -((-z) % 10000) := by
      have := Int.neg_tmod (-z) 10000
      rw [Int.neg_neg] at this
      rw [this, Int.tmod_eq_emod_of_nonneg (by omega)]
    rw [e]; omega
  · rw [Int.tmod_eq_emod_of_nonneg h]; omega
theorem pm_tk2 {A B V P bo x y f d b2 : Nat} (h : V + f * B = A + bo * P) (e : d + (f * y + bo) = x + b2 * 10000) : V + d * P + f * (B + y * P) = A + x * P + b2 * (P * 10000) := by
  have e2 : (d + (f * y + bo)) * P = (x + b2 * 10000) * P := by rw [e]
  rw [Nat.add_mul, Nat.add_mul, Nat.add_mul] at e2
  have : b2 * (P * 10000) = b2 * 10000 * P := by rw [Nat.mul_comm P 10000, Nat.mul_assoc]
  have g : f * (B + y * P) = f * B + f * y * P := by rw [Nat.mul_add, Nat.mul_assoc]
  omega
theorem pm_tk3 {A B V P cr x y f t : Nat} (h : V + cr * P = A + f * B) (e : t = x + f * y + cr) : V + t % 10000 * P + t / 10000 * (P * 10000) = A + x * P + f * (B + y * P) := by
  rw [Nat.add_assoc, pm_digit, e, Nat.add_mul, Nat.add_mul, Nat.mul_add, Nat.mul_assoc]; omega
theorem pm_c_top {f : Nat → Nat} {n : Nat} : pm_c f n n = 0 := if_neg (Nat.lt_irrefl n)

set_option maxHeartbeats 4000000 in
set_option maxRecDepth 100000 in
theorem c_M_takes (l : Launch) (D : va_G) (cI cZ cB cJ : ClassId) (sz : Nat) (oM qW qM qK qJ qG qH qP cd pl : Nat) (wk mn : Nat → Nat) (b c9 k f9 v2 : Nat) (hb7 : b < 7) (hc7 : c9 < 7) (hbc : b ≠ c9) (hN2 : pm_N wk mn c9 v2) (hk : k + mn c9 + 1 ≤ 3200) (hf9 : f9 < 10000) (hfw : pm_fig (pm_w wk b k) (mn c9 + 1)) : pn_Ci l D (pn_ty cI cZ cB cJ) y_M_takes w_M_takes ({ frames := 0, cells := 0, slots := 0, locals := 0 } : Room) [.ref oM, .int (nI b), .int (nI c9), .int (nI k), .int (nI f9)] [(oM, .inr (5, [.int (nI cd), .ref qW, .ref qM, .ref qK, .ref qJ, .ref qG, .ref qH, .ref qP, .int (nI pl)])), (qW, .inl (cI, 22400, .inl (fun z9 => nI (wk z9)))), (qM, .inl (cI, 7, .inl (fun z9 => nI (mn z9))))] sz (S := Bool × (Nat → Nat)) (fun r u => r = pn_b u.1 ∧ (u.1 = true → f9 * v2 ≤ pm_V (pm_w wk b k) (mn c9 + 1) ∧ pm_V (pm_w u.2 b k) (mn c9 + 1) = pm_V (pm_w wk b k) (mn c9 + 1) - f9 * v2 ∧ pm_fig (pm_w u.2 b k) (mn c9 + 1) ∧ ∀ q, (q < k ∨ k + mn c9 < q) → pm_at u.2 b q = pm_at wk b q) ∧ (u.1 = false → pm_V (pm_w wk b k) (mn c9 + 1) < f9 * v2 ∧ ∀ q, pm_at u.2 b q = pm_at wk b q) ∧ pm_fr b wk u.2) (fun u => [(oM, .inr (5, [.int (nI cd), .ref qW, .ref qM, .ref qK, .ref qJ, .ref qG, .ref qH, .ref qP, .int (nI pl)])), (qW, .inl (cI, 22400, .inl (fun z9 => nI (u.2 z9)))), (qM, .inl (cI, 7, .inl (fun z9 => nI (mn z9))))]) := by
  refine pn_start (by decide) (Nat.le_of_ble_eq_true rfl) ?_
  intro p e s m below meth c A Q ls hQ hAe Fx hr hlocks hN hK hP hD hS hA hl
  have hx := Fx.1
  have hb := Fx.2.1
  have hl : lv_has ls 10 [(0, .ref oM), (1, .int (nI b)), (2, .int (nI c9)), (3, .int (nI k)), (4, .int (nI f9))] := hl
  obtain ⟨m1, m2, m3, m4⟩ := id hN2
  refine lv_iconst (v := nI 0) hx hb d_M_takes_0 (by decide) ?_
  refine lv_istore (lv' := [(5, .int (nI 0)), (0, .ref oM), (1, .int (nI b)), (2, .int (nI c9)), (3, .int (nI k)), (4, .int (nI f9))]) hx hb d_M_takes_1 hl (by decide) rfl (fun ls hl => ?_)
  refine lv_aload_n hx hb d_M_takes_3 rfl (lv_at hl 1 rfl) ?_
  refine pw_get Fx hK hP fld_M 0 rfl 2 (by decide) kw_632 (v := .ref qM) rfl d_M_takes_4 ?_
  refine lv_iload_n hx hb d_M_takes_7 rfl (lv_at hl 3 rfl) ?_
  refine pw_iald Fx hK hP 2 0 (f := fun z9 => nI (mn z9)) rfl rfl (k := c9) (by omega) (by decide) d_M_takes_8 ?_
  refine pn_topi (nI (mn c9)) rfl ?_
  refine lv_istore (lv' := [(6, .int (nI (mn c9))), (5, .int (nI 0)), (0, .ref oM), (1, .int (nI b)), (2, .int (nI c9)), (3, .int (nI k)), (4, .int (nI f9))]) hx hb d_M_takes_9 hl (by decide) rfl (fun ls hl => ?_)
  refine lv_iconst (v := nI 0) hx hb d_M_takes_11 (by decide) ?_
  refine lv_istore (lv' := [(7, .int (nI 0)), (6, .int (nI (mn c9))), (5, .int (nI 0)), (0, .ref oM), (1, .int (nI b)), (2, .int (nI c9)), (3, .int (nI k)), (4, .int (nI f9))]) hx hb d_M_takes_12 hl (by decide) rfl (fun ls hl => ?_)
  have loop14 : ∀ (N : Nat) (j : Nat) (bo : Nat) (w1 : Nat → Nat), mn c9 + 1 - j < N → (j ≤ mn c9 + 1) → (bo ≤ 9999) → (pm_fr b wk w1) → (pm_fig (pm_w w1 b k) j) → (∀ q, (q < k ∨ k + j ≤ q) → pm_at w1 b q = pm_at wk b q) → (pm_V (pm_w w1 b k) j + f9 * pm_V (pm_c (pm_at wk c9) (mn c9)) j = pm_V (pm_w wk b k) j + bo * 10000 ^ j) → ∀ (H : Heap) (locs : List Loc) (ls : Array Slot), lv_has ls 10 [(7, .int (nI j)), (5, .int (nI bo)), (6, .int (nI (mn c9))), (4, .int (nI f9)), (3, .int (nI k)), (0, .ref oM), (1, .int (nI b)), (2, .int (nI c9))] → va_P D pn_cl [(oM, .inr (5, [.int (nI cd), .ref qW, .ref qM, .ref qK, .ref qJ, .ref qG, .ref qH, .ref qP, .int (nI pl)])), (qW, .inl (cI, 22400, .inl (fun z9 => nI (w1 z9)))), (qM, .inl (cI, 7, .inl (fun z9 => nI (mn z9))))] H → va_D A [(oM, .inr (5, [.int (nI cd), .ref qW, .ref qM, .ref qK, .ref qJ, .ref qG, .ref qH, .ref qP, .int (nI pl)])), (qW, .inl (cI, 22400, .inl (fun z9 => nI (w1 z9)))), (qM, .inl (cI, 7, .inl (fun z9 => nI (mn z9))))] → va_S A s.heap H locs → W p l e ({ frames := 0, cells := 0, slots := 0, locals := 0 } : Room) s m ([.ref oM, .int (nI b), .int (nI c9), .int (nI k), .int (nI f9)] : List Value).toArray below meth c H locs 0 0 Q (F0 m 14 ls []) := by
    intro N
    induction N with
    | zero => intro j bo w1 hM; exact absurd hM (Nat.not_lt_zero _)
    | succ N ih14 =>
      intro j bo w1 hM14 hj hbo hF hfg hou hV H locs ls hl hP hD hS
      refine lv_iload hx hb d_M_takes_14 (lv_at hl 0 rfl) ?_
      refine lv_iload hx hb d_M_takes_16 (lv_at hl 2 rfl) ?_
      refine pw_icmp_gt (a := j) (b := mn c9) (tgt := 129) hx hb d_M_takes_18 (by decide) (by omega) (by omega) (fun h_18 => ?_) (fun h_18 => ?_)
      · skip
        obtain rfl : j = mn c9 + 1 := by omega
        refine lv_iload hx hb d_M_takes_129 (lv_at hl 1 rfl) ?_
        refine pw_if_ne (a := bo) (tgt := 136) hx hb d_M_takes_131 (by decide) (by omega) (fun h_131 => ?_) (fun h_131 => ?_)
        · skip
          have hlt := pm_V_lt hfg
          have hbP : 1 * 10000 ^ (mn c9 + 1) ≤ bo * 10000 ^ (mn c9 + 1) := Nat.mul_le_mul_right _ (by omega)
          refine lv_iconst (v := nI 0) hx hb d_M_takes_136 (by decide) ?_
          refine lv_istore (lv' := [(7, .int (nI 0)), (5, .int (nI bo)), (6, .int (nI (mn c9))), (4, .int (nI f9)), (3, .int (nI k)), (0, .ref oM), (1, .int (nI b)), (2, .int (nI c9))]) hx hb d_M_takes_137 hl (by decide) rfl (fun ls hl => ?_)
          refine lv_iconst (v := nI 0) hx hb d_M_takes_139 (by decide) ?_
          refine lv_istore (lv' := [(8, .int (nI 0)), (7, .int (nI 0)), (5, .int (nI bo)), (6, .int (nI (mn c9))), (4, .int (nI f9)), (3, .int (nI k)), (0, .ref oM), (1, .int (nI b)), (2, .int (nI c9))]) hx hb d_M_takes_140 hl (by decide) rfl (fun ls hl => ?_)
          have loop142 : ∀ (N : Nat) (j : Nat) (cr : Nat) (w2 : Nat → Nat), mn c9 + 1 - j < N → (j ≤ mn c9 + 1) → (cr ≤ 9999) → (pm_fr b wk w2) → (pm_fig (pm_w w2 b k) j) → (∀ q, (q < k ∨ k + j ≤ q) → pm_at w2 b q = pm_at w1 b q) → (pm_V (pm_w w2 b k) j + cr * 10000 ^ j = pm_V (pm_w w1 b k) j + f9 * pm_V (pm_c (pm_at wk c9) (mn c9)) j) → ∀ (H : Heap) (locs : List Loc) (ls : Array Slot), lv_has ls 10 [(8, .int (nI j)), (7, .int (nI cr)), (6, .int (nI (mn c9))), (4, .int (nI f9)), (3, .int (nI k)), (0, .ref oM), (1, .int (nI b)), (2, .int (nI c9))] → va_P D pn_cl [(oM, .inr (5, [.int (nI cd), .ref qW, .ref qM, .ref qK, .ref qJ, .ref qG, .ref qH, .ref qP, .int (nI pl)])), (qW, .inl (cI, 22400, .inl (fun z9 => nI (w2 z9)))), (qM, .inl (cI, 7, .inl (fun z9 => nI (mn z9))))] H → va_D A [(oM, .inr (5, [.int (nI cd), .ref qW, .ref qM, .ref qK, .ref qJ, .ref qG, .ref qH, .ref qP, .int (nI pl)])), (qW, .inl (cI, 22400, .inl (fun z9 => nI (w2 z9)))), (qM, .inl (cI, 7, .inl (fun z9 => nI (mn z9))))] → va_S A s.heap H locs → W p l e ({ frames := 0, cells := 0, slots := 0, locals := 0 } : Room) s m ([.ref oM, .int (nI b), .int (nI c9), .int (nI k), .int (nI f9)] : List Value).toArray below meth c H locs 0 0 Q (F0 m 142 ls []) := by
            intro N
            induction N with
            | zero => intro j cr w2 hM; exact absurd hM (Nat.not_lt_zero _)
            | succ N ih142 =>
              intro j cr w2 hM142 hj hcr hF2 hfg2 hou2 hV2 H locs ls hl hP hD hS
              refine lv_iload hx hb d_M_takes_142 (lv_at hl 0 rfl) ?_
              refine lv_iload hx hb d_M_takes_144 (lv_at hl 2 rfl) ?_
              refine pw_icmp_gt (a := j) (b := mn c9) (tgt := 232) hx hb d_M_takes_146 (by decide) (by omega) (by omega) (fun h_146 => ?_) (fun h_146 => ?_)
              · skip
                obtain rfl : j = mn c9 + 1 := by omega
                rw [hV] at hV2
                have hap := pm_apart (pm_V_lt hfg2) (pm_V_lt hfw) hV2
                have hin := pm_V_inj hfg2 hfw hap.2
                rw [pm_c_V (by omega), m4] at hV
                refine lv_iconst (v := nI 0) hx hb d_M_takes_232 (by decide) ?_
                refine pn_topi (pn_b false) (by decide) ?_
                exact pn_retz ((false, w2)) Fx hr (hn := pn_b_nar _) hlocks hQ hAe hP hD hS (by (try dsimp only); first | done | exact (⟨rfl, fun y => absurd y (by decide), fun _ => ⟨by omega, fun q => by by_cases y : k ≤ q ∧ q ≤ k + mn c9; (· have := hin (q - k) (by omega); unfold pm_w at this; rw [show k + (q - k) = q by omega] at this; exact this); (· rw [hou2 q (by omega)]; exact hou q (by omega))⟩, hF2⟩)) d_M_takes_233
              · skip
                have hxe2 : w2 (3200 * b + (k + j)) = pm_w w1 b k j := hou2 (k + j) (by omega)
                have f1 := hfg j (by omega)
                rw [← hxe2] at f1
                have f2 := pm_c_lt m2 j
                have hfy := pm_fy hf9 f2
                refine lv_aload_n hx hb d_M_takes_149 rfl (lv_at hl 5 rfl) ?_
                refine pw_get Fx hK hP fld_M 0 rfl 1 (by decide) kw_631 (v := .ref qW) rfl d_M_takes_150 ?_
                refine lv_sipush (v := nI 3200) hx hb d_M_takes_153 (by decide) ?_
                refine lv_iload_n hx hb d_M_takes_156 rfl (lv_at hl 6 rfl) ?_
                refine pw_imul hx hb d_M_takes_157 ?_
                refine lv_iload_n hx hb d_M_takes_158 rfl (lv_at hl 4 rfl) ?_
                refine pw_iadd hx hb d_M_takes_159 ?_
                refine lv_iload hx hb d_M_takes_160 (lv_at hl 0 rfl) ?_
                refine lv_iadd hx hb d_M_takes_162 ?_
                refine pn_topi (nI (3200 * b + (k + j))) (by rw [nI_add, Nat.add_assoc]) ?_
                refine pw_iald Fx hK hP 1 0 (f := fun z9 => nI (w2 z9)) rfl rfl (k := 3200 * b + (k + j)) (by omega) (by decide) d_M_takes_163 ?_
                refine pn_topi (nI (w2 (3200 * b + (k + j)))) rfl ?_
                refine lv_iload hx hb d_M_takes_164 (lv_at hl 3 rfl) ?_
                refine lv_iload hx hb d_M_takes_166 (lv_at hl 0 rfl) ?_
                refine lv_iload hx hb d_M_takes_168 (lv_at hl 2 rfl) ?_
                refine pw_icmp_ge (a := j) (b := mn c9) (tgt := 189) hx hb d_M_takes_170 (by decide) (by omega) (by omega) (fun h_170 => ?_) (fun h_170 => ?_)
                · skip
                  have hy0 : pm_c (pm_at wk c9) (mn c9) j = 0 := by unfold pm_c; exact if_neg (by omega)
                  refine lv_iconst (v := nI 0) hx hb d_M_takes_189 (by decide) ?_
                  refine pn_topi (nI (pm_c (pm_at wk c9) (mn c9) j)) (by rw [hy0]) ?_
                  refine pw_imul hx hb d_M_takes_190 ?_
                  refine pw_iadd hx hb d_M_takes_191 ?_
                  refine lv_iload hx hb d_M_takes_192 (lv_at hl 1 rfl) ?_
                  refine pw_iadd hx hb d_M_takes_194 ?_
                  refine lv_istore (lv' := [(9, .int (nI (w2 (3200 * b + (k + j)) + (f9 * (pm_c (pm_at wk c9) (mn c9) j)) + cr))), (8, .int (nI j)), (7, .int (nI cr)), (6, .int (nI (mn c9))), (4, .int (nI f9)), (3, .int (nI k)), (0, .ref oM), (1, .int (nI b)), (2, .int (nI c9))]) hx hb d_M_takes_195 hl (by decide) rfl (fun ls hl => ?_)
                  refine lv_aload_n hx hb d_M_takes_197 rfl (lv_at hl 6 rfl) ?_
                  refine pw_get Fx hK hP fld_M 0 rfl 1 (by decide) kw_631 (v := .ref qW) rfl d_M_takes_198 ?_
                  refine lv_sipush (v := nI 3200) hx hb d_M_takes_201 (by decide) ?_
                  refine lv_iload_n hx hb d_M_takes_204 rfl (lv_at hl 7 rfl) ?_
                  refine pw_imul hx hb d_M_takes_205 ?_
                  refine lv_iload_n hx hb d_M_takes_206 rfl (lv_at hl 5 rfl) ?_
                  refine pw_iadd hx hb d_M_takes_207 ?_
                  refine lv_iload hx hb d_M_takes_208 (lv_at hl 1 rfl) ?_
                  refine lv_iadd hx hb d_M_takes_210 ?_
                  refine pn_topi (nI (3200 * b + (k + j))) (by rw [nI_add, Nat.add_assoc]) ?_
                  refine lv_iload hx hb d_M_takes_211 (lv_at hl 0 rfl) ?_
                  refine lv_sipush (v := nI 10000) hx hb d_M_takes_213 (by decide) ?_
                  refine pw_irem hx hb d_M_takes_216 (by omega) (by omega) (by omega) ?_
                  refine pw_iastN Fx hK hP hD hS 1 0 (g := w2) rfl rfl (k := 3200 * b + (k + j)) (by omega) (by decide) (w' := [(oM, .inr (5, [.int (nI cd), .ref qW, .ref qM, .ref qK, .ref qJ, .ref qG, .ref qH, .ref qP, .int (nI pl)])), (qW, .inl (cI, 22400, .inl (fun z9 => nI ((pn_up w2 (3200 * b + (k + j)) ((w2 (3200 * b + (k + j)) + (f9 * (pm_c (pm_at wk c9) (mn c9) j)) + cr) % 10000)) z9)))), (qM, .inl (cI, 7, .inl (fun z9 => nI (mn z9))))]) rfl d_M_takes_217 (fun H locs hP hD hS => ?_)
                  refine lv_iload hx hb d_M_takes_218 (lv_at hl 0 rfl) ?_
                  refine lv_sipush (v := nI 10000) hx hb d_M_takes_220 (by decide) ?_
                  refine pw_idiv hx hb d_M_takes_223 (by omega) (by omega) (by omega) ?_
                  refine lv_istore (lv' := [(7, .int (nI ((w2 (3200 * b + (k + j)) + (f9 * (pm_c (pm_at wk c9) (mn c9) j)) + cr) / 10000))), (9, .int (nI (w2 (3200 * b + (k + j)) + (f9 * (pm_c (pm_at wk c9) (mn c9) j)) + cr))), (8, .int (nI j)), (6, .int (nI (mn c9))), (4, .int (nI f9)), (3, .int (nI k)), (0, .ref oM), (1, .int (nI b)), (2, .int (nI c9))]) hx hb d_M_takes_224 hl (by decide) rfl (fun ls hl => ?_)
                  refine lv_iinc (v := nI (j + 1)) (lv' := [(8, .int (nI (j + 1))), (7, .int (nI ((w2 (3200 * b + (k + j)) + (f9 * (pm_c (pm_at wk c9) (mn c9) j)) + cr) / 10000))), (9, .int (nI (w2 (3200 * b + (k + j)) + (f9 * (pm_c (pm_at wk c9) (mn c9) j)) + cr))), (6, .int (nI (mn c9))), (4, .int (nI f9)), (3, .int (nI k)), (0, .ref oM), (1, .int (nI b)), (2, .int (nI c9))]) hx hb d_M_takes_226 hl (k := 2) rfl (nI_add _ 1) (by decide) rfl (fun ls hl => ?_)
                  refine lv_goto (tgt := 142) hx hb d_M_takes_229 (by decide) ?_
                  exact ih142 (j + 1) ((w2 (3200 * b + (k + j)) + f9 * pm_c (pm_at wk c9) (mn c9) j + cr) / 10000) _ (by omega) (by omega) (by omega) (pm_fr_up hF2 (by omega)) (by rw [pm_w_up]; exact pm_fig_upS hfg2 (by omega)) (fun q hq => by rw [pm_at_up, pn_up_n (by omega)]; exact hou2 q (by omega)) (by rw [pm_w_up, pm_V_upS, pm_P_s, pm_V_s, pm_V_s, ← hxe2]; exact pm_tk3 hV2 rfl) _ _ _ (lv_sub hl [0, 1, 3, 4, 5, 6, 7, 8] rfl) hP hD hS
                · skip
                  refine lv_aload_n hx hb d_M_takes_173 rfl (lv_at hl 5 rfl) ?_
                  refine pw_get Fx hK hP fld_M 0 rfl 1 (by decide) kw_631 (v := .ref qW) rfl d_M_takes_174 ?_
                  refine lv_sipush (v := nI 3200) hx hb d_M_takes_177 (by decide) ?_
                  refine lv_iload_n hx hb d_M_takes_180 rfl (lv_at hl 7 rfl) ?_
                  refine pw_imul hx hb d_M_takes_181 ?_
                  refine lv_iload hx hb d_M_takes_182 (lv_at hl 0 rfl) ?_
                  refine pw_iadd hx hb d_M_takes_184 ?_
                  refine pw_iald Fx hK hP 1 0 (f := fun z9 => nI (w2 z9)) rfl rfl (k := 3200 * c9 + j) (by omega) (by decide) d_M_takes_185 ?_
                  refine pn_topi (nI (w2 (3200 * c9 + j))) rfl ?_
                  refine pn_topi (nI (pm_c (pm_at wk c9) (mn c9) j)) (congrArg nI (by unfold pm_c; rw [if_pos h_170]; exact hF2 c9 j (Ne.symm hbc) (by omega))) ?_
                  refine lv_goto (tgt := 190) hx hb d_M_takes_186 (by decide) ?_
                  refine pw_imul hx hb d_M_takes_190 ?_
                  refine pw_iadd hx hb d_M_takes_191 ?_
                  refine lv_iload hx hb d_M_takes_192 (lv_at hl 1 rfl) ?_
                  refine pw_iadd hx hb d_M_takes_194 ?_
                  refine lv_istore (lv' := [(9, .int (nI (w2 (3200 * b + (k + j)) + (f9 * (pm_c (pm_at wk c9) (mn c9) j)) + cr))), (8, .int (nI j)), (7, .int (nI cr)), (6, .int (nI (mn c9))), (4, .int (nI f9)), (3, .int (nI k)), (0, .ref oM), (1, .int (nI b)), (2, .int (nI c9))]) hx hb d_M_takes_195 hl (by decide) rfl (fun ls hl => ?_)
                  refine lv_aload_n hx hb d_M_takes_197 rfl (lv_at hl 6 rfl) ?_
                  refine pw_get Fx hK hP fld_M 0 rfl 1 (by decide) kw_631 (v := .ref qW) rfl d_M_takes_198 ?_
                  refine lv_sipush (v := nI 3200) hx hb d_M_takes_201 (by decide) ?_
                  refine lv_iload_n hx hb d_M_takes_204 rfl (lv_at hl 7 rfl) ?_
                  refine pw_imul hx hb d_M_takes_205 ?_
                  refine lv_iload_n hx hb d_M_takes_206 rfl (lv_at hl 5 rfl) ?_
                  refine pw_iadd hx hb d_M_takes_207 ?_
                  refine lv_iload hx hb d_M_takes_208 (lv_at hl 1 rfl) ?_
                  refine lv_iadd hx hb d_M_takes_210 ?_
                  refine pn_topi (nI (3200 * b + (k + j))) (by rw [nI_add, Nat.add_assoc]) ?_
                  refine lv_iload hx hb d_M_takes_211 (lv_at hl 0 rfl) ?_
                  refine lv_sipush (v := nI 10000) hx hb d_M_takes_213 (by decide) ?_
                  refine pw_irem hx hb d_M_takes_216 (by omega) (by omega) (by omega) ?_
                  refine pw_iastN Fx hK hP hD hS 1 0 (g := w2) rfl rfl (k := 3200 * b + (k + j)) (by omega) (by decide) (w' := [(oM, .inr (5, [.int (nI cd), .ref qW, .ref qM, .ref qK, .ref qJ, .ref qG, .ref qH, .ref qP, .int (nI pl)])), (qW, .inl (cI, 22400, .inl (fun z9 => nI ((pn_up w2 (3200 * b + (k + j)) ((w2 (3200 * b + (k + j)) + (f9 * (pm_c (pm_at wk c9) (mn c9) j)) + cr) % 10000)) z9)))), (qM, .inl (cI, 7, .inl (fun z9 => nI (mn z9))))]) rfl d_M_takes_217 (fun H locs hP hD hS => ?_)
                  refine lv_iload hx hb d_M_takes_218 (lv_at hl 0 rfl) ?_
                  refine lv_sipush (v := nI 10000) hx hb d_M_takes_220 (by decide) ?_
                  refine pw_idiv hx hb d_M_takes_223 (by omega) (by omega) (by omega) ?_
                  refine lv_istore (lv' := [(7, .int (nI ((w2 (3200 * b + (k + j)) + (f9 * (pm_c (pm_at wk c9) (mn c9) j)) + cr) / 10000))), (9, .int (nI (w2 (3200 * b + (k + j)) + (f9 * (pm_c (pm_at wk c9) (mn c9) j)) + cr))), (8, .int (nI j)), (6, .int (nI (mn c9))), (4, .int (nI f9)), (3, .int (nI k)), (0, .ref oM), (1, .int (nI b)), (2, .int (nI c9))]) hx hb d_M_takes_224 hl (by decide) rfl (fun ls hl => ?_)
                  refine lv_iinc (v := nI (j + 1)) (lv' := [(8, .int (nI (j + 1))), (7, .int (nI ((w2 (3200 * b + (k + j)) + (f9 * (pm_c (pm_at wk c9) (mn c9) j)) + cr) / 10000))), (9, .int (nI (w2 (3200 * b + (k + j)) + (f9 * (pm_c (pm_at wk c9) (mn c9) j)) + cr))), (6, .int (nI (mn c9))), (4, .int (nI f9)), (3, .int (nI k)), (0, .ref oM), (1, .int (nI b)), (2, .int (nI c9))]) hx hb d_M_takes_226 hl (k := 2) rfl (nI_add _ 1) (by decide) rfl (fun ls hl => ?_)
                  refine lv_goto (tgt := 142) hx hb d_M_takes_229 (by decide) ?_
                  exact ih142 (j + 1) ((w2 (3200 * b + (k + j)) + f9 * pm_c (pm_at wk c9) (mn c9) j + cr) / 10000) _ (by omega) (by omega) (by omega) (pm_fr_up hF2 (by omega)) (by rw [pm_w_up]; exact pm_fig_upS hfg2 (by omega)) (fun q hq => by rw [pm_at_up, pn_up_n (by omega)]; exact hou2 q (by omega)) (by rw [pm_w_up, pm_V_upS, pm_P_s, pm_V_s, pm_V_s, ← hxe2]; exact pm_tk3 hV2 rfl) _ _ _ (lv_sub hl [0, 1, 3, 4, 5, 6, 7, 8] rfl) hP hD hS
          exact loop142 _ 0 0 w1 (Nat.lt_succ_self _) (Nat.zero_le _) (by omega) hF (fun i hi => by omega) (fun _ _ => rfl) (by simp [pm_V_0]) _ _ _ (lv_sub hl [0, 1, 3, 4, 5, 6, 7, 8] rfl) hP hD hS
        · skip
          rw [h_131, Nat.zero_mul, Nat.add_zero, pm_c_V (by omega), m4] at hV
          refine lv_iconst (v := nI 1) hx hb d_M_takes_134 (by decide) ?_
          refine pn_topi (pn_b true) (by decide) ?_
          exact pn_retz ((true, w1)) Fx hr (hn := pn_b_nar _) hlocks hQ hAe hP hD hS (by (try dsimp only); first | done | exact (⟨rfl, fun _ => ⟨by omega, by omega, hfg, fun q hq => hou q (by omega)⟩, fun y => absurd y (by decide), hF⟩)) d_M_takes_135
      · skip
        have hxe : w1 (3200 * b + (k + j)) = pm_w wk b k j := hou (k + j) (by omega)
        have f1 := hfw j (by omega)
        rw [← hxe] at f1
        have f2 := pm_c_lt m2 j
        have hfy := pm_fy hf9 f2
        have hrb := pm_rb (w1 (3200 * b + (k + j))) (f9 * pm_c (pm_at wk c9) (mn c9) j + bo) f1
        have htm := pm_tmod (((w1 (3200 * b + (k + j)) : Nat) : Int) - ((f9 * pm_c (pm_at wk c9) (mn c9) j : Nat) : Int) - ((bo : Nat) : Int))
        refine lv_aload_n hx hb d_M_takes_21 rfl (lv_at hl 5 rfl) ?_
        refine pw_get Fx hK hP fld_M 0 rfl 1 (by decide) kw_631 (v := .ref qW) rfl d_M_takes_22 ?_
        refine lv_sipush (v := nI 3200) hx hb d_M_takes_25 (by decide) ?_
        refine lv_iload_n hx hb d_M_takes_28 rfl (lv_at hl 6 rfl) ?_
        refine pw_imul hx hb d_M_takes_29 ?_
        refine lv_iload_n hx hb d_M_takes_30 rfl (lv_at hl 4 rfl) ?_
        refine pw_iadd hx hb d_M_takes_31 ?_
        refine lv_iload hx hb d_M_takes_32 (lv_at hl 0 rfl) ?_
        refine lv_iadd hx hb d_M_takes_34 ?_
        refine pn_topi (nI (3200 * b + (k + j))) (by rw [nI_add, Nat.add_assoc]) ?_
        refine pw_iald Fx hK hP 1 0 (f := fun z9 => nI (w1 z9)) rfl rfl (k := 3200 * b + (k + j)) (by omega) (by decide) d_M_takes_35 ?_
        refine pn_topi (nI (w1 (3200 * b + (k + j)))) rfl ?_
        refine lv_iload hx hb d_M_takes_36 (lv_at hl 3 rfl) ?_
        refine lv_iload hx hb d_M_takes_38 (lv_at hl 0 rfl) ?_
        refine lv_iload hx hb d_M_takes_40 (lv_at hl 2 rfl) ?_
        refine pw_icmp_ge (a := j) (b := mn c9) (tgt := 61) hx hb d_M_takes_42 (by decide) (by omega) (by omega) (fun h_42 => ?_) (fun h_42 => ?_)
        · skip
          have hy0 : pm_c (pm_at wk c9) (mn c9) j = 0 := by unfold pm_c; exact if_neg (by omega)
          refine lv_iconst (v := nI 0) hx hb d_M_takes_61 (by decide) ?_
          refine pn_topi (nI (pm_c (pm_at wk c9) (mn c9) j)) (by rw [hy0]) ?_
          refine pw_imul hx hb d_M_takes_62 ?_
          refine pw_isubNN hx hb d_M_takes_63 ?_
          refine lv_iload hx hb d_M_takes_64 (lv_at hl 1 rfl) ?_
          refine pw_isubZN hx hb d_M_takes_66 ?_
          refine lv_istore (lv' := [(8, .int (pn_I ((((w1 (3200 * b + (k + j)) : Nat) : Int) - ((f9 * (pm_c (pm_at wk c9) (mn c9) j) : Nat) : Int)) - ((bo : Nat) : Int)))), (7, .int (nI j)), (5, .int (nI bo)), (6, .int (nI (mn c9))), (4, .int (nI f9)), (3, .int (nI k)), (0, .ref oM), (1, .int (nI b)), (2, .int (nI c9))]) hx hb d_M_takes_67 hl (by decide) rfl (fun ls hl => ?_)
          refine lv_iload hx hb d_M_takes_69 (lv_at hl 0 rfl) ?_
          refine lv_sipush (v := nI 10000) hx hb d_M_takes_71 (by decide) ?_
          refine pw_iremZ hx hb d_M_takes_74 (by omega) (by omega) (by omega) (by omega) ?_
          refine lv_istore (lv' := [(9, .int (pn_I (((((w1 (3200 * b + (k + j)) : Nat) : Int) - ((f9 * (pm_c (pm_at wk c9) (mn c9) j) : Nat) : Int)) - ((bo : Nat) : Int)).tmod 10000))), (8, .int (pn_I ((((w1 (3200 * b + (k + j)) : Nat) : Int) - ((f9 * (pm_c (pm_at wk c9) (mn c9) j) : Nat) : Int)) - ((bo : Nat) : Int)))), (7, .int (nI j)), (5, .int (nI bo)), (6, .int (nI (mn c9))), (4, .int (nI f9)), (3, .int (nI k)), (0, .ref oM), (1, .int (nI b)), (2, .int (nI c9))]) hx hb d_M_takes_75 hl (by decide) rfl (fun ls hl => ?_)
          refine lv_iload hx hb d_M_takes_77 (lv_at hl 0 rfl) ?_
          refine pw_ifz_ge (z := ((((w1 (3200 * b + (k + j)) : Nat) : Int) - ((f9 * (pm_c (pm_at wk c9) (mn c9) j) : Nat) : Int)) - ((bo : Nat) : Int)).tmod 10000) (tgt := 91) hx hb d_M_takes_79 (by decide) (by omega) (by omega) (fun h_79 => ?_) (fun h_79 => ?_)
          · skip
            refine lv_iload hx hb d_M_takes_91 (lv_at hl 0 rfl) ?_
            refine pn_topi (nI (pm_r (w1 (3200 * b + (k + j))) (f9 * pm_c (pm_at wk c9) (mn c9) j + bo))) (by rw [← pn_I_nI]; exact congrArg pn_I (by unfold pm_r; have := htm.1 h_79; omega)) ?_
            refine lv_istore (lv' := [(9, .int (nI (pm_r (w1 (3200 * b + (k + j))) (f9 * pm_c (pm_at wk c9) (mn c9) j + bo)))), (8, .int (pn_I ((((w1 (3200 * b + (k + j)) : Nat) : Int) - ((f9 * (pm_c (pm_at wk c9) (mn c9) j) : Nat) : Int)) - ((bo : Nat) : Int)))), (7, .int (nI j)), (5, .int (nI bo)), (6, .int (nI (mn c9))), (4, .int (nI f9)), (3, .int (nI k)), (0, .ref oM), (1, .int (nI b)), (2, .int (nI c9))]) hx hb d_M_takes_93 hl (by decide) rfl (fun ls hl => ?_)
            refine lv_iload hx hb d_M_takes_95 (lv_at hl 0 rfl) ?_
            refine lv_iload hx hb d_M_takes_97 (lv_at hl 1 rfl) ?_
            refine pw_isubNZ hx hb d_M_takes_99 ?_
            refine lv_sipush (v := nI 10000) hx hb d_M_takes_100 (by decide) ?_
            refine lv_idiv hx hb d_M_takes_103 (by decide) ?_
            refine pn_topi (nI (pm_b (w1 (3200 * b + (k + j))) (f9 * pm_c (pm_at wk c9) (mn c9) j + bo))) (by rw [pm_I_tdiv (by omega) (by omega) (by decide) (by decide), ← pn_I_nI, Int.tdiv_eq_ediv_of_nonneg (by omega)]; exact congrArg pn_I (by unfold pm_b; omega)) ?_
            refine lv_istore (lv' := [(5, .int (nI (pm_b (w1 (3200 * b + (k + j))) (f9 * pm_c (pm_at wk c9) (mn c9) j + bo)))), (9, .int (nI (pm_r (w1 (3200 * b + (k + j))) (f9 * pm_c (pm_at wk c9) (mn c9) j + bo)))), (8, .int (pn_I ((((w1 (3200 * b + (k + j)) : Nat) : Int) - ((f9 * (pm_c (pm_at wk c9) (mn c9) j) : Nat) : Int)) - ((bo : Nat) : Int)))), (7, .int (nI j)), (6, .int (nI (mn c9))), (4, .int (nI f9)), (3, .int (nI k)), (0, .ref oM), (1, .int (nI b)), (2, .int (nI c9))]) hx hb d_M_takes_104 hl (by decide) rfl (fun ls hl => ?_)
            refine lv_aload_n hx hb d_M_takes_106 rfl (lv_at hl 7 rfl) ?_
            refine pw_get Fx hK hP fld_M 0 rfl 1 (by decide) kw_631 (v := .ref qW) rfl d_M_takes_107 ?_
            refine lv_sipush (v := nI 3200) hx hb d_M_takes_110 (by decide) ?_
            refine lv_iload_n hx hb d_M_takes_113 rfl (lv_at hl 8 rfl) ?_
            refine pw_imul hx hb d_M_takes_114 ?_
            refine lv_iload_n hx hb d_M_takes_115 rfl (lv_at hl 6 rfl) ?_
            refine pw_iadd hx hb d_M_takes_116 ?_
            refine lv_iload hx hb d_M_takes_117 (lv_at hl 3 rfl) ?_
            refine lv_iadd hx hb d_M_takes_119 ?_
            refine pn_topi (nI (3200 * b + (k + j))) (by rw [nI_add, Nat.add_assoc]) ?_
            refine lv_iload hx hb d_M_takes_120 (lv_at hl 1 rfl) ?_
            refine pw_iastN Fx hK hP hD hS 1 0 (g := w1) rfl rfl (k := 3200 * b + (k + j)) (by omega) (by decide) (w' := [(oM, .inr (5, [.int (nI cd), .ref qW, .ref qM, .ref qK, .ref qJ, .ref qG, .ref qH, .ref qP, .int (nI pl)])), (qW, .inl (cI, 22400, .inl (fun z9 => nI ((pn_up w1 (3200 * b + (k + j)) (pm_r (w1 (3200 * b + (k + j))) (f9 * pm_c (pm_at wk c9) (mn c9) j + bo))) z9)))), (qM, .inl (cI, 7, .inl (fun z9 => nI (mn z9))))]) rfl d_M_takes_122 (fun H locs hP hD hS => ?_)
            refine lv_iinc (v := nI (j + 1)) (lv' := [(7, .int (nI (j + 1))), (5, .int (nI (pm_b (w1 (3200 * b + (k + j))) (f9 * pm_c (pm_at wk c9) (mn c9) j + bo)))), (9, .int (nI (pm_r (w1 (3200 * b + (k + j))) (f9 * pm_c (pm_at wk c9) (mn c9) j + bo)))), (8, .int (pn_I ((((w1 (3200 * b + (k + j)) : Nat) : Int) - ((f9 * (pm_c (pm_at wk c9) (mn c9) j) : Nat) : Int)) - ((bo : Nat) : Int)))), (6, .int (nI (mn c9))), (4, .int (nI f9)), (3, .int (nI k)), (0, .ref oM), (1, .int (nI b)), (2, .int (nI c9))]) hx hb d_M_takes_123 hl (k := 3) rfl (nI_add _ 1) (by decide) rfl (fun ls hl => ?_)
            refine lv_goto (tgt := 14) hx hb d_M_takes_126 (by decide) ?_
            exact ih14 (j + 1) (pm_b (w1 (3200 * b + (k + j))) (f9 * pm_c (pm_at wk c9) (mn c9) j + bo)) _ (by omega) (by omega) (hrb.2.2 (by omega)) (pm_fr_up hF (by omega)) (by rw [pm_w_up]; exact pm_fig_upS hfg hrb.1) (fun q hq => by rw [pm_at_up, pn_up_n (by omega)]; exact hou q (by omega)) (by rw [pm_w_up, pm_V_upS, pm_P_s, pm_V_s, pm_V_s, ← hxe]; exact pm_tk2 hV hrb.2.1) _ _ _ (lv_sub hl [0, 1, 4, 5, 6, 7, 8, 9] rfl) hP hD hS
          · skip
            refine lv_iload hx hb d_M_takes_82 (lv_at hl 0 rfl) ?_
            refine lv_sipush (v := nI 10000) hx hb d_M_takes_84 (by decide) ?_
            refine lv_iadd hx hb d_M_takes_87 ?_
            refine pn_topi (nI (pm_r (w1 (3200 * b + (k + j))) (f9 * pm_c (pm_at wk c9) (mn c9) j + bo))) (by rw [← pn_I_nI 10000, pn_I_add, ← pn_I_nI]; exact congrArg pn_I (by unfold pm_r; have := htm.2.1 h_79; omega)) ?_
            refine lv_goto (tgt := 93) hx hb d_M_takes_88 (by decide) ?_
            refine lv_istore (lv' := [(9, .int (nI (pm_r (w1 (3200 * b + (k + j))) (f9 * pm_c (pm_at wk c9) (mn c9) j + bo)))), (8, .int (pn_I ((((w1 (3200 * b + (k + j)) : Nat) : Int) - ((f9 * (pm_c (pm_at wk c9) (mn c9) j) : Nat) : Int)) - ((bo : Nat) : Int)))), (7, .int (nI j)), (5, .int (nI bo)), (6, .int (nI (mn c9))), (4, .int (nI f9)), (3, .int (nI k)), (0, .ref oM), (1, .int (nI b)), (2, .int (nI c9))]) hx hb d_M_takes_93 hl (by decide) rfl (fun ls hl => ?_)
            refine lv_iload hx hb d_M_takes_95 (lv_at hl 0 rfl) ?_
            refine lv_iload hx hb d_M_takes_97 (lv_at hl 1 rfl) ?_
            refine pw_isubNZ hx hb d_M_takes_99 ?_
            refine lv_sipush (v := nI 10000) hx hb d_M_takes_100 (by decide) ?_
            refine lv_idiv hx hb d_M_takes_103 (by decide) ?_
            refine pn_topi (nI (pm_b (w1 (3200 * b + (k + j))) (f9 * pm_c (pm_at wk c9) (mn c9) j + bo))) (by rw [pm_I_tdiv (by omega) (by omega) (by decide) (by decide), ← pn_I_nI, Int.tdiv_eq_ediv_of_nonneg (by omega)]; exact congrArg pn_I (by unfold pm_b; omega)) ?_
            refine lv_istore (lv' := [(5, .int (nI (pm_b (w1 (3200 * b + (k + j))) (f9 * pm_c (pm_at wk c9) (mn c9) j + bo)))), (9, .int (nI (pm_r (w1 (3200 * b + (k + j))) (f9 * pm_c (pm_at wk c9) (mn c9) j + bo)))), (8, .int (pn_I ((((w1 (3200 * b + (k + j)) : Nat) : Int) - ((f9 * (pm_c (pm_at wk c9) (mn c9) j) : Nat) : Int)) - ((bo : Nat) : Int)))), (7, .int (nI j)), (6, .int (nI (mn c9))), (4, .int (nI f9)), (3, .int (nI k)), (0, .ref oM), (1, .int (nI b)), (2, .int (nI c9))]) hx hb d_M_takes_104 hl (by decide) rfl (fun ls hl => ?_)
            refine lv_aload_n hx hb d_M_takes_106 rfl (lv_at hl 7 rfl) ?_
            refine pw_get Fx hK hP fld_M 0 rfl 1 (by decide) kw_631 (v := .ref qW) rfl d_M_takes_107 ?_
            refine lv_sipush (v := nI 3200) hx hb d_M_takes_110 (by decide) ?_
            refine lv_iload_n hx hb d_M_takes_113 rfl (lv_at hl 8 rfl) ?_
            refine pw_imul hx hb d_M_takes_114 ?_
            refine lv_iload_n hx hb d_M_takes_115 rfl (lv_at hl 6 rfl) ?_
            refine pw_iadd hx hb d_M_takes_116 ?_
            refine lv_iload hx hb d_M_takes_117 (lv_at hl 3 rfl) ?_
            refine lv_iadd hx hb d_M_takes_119 ?_
            refine pn_topi (nI (3200 * b + (k + j))) (by rw [nI_add, Nat.add_assoc]) ?_
            refine lv_iload hx hb d_M_takes_120 (lv_at hl 1 rfl) ?_
            refine pw_iastN Fx hK hP hD hS 1 0 (g := w1) rfl rfl (k := 3200 * b + (k + j)) (by omega) (by decide) (w' := [(oM, .inr (5, [.int (nI cd), .ref qW, .ref qM, .ref qK, .ref qJ, .ref qG, .ref qH, .ref qP, .int (nI pl)])), (qW, .inl (cI, 22400, .inl (fun z9 => nI ((pn_up w1 (3200 * b + (k + j)) (pm_r (w1 (3200 * b + (k + j))) (f9 * pm_c (pm_at wk c9) (mn c9) j + bo))) z9)))), (qM, .inl (cI, 7, .inl (fun z9 => nI (mn z9))))]) rfl d_M_takes_122 (fun H locs hP hD hS => ?_)
            refine lv_iinc (v := nI (j + 1)) (lv' := [(7, .int (nI (j + 1))), (5, .int (nI (pm_b (w1 (3200 * b + (k + j))) (f9 * pm_c (pm_at wk c9) (mn c9) j + bo)))), (9, .int (nI (pm_r (w1 (3200 * b + (k + j))) (f9 * pm_c (pm_at wk c9) (mn c9) j + bo)))), (8, .int (pn_I ((((w1 (3200 * b + (k + j)) : Nat) : Int) - ((f9 * (pm_c (pm_at wk c9) (mn c9) j) : Nat) : Int)) - ((bo : Nat) : Int)))), (6, .int (nI (mn c9))), (4, .int (nI f9)), (3, .int (nI k)), (0, .ref oM), (1, .int (nI b)), (2, .int (nI c9))]) hx hb d_M_takes_123 hl (k := 3) rfl (nI_add _ 1) (by decide) rfl (fun ls hl => ?_)
            refine lv_goto (tgt := 14) hx hb d_M_takes_126 (by decide) ?_
            exact ih14 (j + 1) (pm_b (w1 (3200 * b + (k + j))) (f9 * pm_c (pm_at wk c9) (mn c9) j + bo)) _ (by omega) (by omega) (hrb.2.2 (by omega)) (pm_fr_up hF (by omega)) (by rw [pm_w_up]; exact pm_fig_upS hfg hrb.1) (fun q hq => by rw [pm_at_up, pn_up_n (by omega)]; exact hou q (by omega)) (by rw [pm_w_up, pm_V_upS, pm_P_s, pm_V_s, pm_V_s, ← hxe]; exact pm_tk2 hV hrb.2.1) _ _ _ (lv_sub hl [0, 1, 4, 5, 6, 7, 8, 9] rfl) hP hD hS
        · skip
          refine lv_aload_n hx hb d_M_takes_45 rfl (lv_at hl 5 rfl) ?_
          refine pw_get Fx hK hP fld_M 0 rfl 1 (by decide) kw_631 (v := .ref qW) rfl d_M_takes_46 ?_
          refine lv_sipush (v := nI 3200) hx hb d_M_takes_49 (by decide) ?_
          refine lv_iload_n hx hb d_M_takes_52 rfl (lv_at hl 7 rfl) ?_
          refine pw_imul hx hb d_M_takes_53 ?_
          refine lv_iload hx hb d_M_takes_54 (lv_at hl 0 rfl) ?_
          refine pw_iadd hx hb d_M_takes_56 ?_
          refine pw_iald Fx hK hP 1 0 (f := fun z9 => nI (w1 z9)) rfl rfl (k := 3200 * c9 + j) (by omega) (by decide) d_M_takes_57 ?_
          refine pn_topi (nI (w1 (3200 * c9 + j))) rfl ?_
          refine pn_topi (nI (pm_c (pm_at wk c9) (mn c9) j)) (congrArg nI (by unfold pm_c; rw [if_pos h_42]; exact hF c9 j (Ne.symm hbc) (by omega))) ?_
          refine lv_goto (tgt := 62) hx hb d_M_takes_58 (by decide) ?_
          refine pw_imul hx hb d_M_takes_62 ?_
          refine pw_isubNN hx hb d_M_takes_63 ?_
          refine lv_iload hx hb d_M_takes_64 (lv_at hl 1 rfl) ?_
          refine pw_isubZN hx hb d_M_takes_66 ?_
          refine lv_istore (lv' := [(8, .int (pn_I ((((w1 (3200 * b + (k + j)) : Nat) : Int) - ((f9 * (pm_c (pm_at wk c9) (mn c9) j) : Nat) : Int)) - ((bo : Nat) : Int)))), (7, .int (nI j)), (5, .int (nI bo)), (6, .int (nI (mn c9))), (4, .int (nI f9)), (3, .int (nI k)), (0, .ref oM), (1, .int (nI b)), (2, .int (nI c9))]) hx hb d_M_takes_67 hl (by decide) rfl (fun ls hl => ?_)
          refine lv_iload hx hb d_M_takes_69 (lv_at hl 0 rfl) ?_
          refine lv_sipush (v := nI 10000) hx hb d_M_takes_71 (by decide) ?_
          refine pw_iremZ hx hb d_M_takes_74 (by omega) (by omega) (by omega) (by omega) ?_
          refine lv_istore (lv' := [(9, .int (pn_I (((((w1 (3200 * b + (k + j)) : Nat) : Int) - ((f9 * (pm_c (pm_at wk c9) (mn c9) j) : Nat) : Int)) - ((bo : Nat) : Int)).tmod 10000))), (8, .int (pn_I ((((w1 (3200 * b + (k + j)) : Nat) : Int) - ((f9 * (pm_c (pm_at wk c9) (mn c9) j) : Nat) : Int)) - ((bo : Nat) : Int)))), (7, .int (nI j)), (5, .int (nI bo)), (6, .int (nI (mn c9))), (4, .int (nI f9)), (3, .int (nI k)), (0, .ref oM), (1, .int (nI b)), (2, .int (nI c9))]) hx hb d_M_takes_75 hl (by decide) rfl (fun ls hl => ?_)
          refine lv_iload hx hb d_M_takes_77 (lv_at hl 0 rfl) ?_
          refine pw_ifz_ge (z := ((((w1 (3200 * b + (k + j)) : Nat) : Int) - ((f9 * (pm_c (pm_at wk c9) (mn c9) j) : Nat) : Int)) - ((bo : Nat) : Int)).tmod 10000) (tgt := 91) hx hb d_M_takes_79 (by decide) (by omega) (by omega) (fun h_79 => ?_) (fun h_79 => ?_)
          · skip
            refine lv_iload hx hb d_M_takes_91 (lv_at hl 0 rfl) ?_
            refine pn_topi (nI (pm_r (w1 (3200 * b + (k + j))) (f9 * pm_c (pm_at wk c9) (mn c9) j + bo))) (by rw [← pn_I_nI]; exact congrArg pn_I (by unfold pm_r; have := htm.1 h_79; omega)) ?_
            refine lv_istore (lv' := [(9, .int (nI (pm_r (w1 (3200 * b + (k + j))) (f9 * pm_c (pm_at wk c9) (mn c9) j + bo)))), (8, .int (pn_I ((((w1 (3200 * b + (k + j)) : Nat) : Int) - ((f9 * (pm_c (pm_at wk c9) (mn c9) j) : Nat) : Int)) - ((bo : Nat) : Int)))), (7, .int (nI j)), (5, .int (nI bo)), (6, .int (nI (mn c9))), (4, .int (nI f9)), (3, .int (nI k)), (0, .ref oM), (1, .int (nI b)), (2, .int (nI c9))]) hx hb d_M_takes_93 hl (by decide) rfl (fun ls hl => ?_)
            refine lv_iload hx hb d_M_takes_95 (lv_at hl 0 rfl) ?_
            refine lv_iload hx hb d_M_takes_97 (lv_at hl 1 rfl) ?_
            refine pw_isubNZ hx hb d_M_takes_99 ?_
            refine lv_sipush (v := nI 10000) hx hb d_M_takes_100 (by decide) ?_
            refine lv_idiv hx hb d_M_takes_103 (by decide) ?_
            refine pn_topi (nI (pm_b (w1 (3200 * b + (k + j))) (f9 * pm_c (pm_at wk c9) (mn c9) j + bo))) (by rw [pm_I_tdiv (by omega) (by omega) (by decide) (by decide), ← pn_I_nI, Int.tdiv_eq_ediv_of_nonneg (by omega)]; exact congrArg pn_I (by unfold pm_b; omega)) ?_
            refine lv_istore (lv' := [(5, .int (nI (pm_b (w1 (3200 * b + (k + j))) (f9 * pm_c (pm_at wk c9) (mn c9) j + bo)))), (9, .int (nI (pm_r (w1 (3200 * b + (k + j))) (f9 * pm_c (pm_at wk c9) (mn c9) j + bo)))), (8, .int (pn_I ((((w1 (3200 * b + (k + j)) : Nat) : Int) - ((f9 * (pm_c (pm_at wk c9) (mn c9) j) : Nat) : Int)) - ((bo : Nat) : Int)))), (7, .int (nI j)), (6, .int (nI (mn c9))), (4, .int (nI f9)), (3, .int (nI k)), (0, .ref oM), (1, .int (nI b)), (2, .int (nI c9))]) hx hb d_M_takes_104 hl (by decide) rfl (fun ls hl => ?_)
            refine lv_aload_n hx hb d_M_takes_106 rfl (lv_at hl 7 rfl) ?_
            refine pw_get Fx hK hP fld_M 0 rfl 1 (by decide) kw_631 (v := .ref qW) rfl d_M_takes_107 ?_
            refine lv_sipush (v := nI 3200) hx hb d_M_takes_110 (by decide) ?_
            refine lv_iload_n hx hb d_M_takes_113 rfl (lv_at hl 8 rfl) ?_
            refine pw_imul hx hb d_M_takes_114 ?_
            refine lv_iload_n hx hb d_M_takes_115 rfl (lv_at hl 6 rfl) ?_
            refine pw_iadd hx hb d_M_takes_116 ?_
            refine lv_iload hx hb d_M_takes_117 (lv_at hl 3 rfl) ?_
            refine lv_iadd hx hb d_M_takes_119 ?_
            refine pn_topi (nI (3200 * b + (k + j))) (by rw [nI_add, Nat.add_assoc]) ?_
            refine lv_iload hx hb d_M_takes_120 (lv_at hl 1 rfl) ?_
            refine pw_iastN Fx hK hP hD hS 1 0 (g := w1) rfl rfl (k := 3200 * b + (k + j)) (by omega) (by decide) (w' := [(oM, .inr (5, [.int (nI cd), .ref qW, .ref qM, .ref qK, .ref qJ, .ref qG, .ref qH, .ref qP, .int (nI pl)])), (qW, .inl (cI, 22400, .inl (fun z9 => nI ((pn_up w1 (3200 * b + (k + j)) (pm_r (w1 (3200 * b + (k + j))) (f9 * pm_c (pm_at wk c9) (mn c9) j + bo))) z9)))), (qM, .inl (cI, 7, .inl (fun z9 => nI (mn z9))))]) rfl d_M_takes_122 (fun H locs hP hD hS => ?_)
            refine lv_iinc (v := nI (j + 1)) (lv' := [(7, .int (nI (j + 1))), (5, .int (nI (pm_b (w1 (3200 * b + (k + j))) (f9 * pm_c (pm_at wk c9) (mn c9) j + bo)))), (9, .int (nI (pm_r (w1 (3200 * b + (k + j))) (f9 * pm_c (pm_at wk c9) (mn c9) j + bo)))), (8, .int (pn_I ((((w1 (3200 * b + (k + j)) : Nat) : Int) - ((f9 * (pm_c (pm_at wk c9) (mn c9) j) : Nat) : Int)) - ((bo : Nat) : Int)))), (6, .int (nI (mn c9))), (4, .int (nI f9)), (3, .int (nI k)), (0, .ref oM), (1, .int (nI b)), (2, .int (nI c9))]) hx hb d_M_takes_123 hl (k := 3) rfl (nI_add _ 1) (by decide) rfl (fun ls hl => ?_)
            refine lv_goto (tgt := 14) hx hb d_M_takes_126 (by decide) ?_
            exact ih14 (j + 1) (pm_b (w1 (3200 * b + (k + j))) (f9 * pm_c (pm_at wk c9) (mn c9) j + bo)) _ (by omega) (by omega) (hrb.2.2 (by omega)) (pm_fr_up hF (by omega)) (by rw [pm_w_up]; exact pm_fig_upS hfg hrb.1) (fun q hq => by rw [pm_at_up, pn_up_n (by omega)]; exact hou q (by omega)) (by rw [pm_w_up, pm_V_upS, pm_P_s, pm_V_s, pm_V_s, ← hxe]; exact pm_tk2 hV hrb.2.1) _ _ _ (lv_sub hl [0, 1, 4, 5, 6, 7, 8, 9] rfl) hP hD hS
          · skip
            refine lv_iload hx hb d_M_takes_82 (lv_at hl 0 rfl) ?_
            refine lv_sipush (v := nI 10000) hx hb d_M_takes_84 (by decide) ?_
            refine lv_iadd hx hb d_M_takes_87 ?_
            refine pn_topi (nI (pm_r (w1 (3200 * b + (k + j))) (f9 * pm_c (pm_at wk c9) (mn c9) j + bo))) (by rw [← pn_I_nI 10000, pn_I_add, ← pn_I_nI]; exact congrArg pn_I (by unfold pm_r; have := htm.2.1 h_79; omega)) ?_
            refine lv_goto (tgt := 93) hx hb d_M_takes_88 (by decide) ?_
            refine lv_istore (lv' := [(9, .int (nI (pm_r (w1 (3200 * b + (k + j))) (f9 * pm_c (pm_at wk c9) (mn c9) j + bo)))), (8, .int (pn_I ((((w1 (3200 * b + (k + j)) : Nat) : Int) - ((f9 * (pm_c (pm_at wk c9) (mn c9) j) : Nat) : Int)) - ((bo : Nat) : Int)))), (7, .int (nI j)), (5, .int (nI bo)), (6, .int (nI (mn c9))), (4, .int (nI f9)), (3, .int (nI k)), (0, .ref oM), (1, .int (nI b)), (2, .int (nI c9))]) hx hb d_M_takes_93 hl (by decide) rfl (fun ls hl => ?_)
            refine lv_iload hx hb d_M_takes_95 (lv_at hl 0 rfl) ?_
            refine lv_iload hx hb d_M_takes_97 (lv_at hl 1 rfl) ?_
            refine pw_isubNZ hx hb d_M_takes_99 ?_
            refine lv_sipush (v := nI 10000) hx hb d_M_takes_100 (by decide) ?_
            refine lv_idiv hx hb d_M_takes_103 (by decide) ?_
            refine pn_topi (nI (pm_b (w1 (3200 * b + (k + j))) (f9 * pm_c (pm_at wk c9) (mn c9) j + bo))) (by rw [pm_I_tdiv (by omega) (by omega) (by decide) (by decide), ← pn_I_nI, Int.tdiv_eq_ediv_of_nonneg (by omega)]; exact congrArg pn_I (by unfold pm_b; omega)) ?_
            refine lv_istore (lv' := [(5, .int (nI (pm_b (w1 (3200 * b + (k + j))) (f9 * pm_c (pm_at wk c9) (mn c9) j + bo)))), (9, .int (nI (pm_r (w1 (3200 * b + (k + j))) (f9 * pm_c (pm_at wk c9) (mn c9) j + bo)))), (8, .int (pn_I ((((w1 (3200 * b + (k + j)) : Nat) : Int) - ((f9 * (pm_c (pm_at wk c9) (mn c9) j) : Nat) : Int)) - ((bo : Nat) : Int)))), (7, .int (nI j)), (6, .int (nI (mn c9))), (4, .int (nI f9)), (3, .int (nI k)), (0, .ref oM), (1, .int (nI b)), (2, .int (nI c9))]) hx hb d_M_takes_104 hl (by decide) rfl (fun ls hl => ?_)
            refine lv_aload_n hx hb d_M_takes_106 rfl (lv_at hl 7 rfl) ?_
            refine pw_get Fx hK hP fld_M 0 rfl 1 (by decide) kw_631 (v := .ref qW) rfl d_M_takes_107 ?_
            refine lv_sipush (v := nI 3200) hx hb d_M_takes_110 (by decide) ?_
            refine lv_iload_n hx hb d_M_takes_113 rfl (lv_at hl 8 rfl) ?_
            refine pw_imul hx hb d_M_takes_114 ?_
            refine lv_iload_n hx hb d_M_takes_115 rfl (lv_at hl 6 rfl) ?_
            refine pw_iadd hx hb d_M_takes_116 ?_
            refine lv_iload hx hb d_M_takes_117 (lv_at hl 3 rfl) ?_
            refine lv_iadd hx hb d_M_takes_119 ?_
            refine pn_topi (nI (3200 * b + (k + j))) (by rw [nI_add, Nat.add_assoc]) ?_
            refine lv_iload hx hb d_M_takes_120 (lv_at hl 1 rfl) ?_
            refine pw_iastN Fx hK hP hD hS 1 0 (g := w1) rfl rfl (k := 3200 * b + (k + j)) (by omega) (by decide) (w' := [(oM, .inr (5, [.int (nI cd), .ref qW, .ref qM, .ref qK, .ref qJ, .ref qG, .ref qH, .ref qP, .int (nI pl)])), (qW, .inl (cI, 22400, .inl (fun z9 => nI ((pn_up w1 (3200 * b + (k + j)) (pm_r (w1 (3200 * b + (k + j))) (f9 * pm_c (pm_at wk c9) (mn c9) j + bo))) z9)))), (qM, .inl (cI, 7, .inl (fun z9 => nI (mn z9))))]) rfl d_M_takes_122 (fun H locs hP hD hS => ?_)
            refine lv_iinc (v := nI (j + 1)) (lv' := [(7, .int (nI (j + 1))), (5, .int (nI (pm_b (w1 (3200 * b + (k + j))) (f9 * pm_c (pm_at wk c9) (mn c9) j + bo)))), (9, .int (nI (pm_r (w1 (3200 * b + (k + j))) (f9 * pm_c (pm_at wk c9) (mn c9) j + bo)))), (8, .int (pn_I ((((w1 (3200 * b + (k + j)) : Nat) : Int) - ((f9 * (pm_c (pm_at wk c9) (mn c9) j) : Nat) : Int)) - ((bo : Nat) : Int)))), (6, .int (nI (mn c9))), (4, .int (nI f9)), (3, .int (nI k)), (0, .ref oM), (1, .int (nI b)), (2, .int (nI c9))]) hx hb d_M_takes_123 hl (k := 3) rfl (nI_add _ 1) (by decide) rfl (fun ls hl => ?_)
            refine lv_goto (tgt := 14) hx hb d_M_takes_126 (by decide) ?_
            exact ih14 (j + 1) (pm_b (w1 (3200 * b + (k + j))) (f9 * pm_c (pm_at wk c9) (mn c9) j + bo)) _ (by omega) (by omega) (hrb.2.2 (by omega)) (pm_fr_up hF (by omega)) (by rw [pm_w_up]; exact pm_fig_upS hfg hrb.1) (fun q hq => by rw [pm_at_up, pn_up_n (by omega)]; exact hou q (by omega)) (by rw [pm_w_up, pm_V_upS, pm_P_s, pm_V_s, pm_V_s, ← hxe]; exact pm_tk2 hV hrb.2.1) _ _ _ (lv_sub hl [0, 1, 4, 5, 6, 7, 8, 9] rfl) hP hD hS
  exact loop14 _ 0 0 wk (Nat.lt_succ_self _) (Nat.zero_le _) (by omega) pm_fr_refl (fun i hi => by omega) (fun _ _ => rfl) (by simp [pm_V_0]) _ _ _ (lv_sub hl [0, 2, 1, 7, 6, 3, 4, 5] rfl) hP hD hS
