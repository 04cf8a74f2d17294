theorem pn_mult_step {g f b : Nat → Int32} {a i : Nat} {c F t : Int} (hu : g (a + i) = f (a + i)) (hV : pn_V (pn_sh g a) i + c * pn_E i = pn_V (pn_sh f a) i + F * pn_V b i) (ht : t = c + (F * pn_u (b i) + pn_u (g (a + i)))) :
    pn_V (pn_sh (upd g (a + i) (pn_I t)) a) (i + 1) + t / 4294967296 * pn_E (i + 1) = pn_V (pn_sh f a) (i + 1) + F * pn_V b (i + 1) := by
  rw [pn_sh_upd, pn_put hV]
  simp only [pn_V_s]
  have e : pn_sh f a i = g (a + i) := hu.symm
  rw [e, ht]
  grind
theorem pn_prod_step {g u fa fb : Nat → Int32} {i nb : Nat} {c : Int} (hc0 : 0 ≤ c) (hc : c < 4294967296) (hu : ∀ j, (j < i ∨ i + nb ≤ j) → u j = g j) (h1 : pn_V (pn_sh u i) nb + c * pn_E nb = pn_V (pn_sh g i) nb + pn_u (fa i) * pn_V fb nb) (hV : pn_V g (i + nb) = pn_V fa i * pn_V fb nb) :
    pn_V (upd u (i + nb) (pn_I c)) (i + 1 + nb) = pn_V fa (i + 1) * pn_V fb nb := by
  rw [show i + 1 + nb = (i + nb) + 1 by omega, pn_V_upS, pn_u_Ilt hc0 hc, pn_V_sh, pn_E_add, pn_V_s]
  rw [pn_V_sh] at hV
  have e : pn_V u i = pn_V g i := pn_V_congr (fun j hj => hu j (Or.inl hj))
  rw [e]
  have e2 : pn_V (pn_sh u i) nb = pn_V (pn_sh g i) nb + pn_u (fa i) * pn_V fb nb - c * pn_E nb := by omega
  rw [e2]
  grind
theorem pn_t_bd {c F x o : Int} (hc0 : 0 ≤ c) (hc : c < 4294967296) (hF0 : 0 ≤ F) (hF : F < 4294967296) (hx0 : 0 ≤ x) (hx : x < 4294967296) (ho0 : 0 ≤ o) (ho : o < 4294967296) : 0 ≤ c + (F * x + o) ∧ c + (F * x + o) < 18446744073709551616 := by
  have h := pn_prod_le hF0 (show F ≤ 4294967295 by omega) hx0 (show x ≤ 4294967295 by omega)
  omega
theorem pn_from {f : Nat → Int32} {n K r : Nat} (hr : r < 32) (hv : pn_V f n < 2 ^ (32 * K + r + 62)) :
    pn_V f n / 2 ^ (32 * K + r) = (pn_u (pn_cut f n K) + pn_u (pn_cut f n (K + 1)) * 4294967296 + pn_u (pn_cut f n (K + 2)) * 18446744073709551616) / 2 ^ r ∧ pn_u (pn_cut f n K) + pn_u (pn_cut f n (K + 1)) * 4294967296 + pn_u (pn_cut f n (K + 2)) * 18446744073709551616 < 2 ^ (r + 62) := by
  have hE := pn_E_pos K
  obtain ⟨m, hm1, hm2⟩ : ∃ m, n ≤ K + 3 + m ∧ m = n := ⟨n, by omega, rfl⟩
  have e0 : pn_V f n = pn_V (pn_cut f n) (K + 3 + m) := (pn_V_cut hm1).symm
  have e1 := pn_V_add (pn_cut f n) K (3 + m)
  have e2 := pn_V_add (fun i => pn_cut f n (K + i)) 3 m
  rw [show K + (3 + m) = K + 3 + m by omega, ← e0] at e1
  rw [e2] at e1
  have e3 : pn_V (fun i => pn_cut f n (K + i)) 3 = pn_u (pn_cut f n K) + pn_u (pn_cut f n (K + 1)) * 4294967296 + pn_u (pn_cut f n (K + 2)) * 18446744073709551616 := by
    rw [pn_V_s, pn_V_s, pn_V_s, pn_V_0, pn_E_0, pn_E_1, show pn_E 2 = 18446744073709551616 from rfl, Nat.add_zero]
    omega
  rw [e3] at e1
  have e4 : pn_E 3 = 79228162514264337593543950336 := rfl
  rw [e4] at e1
  have l0 := pn_V_nonneg (pn_cut f n) K
  have l1 := pn_V_lt (pn_cut f n) K
  have hi := pn_V_nonneg (fun i => pn_cut f n (K + (3 + i))) m
  have u1 := pn_u_nonneg (pn_cut f n K)
  have u2 := pn_u_nonneg (pn_cut f n (K + 1))
  have u3 := pn_u_nonneg (pn_cut f n (K + 2))
  generalize pn_V (fun i => pn_cut f n (K + (3 + i))) m = h at *
  generalize pn_V (pn_cut f n) K = lo at *
  generalize hX : pn_u (pn_cut f n K) + pn_u (pn_cut f n (K + 1)) * 4294967296 + pn_u (pn_cut f n (K + 2)) * 18446744073709551616 = X at *
  have p1 : (2 : Int) ^ (32 * K + r + 62) = pn_E K * 2 ^ (r + 62) := by rw [show 32 * K + r + 62 = 32 * K + (r + 62) by omega, Int.pow_add, ← pn_E_two]
  rw [p1] at hv
  have q1 : pn_V f n / pn_E K = X + 79228162514264337593543950336 * h := by
    rw [e1, Int.add_mul_ediv_left _ _ (by omega), Int.ediv_eq_zero_of_lt l0 l1]
    omega
  have q2 : pn_V f n / pn_E K < 2 ^ (r + 62) := Int.ediv_lt_of_lt_mul hE (by rw [Int.mul_comm]; exact hv)
  have q3 : (2 : Int) ^ (r + 62) ≤ 9903520314283042199192993792 := by
    rw [pn_two]
    have := Nat.pow_le_pow_right (n := 2) (by decide) (show r + 62 ≤ 93 by omega)
    omega
  have h0 : h = 0 := by
    rw [q1] at q2
    omega
  rw [h0, Int.mul_zero, Int.add_zero] at q1
  refine ⟨?_, by rw [← q1]; exact q2⟩
  rw [Int.pow_add, ← pn_E_two, ← Int.ediv_ediv_of_nonneg (Int.le_of_lt hE), q1]
theorem pn_from_r {low z : Int} {r : Nat} (hr : r ≤ 32) : (low + z * 18446744073709551616) / 2 ^ r = z * 2 ^ (64 - r) + low / 2 ^ r := by
  have e : z * 18446744073709551616 = 2 ^ r * (z * 2 ^ (64 - r)) := by
    have : (18446744073709551616 : Int) = 2 ^ r * 2 ^ (64 - r) := by rw [← Int.pow_add, show r + (64 - r) = 64 by omega]; rfl
    rw [this]
    grind
  have hp : (0 : Int) < 2 ^ r := by rw [pn_two]; have := Nat.two_pow_pos r; omega
  rw [e, Int.add_mul_ediv_left _ _ (by omega)]
  omega
theorem pn_from_bd {low z : Int} {r : Nat} (hr0 : 0 < r) (hr : r < 32) (hl0 : 0 ≤ low) (hl : low < 18446744073709551616) (hz : 0 ≤ z) (h : low + z * 18446744073709551616 < 2 ^ (r + 62)) : z * 2 ^ (64 - r) < 18446744073709551616 ∧ 0 ≤ low / 2 ^ r ∧ low / 2 ^ r < 2 ^ (64 - r) := by
  have hp : (0 : Int) < 2 ^ r := by rw [pn_two]; have := Nat.two_pow_pos r; omega
  have hq : (0 : Int) < 2 ^ (64 - r) := by rw [pn_two]; have := Nat.two_pow_pos (64 - r); omega
  have e : (18446744073709551616 : Int) = 2 ^ (64 - r) * 2 ^ r := by rw [← Int.pow_add, show (64 - r) + r = 64 by omega]; rfl
  refine ⟨?_, Int.ediv_nonneg hl0 (by omega), Int.ediv_lt_of_lt_mul hp (by rw [← e]; exact hl)⟩
  have e2 : (2 : Int) ^ (r + 62) = 2 ^ r * 2 ^ 62 := Int.pow_add _ _ _
  have h3 : 2 ^ r * (z * 2 ^ (64 - r)) < 2 ^ r * 2 ^ 62 := by
    rw [← e2]
    have : 2 ^ r * (z * 2 ^ (64 - r)) = z * 18446744073709551616 := by rw [e]; grind
    omega
  have h4 := Int.lt_of_mul_lt_mul_left h3 (by omega)
  omega

set_option maxHeartbeats 4000000 in
set_option maxRecDepth 100000 in
theorem c_R_addMultiple (l : Launch) (D : va_G) (cI cZ cB cJ : ClassId) (sz : Nat) (ot qt : Nat) (ft : Nat → Int32) (nt : Nat) (bt : Bool) (ob qb : Nat) (fb : Nat → Int32) (nb : Nat) (bb : Bool) (F : Int) (at_ : Nat) (hF0 : 0 ≤ F) (hF : F < 4294967296) (hat : at_ + nb ≤ 632) : pn_Ci l D (pn_ty cI cZ cB cJ) y_R_addMultiple w_R_addMultiple ({ frames := 0, cells := 0, slots := 0, locals := 0 } : Room) [.ref ot, .ref ob, .long (pn_L F), .int (nI at_)] [(ot, .inr (1, [.ref qt, .int (nI nt), .int (pn_b bt)])), (qt, .inl (cI, 632, .inl ft)), (ob, .inr (1, [.ref qb, .int (nI nb), .int (pn_b bb)])), (qb, .inl (cI, 632, .inl fb))] sz (S := Nat → Int32) (fun r g => ∃ k : Int, r = pn_I k ∧ 0 ≤ k ∧ k < 4294967296 ∧ (∀ j, (j < at_ ∨ at_ + nb ≤ j) → g j = ft j) ∧ pn_V (pn_sh g at_) nb + k * pn_E nb = pn_V (pn_sh ft at_) nb + F * pn_V fb nb) (fun g => [(ot, .inr (1, [.ref qt, .int (nI nt), .int (pn_b bt)])), (qt, .inl (cI, 632, .inl g)), (ob, .inr (1, [.ref qb, .int (nI nb), .int (pn_b bb)])), (qb, .inl (cI, 632, .inl fb))]) := by
  refine pn_start (by decide) (Nat.le_of_ble_eq_true rfl) ?_
  intro p e s m below meth c A Q ls hQ hAe Fx hr hlocks hN hK hP hD hS hA hl
  have hx := Fx.1
  have hb := Fx.2.1
  have hl : lv_has ls 8 [(0, .ref ot), (1, .ref ob), (2, .long (pn_L F)), (4, .int (nI at_))] := hl
  refine lv_lconst (v := pn_L 0) hx hb d_R_addMultiple_0 (by decide) ?_
  refine lv_lstore (lv' := [(5, .long (pn_L 0)), (0, .ref ot), (1, .ref ob), (2, .long (pn_L F)), (4, .int (nI at_))]) hx hb d_R_addMultiple_1 hl (by decide) rfl (fun ls hl => ?_)
  refine lv_iconst (v := nI 0) hx hb d_R_addMultiple_3 (by decide) ?_
  refine lv_istore (lv' := [(7, .int (nI 0)), (5, .long (pn_L 0)), (0, .ref ot), (1, .ref ob), (2, .long (pn_L F)), (4, .int (nI at_))]) hx hb d_R_addMultiple_4 hl (by decide) rfl (fun ls hl => ?_)
  have loop6 : ∀ (N : Nat) (i : Nat) (g : Nat → Int32) (c0 : Int), nb - i < N → (i ≤ nb) → (0 ≤ c0 ∧ c0 < 4294967296) → (∀ j, (j < at_ ∨ at_ + i ≤ j) → g j = ft j) → (pn_V (pn_sh g at_) i + c0 * pn_E i = pn_V (pn_sh ft at_) i + F * pn_V fb i) → ∀ (H : Heap) (locs : List Loc) (ls : Array Slot), lv_has ls 8 [(7, .int (nI i)), (5, .long (pn_L c0)), (0, .ref ot), (1, .ref ob), (2, .long (pn_L F)), (4, .int (nI at_))] → va_P D pn_cl [(ot, .inr (1, [.ref qt, .int (nI nt), .int (pn_b bt)])), (qt, .inl (cI, 632, .inl g)), (ob, .inr (1, [.ref qb, .int (nI nb), .int (pn_b bb)])), (qb, .inl (cI, 632, .inl fb))] H → va_D A [(ot, .inr (1, [.ref qt, .int (nI nt), .int (pn_b bt)])), (qt, .inl (cI, 632, .inl g)), (ob, .inr (1, [.ref qb, .int (nI nb), .int (pn_b bb)])), (qb, .inl (cI, 632, .inl fb))] → va_S A s.heap H locs → W p l e ({ frames := 0, cells := 0, slots := 0, locals := 0 } : Room) s m ([.ref ot, .ref ob, .long (pn_L F), .int (nI at_)] : List Value).toArray below meth c H locs 0 0 Q (F0 m 6 ls []) := by
    intro N
    induction N with
    | zero => intro i g c0 hM; exact absurd hM (Nat.not_lt_zero _)
    | succ N ih6 =>
      intro i g c0 hM6 hi hc hu hV H locs ls hl hP hD hS
      refine lv_iload hx hb d_R_addMultiple_6 (lv_at hl 0 rfl) ?_
      refine lv_aload_n hx hb d_R_addMultiple_8 rfl (lv_at hl 3 rfl) ?_
      refine pw_get Fx hK hP fld_R 2 rfl 1 (by decide) kw_93 (v := .int (nI nb)) rfl d_R_addMultiple_9 ?_
      refine pw_icmp_ge (a := i) (b := nb) (tgt := 76) hx hb d_R_addMultiple_12 (by decide) (by omega) (by omega) (fun h_12 => ?_) (fun h_12 => ?_)
      · skip
        obtain rfl : nb = i := by omega
        refine lv_lload hx hb d_R_addMultiple_76 (lv_at hl 1 rfl) ?_
        refine pw_l2i hx hb d_R_addMultiple_78 ?_
        exact pn_reti (g) Fx hr hlocks hQ hAe hP hD hS (by (try dsimp only); first | done | exact (⟨c0, rfl, hc.1, hc.2, hu, hV⟩)) d_R_addMultiple_79
      · skip
        refine lv_lload hx hb d_R_addMultiple_15 (lv_at hl 1 rfl) ?_
        refine lv_lload_n hx hb d_R_addMultiple_17 rfl (lv_at hl 4 rfl) ?_
        refine lv_aload_n hx hb d_R_addMultiple_18 rfl (lv_at hl 3 rfl) ?_
        refine pw_get Fx hK hP fld_R 2 rfl 0 (by decide) kw_89 (v := .ref qb) rfl d_R_addMultiple_19 ?_
        refine lv_iload hx hb d_R_addMultiple_22 (lv_at hl 0 rfl) ?_
        refine pw_iald Fx hK hP 3 0 (f := fb) rfl rfl (k := i) (by omega) (by decide) d_R_addMultiple_24 ?_
        refine pw_i2l hx hb d_R_addMultiple_25 ?_
        refine lv_ldc2 hx hb Fx.2.2.2.1 (Fx.2.2.2.2 _ kw_365) d_R_addMultiple_26 ?_
        refine pw_limb hx hb d_R_addMultiple_29 ?_
        refine pw_lmul hx hb d_R_addMultiple_30 ?_
        refine lv_aload_n hx hb d_R_addMultiple_31 rfl (lv_at hl 2 rfl) ?_
        refine pw_get Fx hK hP fld_R 0 rfl 0 (by decide) kw_89 (v := .ref qt) rfl d_R_addMultiple_32 ?_
        refine lv_iload hx hb d_R_addMultiple_35 (lv_at hl 5 rfl) ?_
        refine lv_iload hx hb d_R_addMultiple_37 (lv_at hl 0 rfl) ?_
        refine pw_iadd hx hb d_R_addMultiple_39 ?_
        refine pw_iald Fx hK hP 1 0 (f := g) rfl rfl (k := at_ + i) (by omega) (by decide) d_R_addMultiple_40 ?_
        refine pw_i2l hx hb d_R_addMultiple_41 ?_
        refine lv_ldc2 hx hb Fx.2.2.2.1 (Fx.2.2.2.2 _ kw_365) d_R_addMultiple_42 ?_
        refine pw_limb hx hb d_R_addMultiple_45 ?_
        refine pw_ladd hx hb d_R_addMultiple_46 ?_
        have tb := pn_t_bd hc.1 hc.2 hF0 hF (pn_u_nonneg (fb i)) (pn_u_lt (fb i)) (pn_u_nonneg (g (at_ + i))) (pn_u_lt (g (at_ + i)))
        obtain ⟨t, ht⟩ : ∃ t, t = c0 + (F * pn_u (fb i) + pn_u (g (at_ + i))) := ⟨_, rfl⟩
        rw [← ht] at tb
        refine pw_ladd hx hb d_R_addMultiple_47 ?_
        refine pn_topl (pn_L t) (by rw [ht]) ?_
        refine lv_lstore (lv' := [(5, .long (pn_L t)), (7, .int (nI i)), (0, .ref ot), (1, .ref ob), (2, .long (pn_L F)), (4, .int (nI at_))]) hx hb d_R_addMultiple_48 hl (by decide) rfl (fun ls hl => ?_)
        refine lv_aload_n hx hb d_R_addMultiple_50 rfl (lv_at hl 2 rfl) ?_
        refine pw_get Fx hK hP fld_R 0 rfl 0 (by decide) kw_89 (v := .ref qt) rfl d_R_addMultiple_51 ?_
        refine lv_iload hx hb d_R_addMultiple_54 (lv_at hl 5 rfl) ?_
        refine lv_iload hx hb d_R_addMultiple_56 (lv_at hl 1 rfl) ?_
        refine pw_iadd hx hb d_R_addMultiple_58 ?_
        refine lv_lload hx hb d_R_addMultiple_59 (lv_at hl 0 rfl) ?_
        refine pw_l2i hx hb d_R_addMultiple_61 ?_
        refine pw_iast Fx hK hP hD hS 1 0 (f := g) rfl rfl (k := at_ + i) (by omega) (by decide) (w' := [(ot, .inr (1, [.ref qt, .int (nI nt), .int (pn_b bt)])), (qt, .inl (cI, 632, .inl (upd g (at_ + i) (pn_I t)))), (ob, .inr (1, [.ref qb, .int (nI nb), .int (pn_b bb)])), (qb, .inl (cI, 632, .inl fb))]) rfl d_R_addMultiple_62 (fun H locs hP hD hS => ?_)
        refine lv_lload hx hb d_R_addMultiple_63 (lv_at hl 0 rfl) ?_
        refine lv_bipush (v := 32) hx hb d_R_addMultiple_65 (by decide) ?_
        refine pw_lushr32 hx hb d_R_addMultiple_67 (by omega) (by omega) ?_
        refine lv_lstore (lv' := [(5, .long (pn_L (t / 4294967296))), (7, .int (nI i)), (0, .ref ot), (1, .ref ob), (2, .long (pn_L F)), (4, .int (nI at_))]) hx hb d_R_addMultiple_68 hl (by decide) rfl (fun ls hl => ?_)
        refine lv_iinc (v := nI (i + 1)) (lv' := [(7, .int (nI (i + 1))), (5, .long (pn_L (t / 4294967296))), (0, .ref ot), (1, .ref ob), (2, .long (pn_L F)), (4, .int (nI at_))]) hx hb d_R_addMultiple_70 hl (k := 1) rfl (nI_add _ 1) (by decide) rfl (fun ls hl => ?_)
        refine lv_goto (tgt := 6) hx hb d_R_addMultiple_73 (by decide) ?_
        exact ih6 (i + 1) _ (t / 4294967296) (by omega) (by omega) (by omega) (fun j h => by rw [pk_un (by omega)]; exact hu j (by omega)) (pn_mult_step (hu _ (by omega)) hV ht) _ _ _ hl hP hD hS
  exact loop6 _ 0 ft 0 (Nat.lt_succ_self _) (Nat.zero_le _) (by decide) (fun j _ => rfl) (by simp [pn_V_0]) _ _ _ hl hP hD hS

set_option maxHeartbeats 4000000 in
set_option maxRecDepth 100000 in
theorem c_R_becomeProduct (l : Launch) (D : va_G) (cI cZ cB cJ : ClassId) (sz : Nat) (ot qt : Nat) (ft : Nat → Int32) (nt : Nat) (bt : Bool) (oa qa : Nat) (fa : Nat → Int32) (na : Nat) (ba : Bool) (ob qb : Nat) (fb : Nat → Int32) (nb : Nat) (bb : Bool) (hab : na + nb ≤ 632) : pn_Cv l D (pn_ty cI cZ cB cJ) y_R_becomeProduct w_R_becomeProduct ({ frames := 1, cells := 0, slots := 0, locals := 40 } : Room) [.ref ot, .ref oa, .ref ob] [(ot, .inr (1, [.ref qt, .int (nI nt), .int (pn_b bt)])), (qt, .inl (cI, 632, .inl ft)), (oa, .inr (1, [.ref qa, .int (nI na), .int (pn_b ba)])), (qa, .inl (cI, 632, .inl fa)), (ob, .inr (1, [.ref qb, .int (nI nb), .int (pn_b bb)])), (qb, .inl (cI, 632, .inl fb))] sz (S := (Nat → Int32) × Nat × Bool) (fun u => u.2.1 ≤ na + nb ∧ pn_V u.1 u.2.1 = pn_V fa na * pn_V fb nb ∧ pn_nz u.1 u.2.1 ∧ u.2.2 = ((ba != bb) && decide (0 < u.2.1))) (fun u => [(ot, .inr (1, [.ref qt, .int (nI u.2.1), .int (pn_b u.2.2)])), (qt, .inl (cI, 632, .inl u.1)), (oa, .inr (1, [.ref qa, .int (nI na), .int (pn_b ba)])), (qa, .inl (cI, 632, .inl fa)), (ob, .inr (1, [.ref qb, .int (nI nb), .int (pn_b bb)])), (qb, .inl (cI, 632, .inl fb))]) := by
  refine pn_start (by decide) (Nat.le_of_ble_eq_true rfl) ?_
  intro p e s m below meth c A Q ls hQ hAe Fx hr hlocks hN hK hP hD hS hA hl
  have hx := Fx.1
  have hb := Fx.2.1
  have hl : lv_has ls 5 [(0, .ref ot), (1, .ref oa), (2, .ref ob)] := hl
  refine lv_aload_n hx hb d_R_becomeProduct_0 rfl (lv_at hl 1 rfl) ?_
  refine pw_get Fx hK hP fld_R 2 rfl 1 (by decide) kw_93 (v := .int (nI na)) rfl d_R_becomeProduct_1 ?_
  refine lv_aload_n hx hb d_R_becomeProduct_4 rfl (lv_at hl 2 rfl) ?_
  refine pw_get Fx hK hP fld_R 4 rfl 1 (by decide) kw_93 (v := .int (nI nb)) rfl d_R_becomeProduct_5 ?_
  refine pw_iadd hx hb d_R_becomeProduct_8 ?_
  refine lv_istore_n (lv' := [(3, .int (nI (na + nb))), (0, .ref ot), (1, .ref oa), (2, .ref ob)]) hx hb d_R_becomeProduct_9 rfl hl (by decide) rfl (fun ls hl => ?_)
  refine lv_aload_n hx hb d_R_becomeProduct_10 rfl (lv_at hl 1 rfl) ?_
  refine lv_iconst (v := nI 0) hx hb d_R_becomeProduct_11 (by decide) ?_
  refine lv_iload_n hx hb d_R_becomeProduct_12 rfl (lv_at hl 0 rfl) ?_
  refine pn_bv (wr := [(oa, .inr (1, [.ref qa, .int (nI na), .int (pn_b ba)])), (qa, .inl (cI, 632, .inl fa)), (ob, .inr (1, [.ref qb, .int (nI nb), .int (pn_b bb)])), (qb, .inl (cI, 632, .inl fb))]) [0, 1] [2, 3, 4, 5] hP hD hS hA (pn_rV [.int (nI 0), .int (nI (na + nb))] [] Fx hK hN hP hD [0, 1] rfl rfl (c_R_clear l D cI cZ cB cJ _ ot qt ft nt 0 (na + nb) bt (by omega) (by omega)) kw_396 cal_R_clear inst_R_clear sel_R_clear ⟨by decide, by decide⟩ ⟨rfl, rfl⟩ 0 rfl rfl rfl rfl hl.1 (Nat.le_of_ble_eq_true rfl) d_R_becomeProduct_13 ⟨Nat.zero_le _, Nat.zero_le _⟩) rfl rfl rfl (by decide) (fun u_13 H locs hw hP hD hS => ?_)
  have hP : va_P D pn_cl [(oa, .inr (1, [.ref qa, .int (nI na), .int (pn_b ba)])), (qa, .inl (cI, 632, .inl fa)), (ob, .inr (1, [.ref qb, .int (nI nb), .int (pn_b bb)])), (qb, .inl (cI, 632, .inl fb)), (ot, .inr (1, [.ref qt, .int (nI nt), .int (pn_b bt)])), (qt, .inl (cI, 632, .inl u_13))] H := hP
  have hD : va_D A [(oa, .inr (1, [.ref qa, .int (nI na), .int (pn_b ba)])), (qa, .inl (cI, 632, .inl fa)), (ob, .inr (1, [.ref qb, .int (nI nb), .int (pn_b bb)])), (qb, .inl (cI, 632, .inl fb)), (ot, .inr (1, [.ref qt, .int (nI nt), .int (pn_b bt)])), (qt, .inl (cI, 632, .inl u_13))] := hD
  refine lv_iconst (v := nI 0) hx hb d_R_becomeProduct_16 (by decide) ?_
  refine lv_istore (lv' := [(4, .int (nI 0)), (3, .int (nI (na + nb))), (0, .ref ot), (1, .ref oa), (2, .ref ob)]) hx hb d_R_becomeProduct_17 hl (by decide) rfl (fun ls hl => ?_)
  have loop19 : ∀ (N : Nat) (i : Nat) (g : Nat → Int32), na - i < N → (i ≤ na) → (∀ j, i + nb ≤ j → j < na + nb → g j = 0) → (pn_V g (i + nb) = pn_V fa i * pn_V fb nb) → ∀ (H : Heap) (locs : List Loc) (ls : Array Slot), lv_has ls 5 [(4, .int (nI i)), (3, .int (nI (na + nb))), (0, .ref ot), (1, .ref oa), (2, .ref ob)] → va_P D pn_cl [(ot, .inr (1, [.ref qt, .int (nI nt), .int (pn_b bt)])), (qt, .inl (cI, 632, .inl g)), (oa, .inr (1, [.ref qa, .int (nI na), .int (pn_b ba)])), (qa, .inl (cI, 632, .inl fa)), (ob, .inr (1, [.ref qb, .int (nI nb), .int (pn_b bb)])), (qb, .inl (cI, 632, .inl fb))] H → va_D A [(ot, .inr (1, [.ref qt, .int (nI nt), .int (pn_b bt)])), (qt, .inl (cI, 632, .inl g)), (oa, .inr (1, [.ref qa, .int (nI na), .int (pn_b ba)])), (qa, .inl (cI, 632, .inl fa)), (ob, .inr (1, [.ref qb, .int (nI nb), .int (pn_b bb)])), (qb, .inl (cI, 632, .inl fb))] → va_S A s.heap H locs → W p l e ({ frames := 1, cells := 0, slots := 0, locals := 40 } : Room) s m ([.ref ot, .ref oa, .ref ob] : List Value).toArray below meth c H locs 0 0 Q (F0 m 19 ls []) := by
    intro N
    induction N with
    | zero => intro i g hM; exact absurd hM (Nat.not_lt_zero _)
    | succ N ih19 =>
      intro i g hM19 hi hz hV H locs ls hl hP hD hS
      refine lv_iload hx hb d_R_becomeProduct_19 (lv_at hl 0 rfl) ?_
      refine lv_aload_n hx hb d_R_becomeProduct_21 rfl (lv_at hl 3 rfl) ?_
      refine pw_get Fx hK hP fld_R 2 rfl 1 (by decide) kw_93 (v := .int (nI na)) rfl d_R_becomeProduct_22 ?_
      refine pw_icmp_ge (a := i) (b := na) (tgt := 65) hx hb d_R_becomeProduct_25 (by decide) (by omega) (by omega) (fun h_25 => ?_) (fun h_25 => ?_)
      · skip
        obtain rfl : na = i := by omega
        refine lv_aload_n hx hb d_R_becomeProduct_65 rfl (lv_at hl 2 rfl) ?_
        refine lv_iload_n hx hb d_R_becomeProduct_66 rfl (lv_at hl 1 rfl) ?_
        refine pn_bv (wr := [(oa, .inr (1, [.ref qa, .int (nI na), .int (pn_b ba)])), (qa, .inl (cI, 632, .inl fa)), (ob, .inr (1, [.ref qb, .int (nI nb), .int (pn_b bb)])), (qb, .inl (cI, 632, .inl fb))]) [0, 1] [2, 3, 4, 5] hP hD hS hA (pn_rV [.int (nI (na + nb))] [] Fx hK hN hP hD [0, 1] rfl rfl (c_R_fit l D cI cZ cB cJ _ ot qt g nt (na + nb) bt (by omega)) kw_226 cal_R_fit inst_R_fit sel_R_fit ⟨by decide, by decide⟩ ⟨rfl, rfl⟩ 0 rfl rfl rfl rfl hl.1 (Nat.le_of_ble_eq_true rfl) d_R_becomeProduct_67 ⟨Nat.zero_le _, Nat.zero_le _⟩) rfl rfl rfl (by decide) (fun u_67 H locs hw hP hD hS => ?_)
        obtain ⟨hj, hVj, hzj⟩ := hw
        have hP : va_P D pn_cl [(oa, .inr (1, [.ref qa, .int (nI na), .int (pn_b ba)])), (qa, .inl (cI, 632, .inl fa)), (ob, .inr (1, [.ref qb, .int (nI nb), .int (pn_b bb)])), (qb, .inl (cI, 632, .inl fb)), (ot, .inr (1, [.ref qt, .int (nI u_67), .int (pn_b false)])), (qt, .inl (cI, 632, .inl g))] H := hP
        have hD : va_D A [(oa, .inr (1, [.ref qa, .int (nI na), .int (pn_b ba)])), (qa, .inl (cI, 632, .inl fa)), (ob, .inr (1, [.ref qb, .int (nI nb), .int (pn_b bb)])), (qb, .inl (cI, 632, .inl fb)), (ot, .inr (1, [.ref qt, .int (nI u_67), .int (pn_b false)])), (qt, .inl (cI, 632, .inl g))] := hD
        refine lv_aload_n hx hb d_R_becomeProduct_70 rfl (lv_at hl 2 rfl) ?_
        refine lv_aload_n hx hb d_R_becomeProduct_71 rfl (lv_at hl 3 rfl) ?_
        refine pw_get Fx hK hP fld_R 0 rfl 2 (by decide) kw_99 (v := .int (pn_b ba)) rfl d_R_becomeProduct_72 ?_
        refine lv_aload_n hx hb d_R_becomeProduct_75 rfl (lv_at hl 4 rfl) ?_
        refine pw_get Fx hK hP fld_R 2 rfl 2 (by decide) kw_99 (v := .int (pn_b bb)) rfl d_R_becomeProduct_76 ?_
        refine pw_icmpb_eq (tgt := 86) hx hb d_R_becomeProduct_79 (by decide) (fun h_79 => ?_) (fun h_79 => ?_)
        · skip
          have hxx : (ba != bb) = false := by rw [h_79]; simp
          refine lv_iconst (v := pn_b false) hx hb d_R_becomeProduct_86 (by decide) ?_
          refine pn_bv (wr := [(oa, .inr (1, [.ref qa, .int (nI na), .int (pn_b ba)])), (qa, .inl (cI, 632, .inl fa)), (ob, .inr (1, [.ref qb, .int (nI nb), .int (pn_b bb)])), (qb, .inl (cI, 632, .inl fb))]) [4, 5] [0, 1, 2, 3] hP hD hS hA (pn_rV [.int (pn_b false)] [] Fx hK hN hP hD [4, 5] rfl rfl (c_R_turnBelowIf l D cI cZ cB cJ _ ot qt g u_67 false false (by omega)) kw_294 cal_R_turnBelowIf inst_R_turnBelowIf sel_R_turnBelowIf ⟨by decide, by decide⟩ ⟨rfl, rfl⟩ 0 rfl rfl rfl rfl hl.1 (Nat.le_of_ble_eq_true rfl) d_R_becomeProduct_87 ⟨Nat.zero_le _, Nat.zero_le _⟩) rfl rfl rfl (by decide) (fun u_87 H locs hw hP hD hS => ?_)
          have hP : va_P D pn_cl [(oa, .inr (1, [.ref qa, .int (nI na), .int (pn_b ba)])), (qa, .inl (cI, 632, .inl fa)), (ob, .inr (1, [.ref qb, .int (nI nb), .int (pn_b bb)])), (qb, .inl (cI, 632, .inl fb)), (ot, .inr (1, [.ref qt, .int (nI u_67), .int (pn_b u_87)])), (qt, .inl (cI, 632, .inl g))] H := hP
          have hD : va_D A [(oa, .inr (1, [.ref qa, .int (nI na), .int (pn_b ba)])), (qa, .inl (cI, 632, .inl fa)), (ob, .inr (1, [.ref qb, .int (nI nb), .int (pn_b bb)])), (qb, .inl (cI, 632, .inl fb)), (ot, .inr (1, [.ref qt, .int (nI u_67), .int (pn_b u_87)])), (qt, .inl (cI, 632, .inl g))] := hD
          exact pn_retv ((g, u_67, u_87)) Fx hr hlocks hQ hAe (hP.sub [4, 5, 0, 1, 2, 3] rfl) (hD.sub [4, 5, 0, 1, 2, 3] (by decide) rfl) hS (by (try dsimp only); first | done | exact (⟨hj, by rw [hVj]; exact hV, hzj, by rw [hxx]; exact hw⟩)) d_R_becomeProduct_90
        · skip
          have hxx : (ba != bb) = true := by simp [h_79]
          refine lv_iconst (v := pn_b true) hx hb d_R_becomeProduct_82 (by decide) ?_
          refine lv_goto (tgt := 87) hx hb d_R_becomeProduct_83 (by decide) ?_
          refine pn_bv (wr := [(oa, .inr (1, [.ref qa, .int (nI na), .int (pn_b ba)])), (qa, .inl (cI, 632, .inl fa)), (ob, .inr (1, [.ref qb, .int (nI nb), .int (pn_b bb)])), (qb, .inl (cI, 632, .inl fb))]) [4, 5] [0, 1, 2, 3] hP hD hS hA (pn_rV [.int (pn_b true)] [] Fx hK hN hP hD [4, 5] rfl rfl (c_R_turnBelowIf l D cI cZ cB cJ _ ot qt g u_67 false true (by omega)) kw_294 cal_R_turnBelowIf inst_R_turnBelowIf sel_R_turnBelowIf ⟨by decide, by decide⟩ ⟨rfl, rfl⟩ 0 rfl rfl rfl rfl hl.1 (Nat.le_of_ble_eq_true rfl) d_R_becomeProduct_87 ⟨Nat.zero_le _, Nat.zero_le _⟩) rfl rfl rfl (by decide) (fun u_87 H locs hw hP hD hS => ?_)
          have hP : va_P D pn_cl [(oa, .inr (1, [.ref qa, .int (nI na), .int (pn_b ba)])), (qa, .inl (cI, 632, .inl fa)), (ob, .inr (1, [.ref qb, .int (nI nb), .int (pn_b bb)])), (qb, .inl (cI, 632, .inl fb)), (ot, .inr (1, [.ref qt, .int (nI u_67), .int (pn_b u_87)])), (qt, .inl (cI, 632, .inl g))] H := hP
          have hD : va_D A [(oa, .inr (1, [.ref qa, .int (nI na), .int (pn_b ba)])), (qa, .inl (cI, 632, .inl fa)), (ob, .inr (1, [.ref qb, .int (nI nb), .int (pn_b bb)])), (qb, .inl (cI, 632, .inl fb)), (ot, .inr (1, [.ref qt, .int (nI u_67), .int (pn_b u_87)])), (qt, .inl (cI, 632, .inl g))] := hD
          exact pn_retv ((g, u_67, u_87)) Fx hr hlocks hQ hAe (hP.sub [4, 5, 0, 1, 2, 3] rfl) (hD.sub [4, 5, 0, 1, 2, 3] (by decide) rfl) hS (by (try dsimp only); first | done | exact (⟨hj, by rw [hVj]; exact hV, hzj, by rw [hxx]; exact hw⟩)) d_R_becomeProduct_90
      · skip
        refine lv_aload_n hx hb d_R_becomeProduct_28 rfl (lv_at hl 2 rfl) ?_
        refine pw_get Fx hK hP fld_R 0 rfl 0 (by decide) kw_89 (v := .ref qt) rfl d_R_becomeProduct_29 ?_
        refine lv_iload hx hb d_R_becomeProduct_32 (lv_at hl 0 rfl) ?_
        refine lv_aload_n hx hb d_R_becomeProduct_34 rfl (lv_at hl 4 rfl) ?_
        refine pw_get Fx hK hP fld_R 4 rfl 1 (by decide) kw_93 (v := .int (nI nb)) rfl d_R_becomeProduct_35 ?_
        refine pw_iadd hx hb d_R_becomeProduct_38 ?_
        refine lv_aload_n hx hb d_R_becomeProduct_39 rfl (lv_at hl 2 rfl) ?_
        refine lv_aload_n hx hb d_R_becomeProduct_40 rfl (lv_at hl 4 rfl) ?_
        refine lv_aload_n hx hb d_R_becomeProduct_41 rfl (lv_at hl 3 rfl) ?_
        refine pw_get Fx hK hP fld_R 2 rfl 0 (by decide) kw_89 (v := .ref qa) rfl d_R_becomeProduct_42 ?_
        refine lv_iload hx hb d_R_becomeProduct_45 (lv_at hl 0 rfl) ?_
        refine pw_iald Fx hK hP 3 0 (f := fa) rfl rfl (k := i) (by omega) (by decide) d_R_becomeProduct_47 ?_
        refine pw_i2l hx hb d_R_becomeProduct_48 ?_
        refine lv_ldc2 hx hb Fx.2.2.2.1 (Fx.2.2.2.2 _ kw_365) d_R_becomeProduct_49 ?_
        refine pw_limb hx hb d_R_becomeProduct_52 ?_
        refine lv_iload hx hb d_R_becomeProduct_53 (lv_at hl 0 rfl) ?_
        refine pn_bi (wr := [(oa, .inr (1, [.ref qa, .int (nI na), .int (pn_b ba)])), (qa, .inl (cI, 632, .inl fa))]) [0, 1, 4, 5] [2, 3] hP hD hS hA (pn_rV [.ref ob, .long (pn_L (pn_u (fa i))), .int (nI i)] [.int (nI (i + nb)), .ref qt] Fx hK hN hP hD [0, 1, 4, 5] rfl rfl (c_R_addMultiple l D cI cZ cB cJ _ ot qt g nt bt ob qb fb nb bb (pn_u (fa i)) i (pn_u_nonneg _) (pn_u_lt _) (by omega)) kw_400 cal_R_addMultiple inst_R_addMultiple sel_R_addMultiple ⟨by decide, by decide⟩ ⟨rfl, rfl⟩ 0 rfl rfl rfl rfl hl.1 (Nat.le_of_ble_eq_true rfl) d_R_becomeProduct_55 ⟨Nat.zero_le _, Nat.zero_le _⟩) rfl rfl rfl (by decide) (fun r_55 u_55 H locs hw hP hD hS => ?_)
        obtain ⟨k1, rfl, hk0, hk1, hu1, hV1⟩ := hw
        have hP : va_P D pn_cl [(oa, .inr (1, [.ref qa, .int (nI na), .int (pn_b ba)])), (qa, .inl (cI, 632, .inl fa)), (ot, .inr (1, [.ref qt, .int (nI nt), .int (pn_b bt)])), (qt, .inl (cI, 632, .inl u_55)), (ob, .inr (1, [.ref qb, .int (nI nb), .int (pn_b bb)])), (qb, .inl (cI, 632, .inl fb))] H := hP
        have hD : va_D A [(oa, .inr (1, [.ref qa, .int (nI na), .int (pn_b ba)])), (qa, .inl (cI, 632, .inl fa)), (ot, .inr (1, [.ref qt, .int (nI nt), .int (pn_b bt)])), (qt, .inl (cI, 632, .inl u_55)), (ob, .inr (1, [.ref qb, .int (nI nb), .int (pn_b bb)])), (qb, .inl (cI, 632, .inl fb))] := hD
        refine pw_iast Fx hK hP hD hS 3 0 (f := u_55) rfl rfl (k := i + nb) (by omega) (by decide) (w' := [(oa, .inr (1, [.ref qa, .int (nI na), .int (pn_b ba)])), (qa, .inl (cI, 632, .inl fa)), (ot, .inr (1, [.ref qt, .int (nI nt), .int (pn_b bt)])), (qt, .inl (cI, 632, .inl (upd u_55 (i + nb) (pn_I k1)))), (ob, .inr (1, [.ref qb, .int (nI nb), .int (pn_b bb)])), (qb, .inl (cI, 632, .inl fb))]) rfl d_R_becomeProduct_58 (fun H locs hP hD hS => ?_)
        refine lv_iinc (v := nI (i + 1)) (lv' := [(4, .int (nI (i + 1))), (3, .int (nI (na + nb))), (0, .ref ot), (1, .ref oa), (2, .ref ob)]) hx hb d_R_becomeProduct_59 hl (k := 0) rfl (nI_add _ 1) (by decide) rfl (fun ls hl => ?_)
        refine lv_goto (tgt := 19) hx hb d_R_becomeProduct_62 (by decide) ?_
        exact ih19 (i + 1) _ (by omega) (by omega) (fun j h1 h2 => by rw [pk_un (by omega), hu1 j (by omega)]; exact hz j (by omega) h2) (pn_prod_step hk0 hk1 hu1 hV1 hV) _ _ _ hl (hP.sub [2, 3, 0, 1, 4, 5] rfl) (hD.sub [2, 3, 0, 1, 4, 5] (by decide) rfl) hS
  exact loop19 _ 0 u_13 (Nat.lt_succ_self _) (Nat.zero_le _) (fun j h1 h2 => by rw [hw j, if_pos (by omega)]) (by rw [pn_V_zero (fun j hj => by rw [hw j, if_pos (by omega)]), pn_V_0, Int.zero_mul]) _ _ _ hl (hP.sub [4, 5, 0, 1, 2, 3] rfl) (hD.sub [4, 5, 0, 1, 2, 3] (by decide) rfl) hS

set_option maxHeartbeats 4000000 in
set_option maxRecDepth 100000 in
theorem c_R_bitsFrom (l : Launch) (D : va_G) (cI cZ cB cJ : ClassId) (sz : Nat) (ot qt : Nat) (ft : Nat → Int32) (nt : Nat) (bt : Bool) (p0 : Nat) (hnt : nt ≤ 632) (hp0 : p0 < 2 ^ 30) (hv : pn_V ft nt < 2 ^ (p0 + 62)) : pn_Cl l D (pn_ty cI cZ cB cJ) y_R_bitsFrom w_R_bitsFrom ({ frames := 1, cells := 0, slots := 0, locals := 40 } : Room) [.ref ot, .int (nI p0)] [(ot, .inr (1, [.ref qt, .int (nI nt), .int (pn_b bt)])), (qt, .inl (cI, 632, .inl ft))] sz (S := Unit) (fun r _ => r = pn_L (pn_V ft nt / 2 ^ p0)) (fun _ => [(ot, .inr (1, [.ref qt, .int (nI nt), .int (pn_b bt)])), (qt, .inl (cI, 632, .inl ft))]) := by
  refine pn_start (by decide) (Nat.le_of_ble_eq_true rfl) ?_
  intro p e s m below meth c A Q ls hQ hAe Fx hr hlocks hN hK hP hD hS hA hl
  have hx := Fx.1
  have hb := Fx.2.1
  have hl : lv_has ls 6 [(0, .ref ot), (1, .int (nI p0))] := hl
  have hfr := pn_from (f := ft) (n := nt) (K := p0 / 32) (r := p0 % 32) (by omega) (by rw [show 32 * (p0 / 32) + p0 % 32 + 62 = p0 + 62 by omega]; exact hv)
  rw [show 32 * (p0 / 32) + p0 % 32 = p0 by omega] at hfr
  have x0 := pn_u_nonneg (pn_cut ft nt (p0 / 32))
  have x1 := pn_u_lt (pn_cut ft nt (p0 / 32))
  have y0 := pn_u_nonneg (pn_cut ft nt (p0 / 32 + 1))
  have y1 := pn_u_lt (pn_cut ft nt (p0 / 32 + 1))
  have z0 := pn_u_nonneg (pn_cut ft nt (p0 / 32 + 2))
  refine lv_iload_n hx hb d_R_bitsFrom_0 rfl (lv_at hl 1 rfl) ?_
  refine lv_bipush (v := nI 32) hx hb d_R_bitsFrom_1 (by decide) ?_
  refine lv_idiv hx hb d_R_bitsFrom_3 (by decide) ?_
  refine pn_topi (nI (p0 / 32)) (pk_div (by omega) (by decide) (by decide)) ?_
  refine lv_istore_n (lv' := [(2, .int (nI (p0 / 32))), (0, .ref ot), (1, .int (nI p0))]) hx hb d_R_bitsFrom_4 rfl hl (by decide) rfl (fun ls hl => ?_)
  refine lv_iload_n hx hb d_R_bitsFrom_5 rfl (lv_at hl 2 rfl) ?_
  refine lv_bipush (v := nI 32) hx hb d_R_bitsFrom_6 (by decide) ?_
  refine lv_irem hx hb d_R_bitsFrom_8 (by decide) ?_
  refine pn_topi (nI (p0 % 32)) (pk_rem (by omega) (by decide) (by decide)) ?_
  refine lv_istore_n (lv' := [(3, .int (nI (p0 % 32))), (2, .int (nI (p0 / 32))), (0, .ref ot), (1, .int (nI p0))]) hx hb d_R_bitsFrom_9 rfl hl (by decide) rfl (fun ls hl => ?_)
  refine lv_aload_n hx hb d_R_bitsFrom_10 rfl (lv_at hl 2 rfl) ?_
  refine lv_iload_n hx hb d_R_bitsFrom_11 rfl (lv_at hl 1 rfl) ?_
  refine pn_bl (wr := []) [0, 1] [] hP hD hS hA (pn_rV [.int (nI (p0 / 32))] [] Fx hK hN hP hD [0, 1] rfl rfl (c_R_limbAt l D cI cZ cB cJ _ ot qt ft nt (p0 / 32) bt (by omega) (by omega)) kw_361 cal_R_limbAt inst_R_limbAt sel_R_limbAt ⟨by decide, by decide⟩ ⟨rfl, rfl⟩ 0 rfl rfl rfl rfl hl.1 (Nat.le_of_ble_eq_true rfl) d_R_bitsFrom_12 ⟨Nat.zero_le _, Nat.zero_le _⟩) rfl rfl rfl (by decide) (fun r_12 u_12 H locs hw hP hD hS => ?_)
  obtain ⟨⟩ := u_12
  obtain rfl := hw
  have hP : va_P D pn_cl [(ot, .inr (1, [.ref qt, .int (nI nt), .int (pn_b bt)])), (qt, .inl (cI, 632, .inl ft))] H := hP
  have hD : va_D A [(ot, .inr (1, [.ref qt, .int (nI nt), .int (pn_b bt)])), (qt, .inl (cI, 632, .inl ft))] := hD
  refine lv_aload_n hx hb d_R_bitsFrom_15 rfl (lv_at hl 2 rfl) ?_
  refine lv_iload_n hx hb d_R_bitsFrom_16 rfl (lv_at hl 1 rfl) ?_
  refine lv_iconst (v := nI 1) hx hb d_R_bitsFrom_17 (by decide) ?_
  refine pw_iadd hx hb d_R_bitsFrom_18 ?_
  refine pn_bl (wr := []) [0, 1] [] hP hD hS hA (pn_rV [.int (nI (p0 / 32 + 1))] [.long (pn_L (pn_u (pn_cut ft nt (p0 / 32))))] Fx hK hN hP hD [0, 1] rfl rfl (c_R_limbAt l D cI cZ cB cJ _ ot qt ft nt (p0 / 32 + 1) bt (by omega) (by omega)) kw_361 cal_R_limbAt inst_R_limbAt sel_R_limbAt ⟨by decide, by decide⟩ ⟨rfl, rfl⟩ 0 rfl rfl rfl rfl hl.1 (Nat.le_of_ble_eq_true rfl) d_R_bitsFrom_19 ⟨Nat.zero_le _, Nat.zero_le _⟩) rfl rfl rfl (by decide) (fun r_19 u_19 H locs hw hP hD hS => ?_)
  obtain ⟨⟩ := u_19
  obtain rfl := hw
  have hP : va_P D pn_cl [(ot, .inr (1, [.ref qt, .int (nI nt), .int (pn_b bt)])), (qt, .inl (cI, 632, .inl ft))] H := hP
  have hD : va_D A [(ot, .inr (1, [.ref qt, .int (nI nt), .int (pn_b bt)])), (qt, .inl (cI, 632, .inl ft))] := hD
  refine lv_bipush (v := 32) hx hb d_R_bitsFrom_22 (by decide) ?_
  refine pw_lshl32 hx hb d_R_bitsFrom_24 ?_
  refine pw_lor32R hx hb d_R_bitsFrom_25 y0 y1 x0 x1 ?_
  refine lv_lstore (lv' := [(4, .long (pn_L ((pn_u (pn_cut ft nt (p0 / 32 + 1))) * 4294967296 + pn_u (pn_cut ft nt (p0 / 32))))), (3, .int (nI (p0 % 32))), (2, .int (nI (p0 / 32))), (0, .ref ot), (1, .int (nI p0))]) hx hb d_R_bitsFrom_26 hl (by decide) rfl (fun ls hl => ?_)
  refine lv_iload_n hx hb d_R_bitsFrom_28 rfl (lv_at hl 1 rfl) ?_
  refine pw_if_ne (a := p0 % 32) (tgt := 37) hx hb d_R_bitsFrom_29 (by decide) (by omega) (fun h_29 => ?_) (fun h_29 => ?_)
  · skip
    have bd := pn_from_bd (low := pn_u (pn_cut ft nt (p0 / 32 + 1)) * 4294967296 + pn_u (pn_cut ft nt (p0 / 32))) (z := pn_u (pn_cut ft nt (p0 / 32 + 2))) (r := p0 % 32) (by omega) (by omega) (by omega) (by omega) z0 (by have := hfr.2; omega)
    have hz : pn_L (pn_u (pn_cut ft nt (p0 / 32 + 2)) * 2 ^ (64 - p0 % 32) + (pn_u (pn_cut ft nt (p0 / 32 + 1)) * 4294967296 + pn_u (pn_cut ft nt (p0 / 32))) / 2 ^ (p0 % 32)) = pn_L (pn_V ft nt / 2 ^ p0) := by rw [hfr.1, ← pn_from_r (by omega)]; congr 2; omega
    refine lv_lload hx hb d_R_bitsFrom_37 (lv_at hl 0 rfl) ?_
    refine lv_iload_n hx hb d_R_bitsFrom_39 rfl (lv_at hl 1 rfl) ?_
    refine pw_lushr hx hb d_R_bitsFrom_40 (by omega) (by omega) (p0 % 32) (by omega) ?_
    refine lv_aload_n hx hb d_R_bitsFrom_41 rfl (lv_at hl 3 rfl) ?_
    refine lv_iload_n hx hb d_R_bitsFrom_42 rfl (lv_at hl 2 rfl) ?_
    refine lv_iconst (v := nI 2) hx hb d_R_bitsFrom_43 (by decide) ?_
    refine pw_iadd hx hb d_R_bitsFrom_44 ?_
    refine pn_bl (wr := []) [0, 1] [] hP hD hS hA (pn_rV [.int (nI (p0 / 32 + 2))] [.long (pn_L (((pn_u (pn_cut ft nt (p0 / 32 + 1))) * 4294967296 + pn_u (pn_cut ft nt (p0 / 32))) / 2 ^ (p0 % 32)))] Fx hK hN hP hD [0, 1] rfl rfl (c_R_limbAt l D cI cZ cB cJ _ ot qt ft nt (p0 / 32 + 2) bt (by omega) (by omega)) kw_361 cal_R_limbAt inst_R_limbAt sel_R_limbAt ⟨by decide, by decide⟩ ⟨rfl, rfl⟩ 0 rfl rfl rfl rfl hl.1 (Nat.le_of_ble_eq_true rfl) d_R_bitsFrom_45 ⟨Nat.zero_le _, Nat.zero_le _⟩) rfl rfl rfl (by decide) (fun r_45 u_45 H locs hw hP hD hS => ?_)
    obtain ⟨⟩ := u_45
    obtain rfl := hw
    have hP : va_P D pn_cl [(ot, .inr (1, [.ref qt, .int (nI nt), .int (pn_b bt)])), (qt, .inl (cI, 632, .inl ft))] H := hP
    have hD : va_D A [(ot, .inr (1, [.ref qt, .int (nI nt), .int (pn_b bt)])), (qt, .inl (cI, 632, .inl ft))] := hD
    refine lv_bipush (v := nI 64) hx hb d_R_bitsFrom_48 (by decide) ?_
    refine lv_iload_n hx hb d_R_bitsFrom_50 rfl (lv_at hl 1 rfl) ?_
    refine pw_isub hx hb d_R_bitsFrom_51 (by omega) ?_
    refine pw_lshl hx hb d_R_bitsFrom_52 (64 - p0 % 32) (by omega) ?_
    refine pw_lorR hx hb d_R_bitsFrom_53 (by omega) z0 bd.1 bd.2.1 bd.2.2 ?_
    exact pn_retl (()) Fx hr hlocks hQ hAe hP hD hS (by (try dsimp only); first | done | exact (hz)) d_R_bitsFrom_54
  · skip
    have hz : pn_L (pn_u (pn_cut ft nt (p0 / 32 + 1)) * 4294967296 + pn_u (pn_cut ft nt (p0 / 32))) = pn_L (pn_V ft nt / 2 ^ p0) := by rw [hfr.1, h_29]; have h2 := hfr.2; rw [h_29] at h2; have e0 : (2 : Int) ^ 0 = 1 := rfl; have e1 : (2 : Int) ^ (0 + 62) = 4611686018427387904 := rfl; rw [e1] at h2; rw [e0, Int.ediv_one]; congr 1; omega
    refine lv_lload hx hb d_R_bitsFrom_32 (lv_at hl 0 rfl) ?_
    refine lv_goto (tgt := 54) hx hb d_R_bitsFrom_34 (by decide) ?_
    exact pn_retl (()) Fx hr hlocks hQ hAe hP hD hS (by (try dsimp only); first | done | exact (hz)) d_R_bitsFrom_54
