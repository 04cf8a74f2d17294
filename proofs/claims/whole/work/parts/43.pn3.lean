theorem pn_reg_swap {C : Nat → Int32} {st ct : Nat → Nat} {bl : Nat → Bool} {us a b : Nat} {ρ : Nat → Int} (h : pn_reg C st ct bl us ρ) (ha : a < 24) (hb : b < 24) : pn_reg C (pn_up (pn_up st a (st b)) b (st a)) (pn_up (pn_up ct a (ct b)) b (ct a)) (pn_up (pn_up bl a (bl b)) b (bl a)) us (pn_up (pn_up ρ a (ρ b)) b (ρ a)) := by
  obtain ⟨G, ⟨i1, i2, i3, i4, i5⟩, h2⟩ := h
  have key : ∀ {α : Type} (g : Nat → α) (q : Nat), pn_up (pn_up g a (g b)) b (g a) q = g (if q = b then a else if q = a then b else q) := fun g q => by
    by_cases z : q = b
    · subst z; rw [pn_up_s, if_pos rfl]
    · rw [pn_up_n z, if_neg z]
      by_cases y : q = a
      · subst y; rw [pn_up_s, if_pos rfl]
      · rw [pn_up_n y, if_neg y]
  have lt : ∀ q, q < 24 → (if q = b then a else if q = a then b else q) < 24 := fun q hq => by split; exact ha; split; exact hb; exact hq
  have inj : ∀ q q2, q ≠ q2 → (if q = b then a else if q = a then b else q) ≠ (if q2 = b then a else if q2 = a then b else q2) := fun q q2 hn => by
    repeat' split
    all_goals omega
  refine ⟨fun q => G (if q = b then a else if q = a then b else q), ⟨i1, fun q hq => ?_, fun q hq => ?_, fun q q2 hq hq2 hn => ?_, fun q hq => ?_⟩, fun q hq => ?_⟩
  · rw [key ct]; exact i2 _ (lt q hq)
  · rw [key ct, key st]; exact i3 _ (lt q hq)
  · rw [key ct, key st, key ct, key st]; exact i4 _ _ (lt q hq) (lt q2 hq2) (inj q q2 hn)
  · rw [key ct, key st]; exact i5 _ (lt q hq)
  · rw [key ct, key bl, key ρ]; exact h2 _ (lt q hq)
theorem pn_reg_turn {C : Nat → Int32} {st ct : Nat → Nat} {bl : Nat → Bool} {us r : Nat} {z : Bool} {ρ : Nat → Int} (h : pn_reg C st ct bl us ρ) (hr : r < 24) (hz : z = (decide (0 < ct r) && !bl r)) : pn_reg C st ct (pn_up bl r z) us (pn_up ρ r (-ρ r)) := by
  obtain ⟨G, h1, h2⟩ := h
  refine ⟨G, h1, fun q hq => ?_⟩
  by_cases y : q = r
  · subst y
    rw [pn_up_s, pn_up_s]
    obtain ⟨a1, a2, a3, a4, a5⟩ := h2 q hq
    refine ⟨a1, a2, fun e => ?_, a4, ?_⟩
    · subst e; simp at hz; exact hz.1
    · rw [← a5, hz]
      rcases Nat.eq_zero_or_pos (ct q) with c0 | c0
      · rw [c0]; cases bl q <;> simp [pn_sg, pn_V_0]
      · rw [decide_eq_true c0]; cases bl q <;> simp [pn_sg]
  · rw [pn_up_n y, pn_up_n y]; exact h2 q hq
theorem pn_sg_abs (z : Int) : pn_sg (decide (z < 0)) (z.natAbs : Int) = z := by
  by_cases h : z < 0
  · rw [decide_eq_true h, pn_sg_t]; omega
  · rw [decide_eq_false h, pn_sg_f]; omega
theorem pn_lenI_long {z : Int} (h0 : -9223372036854775808 ≤ z) (h1 : z < 9223372036854775808) : pn_lenI z ≤ 20000 := by
  have e : pn_lenI z ≤ 64 := (pn_len_le (Int.natCast_nonneg _) 64).mpr (by have : (2 : Int) ^ 64 = 18446744073709551616 := rfl; rw [this]; omega)
  omega
def pn_push (v : Int) (y : Int32) : Int := if v < 0 then v * 4294967296 - pn_u y else v * 4294967296 + pn_u y
theorem pn_push_sg {g : Nat → Int32} {n : Nat} {b : Bool} {v : Int} {y : Int32} (h : pn_row g n b v) : pn_sg b (pn_V g n * 4294967296 + pn_u y) = pn_push v y := by
  obtain ⟨a1, a2, a3, a4, a5⟩ := h
  have p := pn_V_nonneg g n
  subst a5
  unfold pn_push
  cases b
  · rw [pn_sg_f, pn_sg_f, if_neg (by omega)]
  · have q := pn_V_pos a2 (a3 rfl)
    rw [pn_sg_t, pn_sg_t, if_pos (by omega)]; omega
theorem pn_sign_row {g : Nat → Int32} {n : Nat} {b : Bool} {v : Int} (h : pn_row g n b v) : (if n = 0 then 0 else if b = true then -1 else 1 : Int32) = pn_cmp v 0 := by
  obtain ⟨a1, a2, a3, a4, a5⟩ := h
  subst a5
  rcases Nat.eq_zero_or_pos n with z | z
  · subst z; rw [if_pos rfl, pn_V_0]; cases b <;> rfl
  · have q := pn_V_pos a2 z
    rw [if_neg (by omega)]
    cases b
    · rw [if_neg (by decide), pn_sg_f, pn_cmp_gt q]
    · rw [if_pos rfl, pn_sg_t, pn_cmp_lt (by omega)]
theorem pn_cmp_row1 {g g2 : Nat → Int32} {n n2 : Nat} {b b2 : Bool} {v v2 : Int} (h : pn_row g n b v) (h2 : pn_row g2 n2 b2 v2) (hb : b ≠ b2) : (b = true → (-1) = pn_cmp v v2) ∧ (b = false → nI 1 = pn_cmp v v2) := by
  obtain ⟨a1, a2, a3, a4, a5⟩ := h
  obtain ⟨c1, c2, c3, c4, c5⟩ := h2
  have p := pn_V_nonneg g n
  have p2 := pn_V_nonneg g2 n2
  subst a5; subst c5
  refine ⟨fun z => ?_, fun z => ?_⟩
  · subst z
    have e : b2 = false := by cases b2 <;> first | rfl | exact absurd rfl hb
    subst e
    have q := pn_V_pos a2 (a3 rfl)
    rw [pn_sg_t, pn_sg_f, pn_cmp_lt (by omega)]
  · subst z
    have e : b2 = true := by cases b2 <;> first | rfl | exact absurd rfl hb
    subst e
    have q := pn_V_pos c2 (c3 rfl)
    rw [pn_sg_t, pn_sg_f, pn_cmp_gt (by omega)]; rfl
theorem pn_cmp_row2 {g g2 : Nat → Int32} {n n2 : Nat} {b : Bool} {v v2 : Int} (h : pn_row g n b v) (h2 : pn_row g2 n2 b v2) : (b = true → -pn_cmp (pn_V g n) (pn_V g2 n2) = pn_cmp v v2) ∧ (b = false → pn_cmp (pn_V g n) (pn_V g2 n2) = pn_cmp v v2) := by
  obtain ⟨a1, a2, a3, a4, a5⟩ := h
  obtain ⟨c1, c2, c3, c4, c5⟩ := h2
  subst a5; subst c5
  refine ⟨fun z => ?_, fun z => ?_⟩
  · subst z
    rw [pn_sg_t, pn_sg_t]
    rcases Int.lt_trichotomy (pn_V g n) (pn_V g2 n2) with y | y | y
    · rw [pn_cmp_lt y, pn_cmp_gt (by omega)]; rfl
    · rw [pn_cmp_eq y, pn_cmp_eq (by omega)]; rfl
    · rw [pn_cmp_gt y, pn_cmp_lt (by omega)]
  · subst z; rfl
theorem pn_up_ct {α : Type} {g : Nat → α} {k j : Nat} {v : α} (h : j = k) : pn_up g k v j = v := by subst h; exact pn_up_s

set_option maxHeartbeats 4000000 in
set_option maxRecDepth 100000 in
theorem c_P_set (l : Launch) (D : va_G) (cI cZ cB cJ : ClassId) (sz : Nat) (hl0 : l.stackTraces = false) (oP oS oe oT o1 o2 o3 o4 : Nat) (qC qS qN qB : Nat) (C : Nat → Int32) (st ct : Nat → Nat) (bl : Nat → Bool) (us : Nat) (q1 : Nat) (f1 : Nat → Int32) (n1 : Nat) (b1 : Bool) (x : Int32) (z : Int) (hz0 : -9223372036854775808 ≤ z) (hz1 : z < 9223372036854775808) (ρ : Nat → Int) (hρ : pn_reg C st ct bl us ρ) : pn_Xi l D (pn_ty cI cZ cB cJ) y_P_set w_P_set ({ frames := 8, cells := 2, slots := 12, locals := 130 } : Room) [.ref oP, .int x, .long (pn_L z)] [(oP, .inr (4, [.ref oS, .ref oe, .ref oT, .ref o1, .ref o2, .ref o3, .ref o4])), (oS, .inr (2, [.ref qC, .ref qS, .ref qN, .ref qB, .int (nI us)])), (qC, .inl (cI, 17500, .inl C)), (qS, .inl (cI, 24, .inl (fun z9 => nI (st z9)))), (qN, .inl (cI, 24, .inl (fun z9 => nI (ct z9)))), (qB, .inl (cZ, 24, .inl (fun z9 => pn_b (bl z9)))), (o1, .inr (1, [.ref q1, .int (nI n1), .int (pn_b b1)])), (q1, .inl (cI, 632, .inl f1))] sz 2 12 (S := ((Nat → Int32) × (Nat → Nat) × (Nat → Nat) × (Nat → Bool) × Nat) × ((Nat → Int32) × Nat × Bool)) (SX := ((Nat → Int32) × Nat × Bool)) (fun r u => ∃ k, k < 24 ∧ x = nI k ∧ r = nI (pn_lenI z) ∧ pn_regU u.1 (pn_up ρ k z)) (fun u => [(oP, .inr (4, [.ref oS, .ref oe, .ref oT, .ref o1, .ref o2, .ref o3, .ref o4])), (oS, .inr (2, [.ref qC, .ref qS, .ref qN, .ref qB, .int (nI u.1.2.2.2.2)])), (qC, .inl (cI, 17500, .inl u.1.1)), (qS, .inl (cI, 24, .inl (fun z9 => nI (u.1.2.1 z9)))), (qN, .inl (cI, 24, .inl (fun z9 => nI (u.1.2.2.1 z9)))), (qB, .inl (cZ, 24, .inl (fun z9 => pn_b (u.1.2.2.2.1 z9)))), (o1, .inr (1, [.ref q1, .int (nI u.2.2.1), .int (pn_b u.2.2.2)])), (q1, .inl (cI, 632, .inl u.2.1))]) (fun E _ => E = "java/lang/IndexOutOfBoundsException" ∧ ¬ pn_isR x) (fun u => [(oP, .inr (4, [.ref oS, .ref oe, .ref oT, .ref o1, .ref o2, .ref o3, .ref o4])), (oS, .inr (2, [.ref qC, .ref qS, .ref qN, .ref qB, .int (nI us)])), (qC, .inl (cI, 17500, .inl C)), (qS, .inl (cI, 24, .inl (fun z9 => nI (st z9)))), (qN, .inl (cI, 24, .inl (fun z9 => nI (ct z9)))), (qB, .inl (cZ, 24, .inl (fun z9 => pn_b (bl z9)))), (o1, .inr (1, [.ref q1, .int (nI u.2.1), .int (pn_b u.2.2)])), (q1, .inl (cI, 632, .inl u.1))]) := by
  refine pn_xstart (by decide) (Nat.le_of_ble_eq_true rfl) ?_
  intro p e s m below meth c A Q ls hQ hAe Fx hr hlocks hout hN hE hK hP hD hS hA hl
  have hx := Fx.1
  have hb := Fx.2.1
  have hl : lv_has ls 4 [(0, .ref oP), (1, .int x), (2, .long (pn_L z))] := hl
  refine lv_aload_n hx hb d_P_set_0 rfl (lv_at hl 0 rfl) ?_
  refine lv_iload_n hx hb d_P_set_1 rfl (lv_at hl 1 rfl) ?_
  refine pn_xbv (wr := [(oS, .inr (2, [.ref qC, .ref qS, .ref qN, .ref qB, .int (nI us)])), (qC, .inl (cI, 17500, .inl C)), (qS, .inl (cI, 24, .inl (fun z9 => nI (st z9)))), (qN, .inl (cI, 24, .inl (fun z9 => nI (ct z9)))), (qB, .inl (cZ, 24, .inl (fun z9 => pn_b (bl z9)))), (o1, .inr (1, [.ref q1, .int (nI n1), .int (pn_b b1)])), (q1, .inl (cI, 632, .inl f1))]) [0] [1, 2, 3, 4, 5, 6, 7] hP hD hS hA (pn_xrV [.int x] [] Fx hK hN hE hP hD hS hA [0] rfl rfl (c_P_needRegister l D cI cZ cB cJ _ hl0 oP oS oe oT o1 o2 o3 o4 x) kw_150 cal_P_needRegister inst_P_needRegister sel_P_needRegister ⟨by decide, by decide⟩ ⟨rfl, rfl⟩ 0 rfl rfl rfl rfl hl.1 (Nat.le_of_ble_eq_true rfl) d_P_set_2 ⟨by decide, by decide⟩) rfl rfl rfl (by decide) (fun E ce q9 u_2 H locs hpx hP hD hS c1 c2 c3 => ?_) (fun u_2 H locs hw hP hD hS => ?_)
  · skip
    try dsimp only at hpx
    have hP : va_P D pn_cl [(oS, .inr (2, [.ref qC, .ref qS, .ref qN, .ref qB, .int (nI us)])), (qC, .inl (cI, 17500, .inl C)), (qS, .inl (cI, 24, .inl (fun z9 => nI (st z9)))), (qN, .inl (cI, 24, .inl (fun z9 => nI (ct z9)))), (qB, .inl (cZ, 24, .inl (fun z9 => pn_b (bl z9)))), (o1, .inr (1, [.ref q1, .int (nI n1), .int (pn_b b1)])), (q1, .inl (cI, 632, .inl f1)), (oP, .inr (4, [.ref oS, .ref oe, .ref oT, .ref o1, .ref o2, .ref o3, .ref o4]))] H := hP
    have hD : va_D A [(oS, .inr (2, [.ref qC, .ref qS, .ref qN, .ref qB, .int (nI us)])), (qC, .inl (cI, 17500, .inl C)), (qS, .inl (cI, 24, .inl (fun z9 => nI (st z9)))), (qN, .inl (cI, 24, .inl (fun z9 => nI (ct z9)))), (qB, .inl (cZ, 24, .inl (fun z9 => pn_b (bl z9)))), (o1, .inr (1, [.ref q1, .int (nI n1), .int (pn_b b1)])), (q1, .inl (cI, 632, .inl f1)), (oP, .inr (4, [.ref oS, .ref oe, .ref oT, .ref o1, .ref o2, .ref o3, .ref o4]))] := hD
    exact pn_xout ((f1, n1, b1)) hlocks hout hQ hAe (hP.sub [7, 0, 1, 2, 3, 4, 5, 6] rfl) (hD.sub [7, 0, 1, 2, 3, 4, 5, 6] (by decide) rfl) hS (by (try dsimp only); first | done | exact (hpx)) c1 c2 c3 ⟨by decide, by decide⟩
  · skip
    have hP : va_P D pn_cl [(oS, .inr (2, [.ref qC, .ref qS, .ref qN, .ref qB, .int (nI us)])), (qC, .inl (cI, 17500, .inl C)), (qS, .inl (cI, 24, .inl (fun z9 => nI (st z9)))), (qN, .inl (cI, 24, .inl (fun z9 => nI (ct z9)))), (qB, .inl (cZ, 24, .inl (fun z9 => pn_b (bl z9)))), (o1, .inr (1, [.ref q1, .int (nI n1), .int (pn_b b1)])), (q1, .inl (cI, 632, .inl f1)), (oP, .inr (4, [.ref oS, .ref oe, .ref oT, .ref o1, .ref o2, .ref o3, .ref o4]))] H := hP
    have hD : va_D A [(oS, .inr (2, [.ref qC, .ref qS, .ref qN, .ref qB, .int (nI us)])), (qC, .inl (cI, 17500, .inl C)), (qS, .inl (cI, 24, .inl (fun z9 => nI (st z9)))), (qN, .inl (cI, 24, .inl (fun z9 => nI (ct z9)))), (qB, .inl (cZ, 24, .inl (fun z9 => pn_b (bl z9)))), (o1, .inr (1, [.ref q1, .int (nI n1), .int (pn_b b1)])), (q1, .inl (cI, 632, .inl f1)), (oP, .inr (4, [.ref oS, .ref oe, .ref oT, .ref o1, .ref o2, .ref o3, .ref o4]))] := hD
    obtain ⟨hk, rfl⟩ := hw
    refine lv_aload_n hx hb d_P_set_5 rfl (lv_at hl 0 rfl) ?_
    refine pw_get Fx hK hP fld_P 7 rfl 3 (by decide) kw_115 (v := .ref o1) rfl d_P_set_6 ?_
    refine lv_lload_n hx hb d_P_set_9 rfl (lv_at hl 2 rfl) ?_
    refine pn_bv (wr := [(oS, .inr (2, [.ref qC, .ref qS, .ref qN, .ref qB, .int (nI us)])), (qC, .inl (cI, 17500, .inl C)), (qS, .inl (cI, 24, .inl (fun z9 => nI (st z9)))), (qN, .inl (cI, 24, .inl (fun z9 => nI (ct z9)))), (qB, .inl (cZ, 24, .inl (fun z9 => pn_b (bl z9)))), (oP, .inr (4, [.ref oS, .ref oe, .ref oT, .ref o1, .ref o2, .ref o3, .ref o4]))]) [5, 6] [0, 1, 2, 3, 4, 7] hP hD hS hA (pn_rVN [.long (pn_L z)] [] Fx hK hN hP hD [5, 6] rfl rfl (c_R_become l D cI cZ cB cJ _ o1 q1 f1 n1 b1 z hz0 hz1) kn_222 cal_R_become inst_R_become sel_R_become ⟨by decide, by decide⟩ ⟨rfl, rfl⟩ 0 rfl rfl rfl rfl hl.1 (Nat.le_of_ble_eq_true rfl) d_P_set_10 ⟨by decide, by decide⟩) rfl rfl rfl (by decide) (fun u_10 H locs hw hP hD hS => ?_)
    obtain ⟨g3, j3, b3⟩ := u_10
    obtain ⟨hj3, hV3, hz3, hb3⟩ := hw
    have hP : va_P D pn_cl [(oS, .inr (2, [.ref qC, .ref qS, .ref qN, .ref qB, .int (nI us)])), (qC, .inl (cI, 17500, .inl C)), (qS, .inl (cI, 24, .inl (fun z9 => nI (st z9)))), (qN, .inl (cI, 24, .inl (fun z9 => nI (ct z9)))), (qB, .inl (cZ, 24, .inl (fun z9 => pn_b (bl z9)))), (oP, .inr (4, [.ref oS, .ref oe, .ref oT, .ref o1, .ref o2, .ref o3, .ref o4])), (o1, .inr (1, [.ref q1, .int (nI j3), .int (pn_b b3)])), (q1, .inl (cI, 632, .inl g3))] H := hP
    have hD : va_D A [(oS, .inr (2, [.ref qC, .ref qS, .ref qN, .ref qB, .int (nI us)])), (qC, .inl (cI, 17500, .inl C)), (qS, .inl (cI, 24, .inl (fun z9 => nI (st z9)))), (qN, .inl (cI, 24, .inl (fun z9 => nI (ct z9)))), (qB, .inl (cZ, 24, .inl (fun z9 => pn_b (bl z9)))), (oP, .inr (4, [.ref oS, .ref oe, .ref oT, .ref o1, .ref o2, .ref o3, .ref o4])), (o1, .inr (1, [.ref q1, .int (nI j3), .int (pn_b b3)])), (q1, .inl (cI, 632, .inl g3))] := hD
    dsimp only at hj3 hV3 hz3 hb3
    have hsgn : pn_sg b3 (pn_V g3 j3) = z := by rw [hV3, hb3]; exact pn_sg_abs z
    refine lv_aload_n hx hb d_P_set_13 rfl (lv_at hl 0 rfl) ?_
    refine lv_iload_n hx hb d_P_set_14 rfl (lv_at hl 1 rfl) ?_
    refine lv_aload_n hx hb d_P_set_15 rfl (lv_at hl 0 rfl) ?_
    refine pw_get Fx hK hP fld_P 5 rfl 3 (by decide) kw_115 (v := .ref o1) rfl d_P_set_16 ?_
    refine pn_xbi (wr := []) [5, 0, 1, 2, 3, 4, 6, 7] [] hP hD hS hA (pn_xrV [.int (nI u_2), .ref o1] [] Fx hK hN hE hP hD hS hA [5, 0, 1, 2, 3, 4, 6, 7] rfl rfl (c_P_keep l D cI cZ cB cJ _ hl0 oP oS oe oT o1 o2 o3 o4 qC qS qN qB C st ct bl us o1 q1 g3 j3 b3 u_2 ρ z hk hρ (by omega) (hz3) (fun y => by rcases Nat.eq_zero_or_pos j3 with q | q; (· rw [q, pn_V_0] at hV3; rw [hb3] at y; have := of_decide_eq_true y; omega); (· exact q)) (hsgn)) kw_230 cal_P_keep inst_P_keep sel_P_keep ⟨by decide, by decide⟩ ⟨rfl, rfl⟩ 0 rfl rfl rfl rfl hl.1 (Nat.le_of_ble_eq_true rfl) d_P_set_19 ⟨by decide, by decide⟩) rfl rfl rfl (by decide) (fun E ce q9 u_19 H locs hpx hP hD hS c1 c2 c3 => ?_) (fun r_19 u_19 H locs hw hP hD hS => ?_)
    · skip
      try dsimp only at hpx
      exact absurd hpx.2 (Nat.not_lt.mpr (pn_lenI_long hz0 hz1))
    · skip
      obtain ⟨C9, st9, ct9, bl9, us9⟩ := u_19
      obtain ⟨rfl, hk2, hk3⟩ := hw
      have hP : va_P D pn_cl [(oP, .inr (4, [.ref oS, .ref oe, .ref oT, .ref o1, .ref o2, .ref o3, .ref o4])), (oS, .inr (2, [.ref qC, .ref qS, .ref qN, .ref qB, .int (nI us9)])), (qC, .inl (cI, 17500, .inl C9)), (qS, .inl (cI, 24, .inl (fun z9 => nI (st9 z9)))), (qN, .inl (cI, 24, .inl (fun z9 => nI (ct9 z9)))), (qB, .inl (cZ, 24, .inl (fun z9 => pn_b (bl9 z9)))), (o1, .inr (1, [.ref q1, .int (nI j3), .int (pn_b b3)])), (q1, .inl (cI, 632, .inl g3))] H := hP
      have hD : va_D A [(oP, .inr (4, [.ref oS, .ref oe, .ref oT, .ref o1, .ref o2, .ref o3, .ref o4])), (oS, .inr (2, [.ref qC, .ref qS, .ref qN, .ref qB, .int (nI us9)])), (qC, .inl (cI, 17500, .inl C9)), (qS, .inl (cI, 24, .inl (fun z9 => nI (st9 z9)))), (qN, .inl (cI, 24, .inl (fun z9 => nI (ct9 z9)))), (qB, .inl (cZ, 24, .inl (fun z9 => pn_b (bl9 z9)))), (o1, .inr (1, [.ref q1, .int (nI j3), .int (pn_b b3)])), (q1, .inl (cI, 632, .inl g3))] := hD
      exact pn_xreti (((C9, st9, ct9, bl9, us9), (g3, j3, b3))) Fx hr hlocks hQ hAe hP hD hS (by (try dsimp only); first | done | exact (⟨u_2, hk, rfl, rfl, hk3⟩)) ⟨by decide, by decide⟩ d_P_set_22

set_option maxHeartbeats 4000000 in
set_option maxRecDepth 100000 in
theorem c_P_push (l : Launch) (D : va_G) (cI cZ cB cJ : ClassId) (sz : Nat) (hl0 : l.stackTraces = false) (oP oS oe oT o1 o2 o3 o4 : Nat) (qC qS qN qB : Nat) (C : Nat → Int32) (st ct : Nat → Nat) (bl : Nat → Bool) (us : Nat) (q1 : Nat) (f1 : Nat → Int32) (n1 : Nat) (b1 : Bool) (x y : Int32) (ρ : Nat → Int) (hρ : pn_reg C st ct bl us ρ) : pn_Xi l D (pn_ty cI cZ cB cJ) y_P_push w_P_push ({ frames := 8, cells := 2, slots := 12, locals := 130 } : Room) [.ref oP, .int x, .int y] [(oP, .inr (4, [.ref oS, .ref oe, .ref oT, .ref o1, .ref o2, .ref o3, .ref o4])), (oS, .inr (2, [.ref qC, .ref qS, .ref qN, .ref qB, .int (nI us)])), (qC, .inl (cI, 17500, .inl C)), (qS, .inl (cI, 24, .inl (fun z9 => nI (st z9)))), (qN, .inl (cI, 24, .inl (fun z9 => nI (ct z9)))), (qB, .inl (cZ, 24, .inl (fun z9 => pn_b (bl z9)))), (o1, .inr (1, [.ref q1, .int (nI n1), .int (pn_b b1)])), (q1, .inl (cI, 632, .inl f1))] sz 2 12 (S := ((Nat → Int32) × (Nat → Nat) × (Nat → Nat) × (Nat → Bool) × Nat) × ((Nat → Int32) × Nat × Bool)) (SX := ((Nat → Int32) × Nat × Bool)) (fun r u => ∃ k, k < 24 ∧ x = nI k ∧ pn_lenI (pn_push (ρ k) y) ≤ 20000 ∧ r = nI (pn_lenI (pn_push (ρ k) y)) ∧ pn_regU u.1 (pn_up ρ k (pn_push (ρ k) y))) (fun u => [(oP, .inr (4, [.ref oS, .ref oe, .ref oT, .ref o1, .ref o2, .ref o3, .ref o4])), (oS, .inr (2, [.ref qC, .ref qS, .ref qN, .ref qB, .int (nI u.1.2.2.2.2)])), (qC, .inl (cI, 17500, .inl u.1.1)), (qS, .inl (cI, 24, .inl (fun z9 => nI (u.1.2.1 z9)))), (qN, .inl (cI, 24, .inl (fun z9 => nI (u.1.2.2.1 z9)))), (qB, .inl (cZ, 24, .inl (fun z9 => pn_b (u.1.2.2.2.1 z9)))), (o1, .inr (1, [.ref q1, .int (nI u.2.2.1), .int (pn_b u.2.2.2)])), (q1, .inl (cI, 632, .inl u.2.1))]) (fun E _ => (E = "java/lang/IndexOutOfBoundsException" ∧ ¬ pn_isR x) ∨ (E = "java/lang/UnsupportedOperationException" ∧ ∃ k, k < 24 ∧ x = nI k ∧ 20000 < pn_lenI (pn_push (ρ k) y))) (fun u => [(oP, .inr (4, [.ref oS, .ref oe, .ref oT, .ref o1, .ref o2, .ref o3, .ref o4])), (oS, .inr (2, [.ref qC, .ref qS, .ref qN, .ref qB, .int (nI us)])), (qC, .inl (cI, 17500, .inl C)), (qS, .inl (cI, 24, .inl (fun z9 => nI (st z9)))), (qN, .inl (cI, 24, .inl (fun z9 => nI (ct z9)))), (qB, .inl (cZ, 24, .inl (fun z9 => pn_b (bl z9)))), (o1, .inr (1, [.ref q1, .int (nI u.2.1), .int (pn_b u.2.2)])), (q1, .inl (cI, 632, .inl u.1))]) := by
  refine pn_xstart (by decide) (Nat.le_of_ble_eq_true rfl) ?_
  intro p e s m below meth c A Q ls hQ hAe Fx hr hlocks hout hN hE hK hP hD hS hA hl
  have hx := Fx.1
  have hb := Fx.2.1
  have hl : lv_has ls 3 [(0, .ref oP), (1, .int x), (2, .int y)] := hl
  refine lv_aload_n hx hb d_P_push_0 rfl (lv_at hl 0 rfl) ?_
  refine lv_iload_n hx hb d_P_push_1 rfl (lv_at hl 1 rfl) ?_
  refine pn_xbv (wr := [(oS, .inr (2, [.ref qC, .ref qS, .ref qN, .ref qB, .int (nI us)])), (qC, .inl (cI, 17500, .inl C)), (qS, .inl (cI, 24, .inl (fun z9 => nI (st z9)))), (qN, .inl (cI, 24, .inl (fun z9 => nI (ct z9)))), (qB, .inl (cZ, 24, .inl (fun z9 => pn_b (bl z9)))), (o1, .inr (1, [.ref q1, .int (nI n1), .int (pn_b b1)])), (q1, .inl (cI, 632, .inl f1))]) [0] [1, 2, 3, 4, 5, 6, 7] hP hD hS hA (pn_xrV [.int x] [] Fx hK hN hE hP hD hS hA [0] rfl rfl (c_P_needRegister l D cI cZ cB cJ _ hl0 oP oS oe oT o1 o2 o3 o4 x) kw_150 cal_P_needRegister inst_P_needRegister sel_P_needRegister ⟨by decide, by decide⟩ ⟨rfl, rfl⟩ 0 rfl rfl rfl rfl hl.1 (Nat.le_of_ble_eq_true rfl) d_P_push_2 ⟨by decide, by decide⟩) rfl rfl rfl (by decide) (fun E ce q9 u_2 H locs hpx hP hD hS c1 c2 c3 => ?_) (fun u_2 H locs hw hP hD hS => ?_)
  · skip
    try dsimp only at hpx
    have hP : va_P D pn_cl [(oS, .inr (2, [.ref qC, .ref qS, .ref qN, .ref qB, .int (nI us)])), (qC, .inl (cI, 17500, .inl C)), (qS, .inl (cI, 24, .inl (fun z9 => nI (st z9)))), (qN, .inl (cI, 24, .inl (fun z9 => nI (ct z9)))), (qB, .inl (cZ, 24, .inl (fun z9 => pn_b (bl z9)))), (o1, .inr (1, [.ref q1, .int (nI n1), .int (pn_b b1)])), (q1, .inl (cI, 632, .inl f1)), (oP, .inr (4, [.ref oS, .ref oe, .ref oT, .ref o1, .ref o2, .ref o3, .ref o4]))] H := hP
    have hD : va_D A [(oS, .inr (2, [.ref qC, .ref qS, .ref qN, .ref qB, .int (nI us)])), (qC, .inl (cI, 17500, .inl C)), (qS, .inl (cI, 24, .inl (fun z9 => nI (st z9)))), (qN, .inl (cI, 24, .inl (fun z9 => nI (ct z9)))), (qB, .inl (cZ, 24, .inl (fun z9 => pn_b (bl z9)))), (o1, .inr (1, [.ref q1, .int (nI n1), .int (pn_b b1)])), (q1, .inl (cI, 632, .inl f1)), (oP, .inr (4, [.ref oS, .ref oe, .ref oT, .ref o1, .ref o2, .ref o3, .ref o4]))] := hD
    exact pn_xout ((f1, n1, b1)) hlocks hout hQ hAe (hP.sub [7, 0, 1, 2, 3, 4, 5, 6] rfl) (hD.sub [7, 0, 1, 2, 3, 4, 5, 6] (by decide) rfl) hS (by (try dsimp only); first | done | exact (Or.inl hpx)) c1 c2 c3 ⟨by decide, by decide⟩
  · skip
    have hP : va_P D pn_cl [(oS, .inr (2, [.ref qC, .ref qS, .ref qN, .ref qB, .int (nI us)])), (qC, .inl (cI, 17500, .inl C)), (qS, .inl (cI, 24, .inl (fun z9 => nI (st z9)))), (qN, .inl (cI, 24, .inl (fun z9 => nI (ct z9)))), (qB, .inl (cZ, 24, .inl (fun z9 => pn_b (bl z9)))), (o1, .inr (1, [.ref q1, .int (nI n1), .int (pn_b b1)])), (q1, .inl (cI, 632, .inl f1)), (oP, .inr (4, [.ref oS, .ref oe, .ref oT, .ref o1, .ref o2, .ref o3, .ref o4]))] H := hP
    have hD : va_D A [(oS, .inr (2, [.ref qC, .ref qS, .ref qN, .ref qB, .int (nI us)])), (qC, .inl (cI, 17500, .inl C)), (qS, .inl (cI, 24, .inl (fun z9 => nI (st z9)))), (qN, .inl (cI, 24, .inl (fun z9 => nI (ct z9)))), (qB, .inl (cZ, 24, .inl (fun z9 => pn_b (bl z9)))), (o1, .inr (1, [.ref q1, .int (nI n1), .int (pn_b b1)])), (q1, .inl (cI, 632, .inl f1)), (oP, .inr (4, [.ref oS, .ref oe, .ref oT, .ref o1, .ref o2, .ref o3, .ref o4]))] := hD
    obtain ⟨hk, rfl⟩ := hw
    refine lv_aload_n hx hb d_P_push_5 rfl (lv_at hl 0 rfl) ?_
    refine pw_get Fx hK hP fld_P 7 rfl 0 (by decide) kw_112 (v := .ref oS) rfl d_P_push_6 ?_
    refine lv_iload_n hx hb d_P_push_9 rfl (lv_at hl 1 rfl) ?_
    refine lv_aload_n hx hb d_P_push_10 rfl (lv_at hl 0 rfl) ?_
    refine pw_get Fx hK hP fld_P 7 rfl 3 (by decide) kw_115 (v := .ref o1) rfl d_P_push_11 ?_
    refine pn_bv (wr := [(oP, .inr (4, [.ref oS, .ref oe, .ref oT, .ref o1, .ref o2, .ref o3, .ref o4]))]) [0, 1, 2, 3, 4, 5, 6] [7] hP hD hS hA (pn_rVN [.int (nI u_2), .ref o1] [] Fx hK hN hP hD [0, 1, 2, 3, 4, 5, 6] rfl rfl (c_S_read l D cI cZ cB cJ _ oS qC qS qN qB C st ct bl us o1 q1 f1 n1 b1 u_2 hk (pn_reg_bd hρ hk).1 (by have := (pn_reg_bd hρ hk).2; omega)) kn_285 cal_S_read inst_S_read sel_S_read ⟨by decide, by decide⟩ ⟨rfl, rfl⟩ 0 rfl rfl rfl rfl hl.1 (Nat.le_of_ble_eq_true rfl) d_P_push_14 ⟨by decide, by decide⟩) rfl rfl rfl (by decide) (fun u_14 H locs hw hP hD hS => ?_)
    have hP : va_P D pn_cl [(oP, .inr (4, [.ref oS, .ref oe, .ref oT, .ref o1, .ref o2, .ref o3, .ref o4])), (oS, .inr (2, [.ref qC, .ref qS, .ref qN, .ref qB, .int (nI us)])), (qC, .inl (cI, 17500, .inl C)), (qS, .inl (cI, 24, .inl (fun z9 => nI (st z9)))), (qN, .inl (cI, 24, .inl (fun z9 => nI (ct z9)))), (qB, .inl (cZ, 24, .inl (fun z9 => pn_b (bl z9)))), (o1, .inr (1, [.ref q1, .int (nI (ct u_2)), .int (pn_b (bl u_2))])), (q1, .inl (cI, 632, .inl u_14))] H := hP
    have hD : va_D A [(oP, .inr (4, [.ref oS, .ref oe, .ref oT, .ref o1, .ref o2, .ref o3, .ref o4])), (oS, .inr (2, [.ref qC, .ref qS, .ref qN, .ref qB, .int (nI us)])), (qC, .inl (cI, 17500, .inl C)), (qS, .inl (cI, 24, .inl (fun z9 => nI (st z9)))), (qN, .inl (cI, 24, .inl (fun z9 => nI (ct z9)))), (qB, .inl (cZ, 24, .inl (fun z9 => pn_b (bl z9)))), (o1, .inr (1, [.ref q1, .int (nI (ct u_2)), .int (pn_b (bl u_2))])), (q1, .inl (cI, 632, .inl u_14))] := hD
    have hw1 := pn_reg_read hρ hk hw
    obtain ⟨rn1, rz1, rs1, rl1, rv1⟩ := id hw1
    refine lv_aload_n hx hb d_P_push_17 rfl (lv_at hl 0 rfl) ?_
    refine pw_get Fx hK hP fld_P 0 rfl 3 (by decide) kw_115 (v := .ref o1) rfl d_P_push_18 ?_
    refine lv_iload_n hx hb d_P_push_21 rfl (lv_at hl 2 rfl) ?_
    refine pn_bv (wr := [(oP, .inr (4, [.ref oS, .ref oe, .ref oT, .ref o1, .ref o2, .ref o3, .ref o4])), (oS, .inr (2, [.ref qC, .ref qS, .ref qN, .ref qB, .int (nI us)])), (qC, .inl (cI, 17500, .inl C)), (qS, .inl (cI, 24, .inl (fun z9 => nI (st z9)))), (qN, .inl (cI, 24, .inl (fun z9 => nI (ct z9)))), (qB, .inl (cZ, 24, .inl (fun z9 => pn_b (bl z9))))]) [6, 7] [0, 1, 2, 3, 4, 5] hP hD hS hA (pn_rVN [.int y] [] Fx hK hN hP hD [6, 7] rfl rfl (c_R_putBelow l D cI cZ cB cJ _ o1 q1 u_14 (ct u_2) (bl u_2) y (by omega)) kn_289 cal_R_putBelow inst_R_putBelow sel_R_putBelow ⟨by decide, by decide⟩ ⟨rfl, rfl⟩ 0 rfl rfl rfl rfl hl.1 (Nat.le_of_ble_eq_true rfl) d_P_push_22 ⟨by decide, by decide⟩) rfl rfl rfl (by decide) (fun u_22 H locs hw hP hD hS => ?_)
    obtain ⟨g3, j3, b3⟩ := u_22
    obtain ⟨hj3, hV3, hz3, hb3⟩ := hw
    have hP : va_P D pn_cl [(oP, .inr (4, [.ref oS, .ref oe, .ref oT, .ref o1, .ref o2, .ref o3, .ref o4])), (oS, .inr (2, [.ref qC, .ref qS, .ref qN, .ref qB, .int (nI us)])), (qC, .inl (cI, 17500, .inl C)), (qS, .inl (cI, 24, .inl (fun z9 => nI (st z9)))), (qN, .inl (cI, 24, .inl (fun z9 => nI (ct z9)))), (qB, .inl (cZ, 24, .inl (fun z9 => pn_b (bl z9)))), (o1, .inr (1, [.ref q1, .int (nI j3), .int (pn_b b3)])), (q1, .inl (cI, 632, .inl g3))] H := hP
    have hD : va_D A [(oP, .inr (4, [.ref oS, .ref oe, .ref oT, .ref o1, .ref o2, .ref o3, .ref o4])), (oS, .inr (2, [.ref qC, .ref qS, .ref qN, .ref qB, .int (nI us)])), (qC, .inl (cI, 17500, .inl C)), (qS, .inl (cI, 24, .inl (fun z9 => nI (st z9)))), (qN, .inl (cI, 24, .inl (fun z9 => nI (ct z9)))), (qB, .inl (cZ, 24, .inl (fun z9 => pn_b (bl z9)))), (o1, .inr (1, [.ref q1, .int (nI j3), .int (pn_b b3)])), (q1, .inl (cI, 632, .inl g3))] := hD
    dsimp only at hj3 hV3 hz3 hb3
    have hsf := pn_sg_fix (f := g3) hb3
    have hsgn : pn_sg b3 (pn_V g3 j3) = pn_push (ρ u_2) y := by rw [hsf.1, hV3]; exact pn_push_sg hw1
    refine lv_aload_n hx hb d_P_push_25 rfl (lv_at hl 0 rfl) ?_
    refine lv_iload_n hx hb d_P_push_26 rfl (lv_at hl 1 rfl) ?_
    refine lv_aload_n hx hb d_P_push_27 rfl (lv_at hl 0 rfl) ?_
    refine pw_get Fx hK hP fld_P 0 rfl 3 (by decide) kw_115 (v := .ref o1) rfl d_P_push_28 ?_
    refine pn_xbi (wr := []) [0, 1, 2, 3, 4, 5, 6, 7] [] hP hD hS hA (pn_xrV [.int (nI u_2), .ref o1] [] Fx hK hN hE hP hD hS hA [0, 1, 2, 3, 4, 5, 6, 7] rfl rfl (c_P_keep l D cI cZ cB cJ _ hl0 oP oS oe oT o1 o2 o3 o4 qC qS qN qB C st ct bl us o1 q1 g3 j3 b3 u_2 ρ (pn_push (ρ u_2) y) hk hρ (by omega) (hz3) (hsf.2) (hsgn)) kw_230 cal_P_keep inst_P_keep sel_P_keep ⟨by decide, by decide⟩ ⟨rfl, rfl⟩ 0 rfl rfl rfl rfl hl.1 (Nat.le_of_ble_eq_true rfl) d_P_push_31 ⟨by decide, by decide⟩) rfl rfl rfl (by decide) (fun E ce q9 u_31 H locs hpx hP hD hS c1 c2 c3 => ?_) (fun r_31 u_31 H locs hw hP hD hS => ?_)
    · skip
      try dsimp only at hpx
      have hP : va_P D pn_cl [(oP, .inr (4, [.ref oS, .ref oe, .ref oT, .ref o1, .ref o2, .ref o3, .ref o4])), (oS, .inr (2, [.ref qC, .ref qS, .ref qN, .ref qB, .int (nI us)])), (qC, .inl (cI, 17500, .inl C)), (qS, .inl (cI, 24, .inl (fun z9 => nI (st z9)))), (qN, .inl (cI, 24, .inl (fun z9 => nI (ct z9)))), (qB, .inl (cZ, 24, .inl (fun z9 => pn_b (bl z9)))), (o1, .inr (1, [.ref q1, .int (nI j3), .int (pn_b b3)])), (q1, .inl (cI, 632, .inl g3))] H := hP
      have hD : va_D A [(oP, .inr (4, [.ref oS, .ref oe, .ref oT, .ref o1, .ref o2, .ref o3, .ref o4])), (oS, .inr (2, [.ref qC, .ref qS, .ref qN, .ref qB, .int (nI us)])), (qC, .inl (cI, 17500, .inl C)), (qS, .inl (cI, 24, .inl (fun z9 => nI (st z9)))), (qN, .inl (cI, 24, .inl (fun z9 => nI (ct z9)))), (qB, .inl (cZ, 24, .inl (fun z9 => pn_b (bl z9)))), (o1, .inr (1, [.ref q1, .int (nI j3), .int (pn_b b3)])), (q1, .inl (cI, 632, .inl g3))] := hD
      exact pn_xout ((g3, j3, b3)) hlocks hout hQ hAe hP hD hS (by (try dsimp only); first | done | exact (Or.inr ⟨hpx.1, u_2, hk, rfl, hpx.2⟩)) c1 c2 c3 ⟨by decide, by decide⟩
    · skip
      obtain ⟨C9, st9, ct9, bl9, us9⟩ := u_31
      obtain ⟨rfl, hk2, hk3⟩ := hw
      have hP : va_P D pn_cl [(oP, .inr (4, [.ref oS, .ref oe, .ref oT, .ref o1, .ref o2, .ref o3, .ref o4])), (oS, .inr (2, [.ref qC, .ref qS, .ref qN, .ref qB, .int (nI us9)])), (qC, .inl (cI, 17500, .inl C9)), (qS, .inl (cI, 24, .inl (fun z9 => nI (st9 z9)))), (qN, .inl (cI, 24, .inl (fun z9 => nI (ct9 z9)))), (qB, .inl (cZ, 24, .inl (fun z9 => pn_b (bl9 z9)))), (o1, .inr (1, [.ref q1, .int (nI j3), .int (pn_b b3)])), (q1, .inl (cI, 632, .inl g3))] H := hP
      have hD : va_D A [(oP, .inr (4, [.ref oS, .ref oe, .ref oT, .ref o1, .ref o2, .ref o3, .ref o4])), (oS, .inr (2, [.ref qC, .ref qS, .ref qN, .ref qB, .int (nI us9)])), (qC, .inl (cI, 17500, .inl C9)), (qS, .inl (cI, 24, .inl (fun z9 => nI (st9 z9)))), (qN, .inl (cI, 24, .inl (fun z9 => nI (ct9 z9)))), (qB, .inl (cZ, 24, .inl (fun z9 => pn_b (bl9 z9)))), (o1, .inr (1, [.ref q1, .int (nI j3), .int (pn_b b3)])), (q1, .inl (cI, 632, .inl g3))] := hD
      exact pn_xreti (((C9, st9, ct9, bl9, us9), (g3, j3, b3))) Fx hr hlocks hQ hAe hP hD hS (by (try dsimp only); first | done | exact (⟨u_2, hk, rfl, hk2, rfl, hk3⟩)) ⟨by decide, by decide⟩ d_P_push_34

set_option maxHeartbeats 4000000 in
set_option maxRecDepth 100000 in
theorem c_P_copy (l : Launch) (D : va_G) (cI cZ cB cJ : ClassId) (sz : Nat) (hl0 : l.stackTraces = false) (oP oS oe oT o1 o2 o3 o4 : Nat) (qC qS qN qB : Nat) (C : Nat → Int32) (st ct : Nat → Nat) (bl : Nat → Bool) (us : Nat) (q1 : Nat) (f1 : Nat → Int32) (n1 : Nat) (b1 : Bool) (x y : Int32) (ρ : Nat → Int) (hρ : pn_reg C st ct bl us ρ) : pn_Xi l D (pn_ty cI cZ cB cJ) y_P_copy w_P_copy ({ frames := 8, cells := 3, slots := 18, locals := 130 } : Room) [.ref oP, .int x, .int y] [(oP, .inr (4, [.ref oS, .ref oe, .ref oT, .ref o1, .ref o2, .ref o3, .ref o4])), (oS, .inr (2, [.ref qC, .ref qS, .ref qN, .ref qB, .int (nI us)])), (qC, .inl (cI, 17500, .inl C)), (qS, .inl (cI, 24, .inl (fun z9 => nI (st z9)))), (qN, .inl (cI, 24, .inl (fun z9 => nI (ct z9)))), (qB, .inl (cZ, 24, .inl (fun z9 => pn_b (bl z9)))), (o1, .inr (1, [.ref q1, .int (nI n1), .int (pn_b b1)])), (q1, .inl (cI, 632, .inl f1))] sz 3 18 (S := ((Nat → Int32) × (Nat → Nat) × (Nat → Nat) × (Nat → Bool) × Nat) × ((Nat → Int32) × Nat × Bool)) (SX := ((Nat → Int32) × Nat × Bool)) (fun r u => ∃ k a, k < 24 ∧ a < 24 ∧ x = nI k ∧ y = nI a ∧ r = nI (pn_lenI (ρ a)) ∧ pn_regU u.1 (pn_up ρ k (ρ a))) (fun u => [(oP, .inr (4, [.ref oS, .ref oe, .ref oT, .ref o1, .ref o2, .ref o3, .ref o4])), (oS, .inr (2, [.ref qC, .ref qS, .ref qN, .ref qB, .int (nI u.1.2.2.2.2)])), (qC, .inl (cI, 17500, .inl u.1.1)), (qS, .inl (cI, 24, .inl (fun z9 => nI (u.1.2.1 z9)))), (qN, .inl (cI, 24, .inl (fun z9 => nI (u.1.2.2.1 z9)))), (qB, .inl (cZ, 24, .inl (fun z9 => pn_b (u.1.2.2.2.1 z9)))), (o1, .inr (1, [.ref q1, .int (nI u.2.2.1), .int (pn_b u.2.2.2)])), (q1, .inl (cI, 632, .inl u.2.1))]) (fun E _ => E = "java/lang/IndexOutOfBoundsException" ∧ ¬ (pn_isR x ∧ pn_isR y)) (fun u => [(oP, .inr (4, [.ref oS, .ref oe, .ref oT, .ref o1, .ref o2, .ref o3, .ref o4])), (oS, .inr (2, [.ref qC, .ref qS, .ref qN, .ref qB, .int (nI us)])), (qC, .inl (cI, 17500, .inl C)), (qS, .inl (cI, 24, .inl (fun z9 => nI (st z9)))), (qN, .inl (cI, 24, .inl (fun z9 => nI (ct z9)))), (qB, .inl (cZ, 24, .inl (fun z9 => pn_b (bl z9)))), (o1, .inr (1, [.ref q1, .int (nI u.2.1), .int (pn_b u.2.2)])), (q1, .inl (cI, 632, .inl u.1))]) := by
  refine pn_xstart (by decide) (Nat.le_of_ble_eq_true rfl) ?_
  intro p e s m below meth c A Q ls hQ hAe Fx hr hlocks hout hN hE hK hP hD hS hA hl
  have hx := Fx.1
  have hb := Fx.2.1
  have hl : lv_has ls 3 [(0, .ref oP), (1, .int x), (2, .int y)] := hl
  refine lv_aload_n hx hb d_P_copy_0 rfl (lv_at hl 0 rfl) ?_
  refine lv_iload_n hx hb d_P_copy_1 rfl (lv_at hl 1 rfl) ?_
  refine lv_iload_n hx hb d_P_copy_2 rfl (lv_at hl 2 rfl) ?_
  refine pn_xbv (wr := [(oS, .inr (2, [.ref qC, .ref qS, .ref qN, .ref qB, .int (nI us)])), (qC, .inl (cI, 17500, .inl C)), (qS, .inl (cI, 24, .inl (fun z9 => nI (st z9)))), (qN, .inl (cI, 24, .inl (fun z9 => nI (ct z9)))), (qB, .inl (cZ, 24, .inl (fun z9 => pn_b (bl z9)))), (o1, .inr (1, [.ref q1, .int (nI n1), .int (pn_b b1)])), (q1, .inl (cI, 632, .inl f1))]) [0] [1, 2, 3, 4, 5, 6, 7] hP hD hS hA (pn_xrV [.int x, .int y] [] Fx hK hN hE hP hD hS hA [0] rfl rfl (c_P_needRegisters l D cI cZ cB cJ _ hl0 oP oS oe oT o1 o2 o3 o4 x y) kw_305 cal_P_needRegisters inst_P_needRegisters sel_P_needRegisters ⟨by decide, by decide⟩ ⟨rfl, rfl⟩ 0 rfl rfl rfl rfl hl.1 (Nat.le_of_ble_eq_true rfl) d_P_copy_3 ⟨by decide, by decide⟩) rfl rfl rfl (by decide) (fun E ce q9 u_3 H locs hpx hP hD hS c1 c2 c3 => ?_) (fun u_3 H locs hw hP hD hS => ?_)
  · skip
    try dsimp only at hpx
    have hP : va_P D pn_cl [(oS, .inr (2, [.ref qC, .ref qS, .ref qN, .ref qB, .int (nI us)])), (qC, .inl (cI, 17500, .inl C)), (qS, .inl (cI, 24, .inl (fun z9 => nI (st z9)))), (qN, .inl (cI, 24, .inl (fun z9 => nI (ct z9)))), (qB, .inl (cZ, 24, .inl (fun z9 => pn_b (bl z9)))), (o1, .inr (1, [.ref q1, .int (nI n1), .int (pn_b b1)])), (q1, .inl (cI, 632, .inl f1)), (oP, .inr (4, [.ref oS, .ref oe, .ref oT, .ref o1, .ref o2, .ref o3, .ref o4]))] H := hP
    have hD : va_D A [(oS, .inr (2, [.ref qC, .ref qS, .ref qN, .ref qB, .int (nI us)])), (qC, .inl (cI, 17500, .inl C)), (qS, .inl (cI, 24, .inl (fun z9 => nI (st z9)))), (qN, .inl (cI, 24, .inl (fun z9 => nI (ct z9)))), (qB, .inl (cZ, 24, .inl (fun z9 => pn_b (bl z9)))), (o1, .inr (1, [.ref q1, .int (nI n1), .int (pn_b b1)])), (q1, .inl (cI, 632, .inl f1)), (oP, .inr (4, [.ref oS, .ref oe, .ref oT, .ref o1, .ref o2, .ref o3, .ref o4]))] := hD
    exact pn_xout ((f1, n1, b1)) hlocks hout hQ hAe (hP.sub [7, 0, 1, 2, 3, 4, 5, 6] rfl) (hD.sub [7, 0, 1, 2, 3, 4, 5, 6] (by decide) rfl) hS (by (try dsimp only); first | done | exact (hpx)) c1 c2 c3 ⟨by decide, by decide⟩
  · skip
    obtain ⟨k, a⟩ := u_3
    obtain ⟨⟨hk, rfl⟩, ⟨ha, rfl⟩⟩ := hw
    have hP : va_P D pn_cl [(oS, .inr (2, [.ref qC, .ref qS, .ref qN, .ref qB, .int (nI us)])), (qC, .inl (cI, 17500, .inl C)), (qS, .inl (cI, 24, .inl (fun z9 => nI (st z9)))), (qN, .inl (cI, 24, .inl (fun z9 => nI (ct z9)))), (qB, .inl (cZ, 24, .inl (fun z9 => pn_b (bl z9)))), (o1, .inr (1, [.ref q1, .int (nI n1), .int (pn_b b1)])), (q1, .inl (cI, 632, .inl f1)), (oP, .inr (4, [.ref oS, .ref oe, .ref oT, .ref o1, .ref o2, .ref o3, .ref o4]))] H := hP
    have hD : va_D A [(oS, .inr (2, [.ref qC, .ref qS, .ref qN, .ref qB, .int (nI us)])), (qC, .inl (cI, 17500, .inl C)), (qS, .inl (cI, 24, .inl (fun z9 => nI (st z9)))), (qN, .inl (cI, 24, .inl (fun z9 => nI (ct z9)))), (qB, .inl (cZ, 24, .inl (fun z9 => pn_b (bl z9)))), (o1, .inr (1, [.ref q1, .int (nI n1), .int (pn_b b1)])), (q1, .inl (cI, 632, .inl f1)), (oP, .inr (4, [.ref oS, .ref oe, .ref oT, .ref o1, .ref o2, .ref o3, .ref o4]))] := hD
    dsimp only at hk ha
    refine lv_aload_n hx hb d_P_copy_6 rfl (lv_at hl 0 rfl) ?_
    refine pw_get Fx hK hP fld_P 7 rfl 0 (by decide) kw_112 (v := .ref oS) rfl d_P_copy_7 ?_
    refine lv_iload_n hx hb d_P_copy_10 rfl (lv_at hl 2 rfl) ?_
    refine lv_aload_n hx hb d_P_copy_11 rfl (lv_at hl 0 rfl) ?_
    refine pw_get Fx hK hP fld_P 7 rfl 3 (by decide) kw_115 (v := .ref o1) rfl d_P_copy_12 ?_
    refine pn_bv (wr := [(oP, .inr (4, [.ref oS, .ref oe, .ref oT, .ref o1, .ref o2, .ref o3, .ref o4]))]) [0, 1, 2, 3, 4, 5, 6] [7] hP hD hS hA (pn_rVN [.int (nI a), .ref o1] [] Fx hK hN hP hD [0, 1, 2, 3, 4, 5, 6] rfl rfl (c_S_read l D cI cZ cB cJ _ oS qC qS qN qB C st ct bl us o1 q1 f1 n1 b1 a ha (pn_reg_bd hρ ha).1 (by have := (pn_reg_bd hρ ha).2; omega)) kn_285 cal_S_read inst_S_read sel_S_read ⟨by decide, by decide⟩ ⟨rfl, rfl⟩ 0 rfl rfl rfl rfl hl.1 (Nat.le_of_ble_eq_true rfl) d_P_copy_15 ⟨by decide, by decide⟩) rfl rfl rfl (by decide) (fun u_15 H locs hw hP hD hS => ?_)
    have hP : va_P D pn_cl [(oP, .inr (4, [.ref oS, .ref oe, .ref oT, .ref o1, .ref o2, .ref o3, .ref o4])), (oS, .inr (2, [.ref qC, .ref qS, .ref qN, .ref qB, .int (nI us)])), (qC, .inl (cI, 17500, .inl C)), (qS, .inl (cI, 24, .inl (fun z9 => nI (st z9)))), (qN, .inl (cI, 24, .inl (fun z9 => nI (ct z9)))), (qB, .inl (cZ, 24, .inl (fun z9 => pn_b (bl z9)))), (o1, .inr (1, [.ref q1, .int (nI (ct a)), .int (pn_b (bl a))])), (q1, .inl (cI, 632, .inl u_15))] H := hP
    have hD : va_D A [(oP, .inr (4, [.ref oS, .ref oe, .ref oT, .ref o1, .ref o2, .ref o3, .ref o4])), (oS, .inr (2, [.ref qC, .ref qS, .ref qN, .ref qB, .int (nI us)])), (qC, .inl (cI, 17500, .inl C)), (qS, .inl (cI, 24, .inl (fun z9 => nI (st z9)))), (qN, .inl (cI, 24, .inl (fun z9 => nI (ct z9)))), (qB, .inl (cZ, 24, .inl (fun z9 => pn_b (bl z9)))), (o1, .inr (1, [.ref q1, .int (nI (ct a)), .int (pn_b (bl a))])), (q1, .inl (cI, 632, .inl u_15))] := hD
    have hw1 := pn_reg_read hρ ha hw
    obtain ⟨rn1, rz1, rs1, rl1, rv1⟩ := id hw1
    refine lv_aload_n hx hb d_P_copy_18 rfl (lv_at hl 0 rfl) ?_
    refine lv_iload_n hx hb d_P_copy_19 rfl (lv_at hl 1 rfl) ?_
    refine lv_aload_n hx hb d_P_copy_20 rfl (lv_at hl 0 rfl) ?_
    refine pw_get Fx hK hP fld_P 0 rfl 3 (by decide) kw_115 (v := .ref o1) rfl d_P_copy_21 ?_
    refine pn_xbi (wr := []) [0, 1, 2, 3, 4, 5, 6, 7] [] hP hD hS hA (pn_xrV [.int (nI k), .ref o1] [] Fx hK hN hE hP hD hS hA [0, 1, 2, 3, 4, 5, 6, 7] rfl rfl (c_P_keep l D cI cZ cB cJ _ hl0 oP oS oe oT o1 o2 o3 o4 qC qS qN qB C st ct bl us o1 q1 u_15 (ct a) (bl a) k ρ (ρ a) hk hρ (by omega) (rz1) (rs1) (rv1)) kw_230 cal_P_keep inst_P_keep sel_P_keep ⟨by decide, by decide⟩ ⟨rfl, rfl⟩ 0 rfl rfl rfl rfl hl.1 (Nat.le_of_ble_eq_true rfl) d_P_copy_24 ⟨by decide, by decide⟩) rfl rfl rfl (by decide) (fun E ce q9 u_24 H locs hpx hP hD hS c1 c2 c3 => ?_) (fun r_24 u_24 H locs hw hP hD hS => ?_)
    · skip
      try dsimp only at hpx
      exact absurd hpx.2 (Nat.not_lt.mpr (by rw [← rv1, pn_lenI_sg (pn_V_nonneg _ _)]; exact rl1))
    · skip
      obtain ⟨C9, st9, ct9, bl9, us9⟩ := u_24
      obtain ⟨rfl, hk2, hk3⟩ := hw
      have hP : va_P D pn_cl [(oP, .inr (4, [.ref oS, .ref oe, .ref oT, .ref o1, .ref o2, .ref o3, .ref o4])), (oS, .inr (2, [.ref qC, .ref qS, .ref qN, .ref qB, .int (nI us9)])), (qC, .inl (cI, 17500, .inl C9)), (qS, .inl (cI, 24, .inl (fun z9 => nI (st9 z9)))), (qN, .inl (cI, 24, .inl (fun z9 => nI (ct9 z9)))), (qB, .inl (cZ, 24, .inl (fun z9 => pn_b (bl9 z9)))), (o1, .inr (1, [.ref q1, .int (nI (ct a)), .int (pn_b (bl a))])), (q1, .inl (cI, 632, .inl u_15))] H := hP
      have hD : va_D A [(oP, .inr (4, [.ref oS, .ref oe, .ref oT, .ref o1, .ref o2, .ref o3, .ref o4])), (oS, .inr (2, [.ref qC, .ref qS, .ref qN, .ref qB, .int (nI us9)])), (qC, .inl (cI, 17500, .inl C9)), (qS, .inl (cI, 24, .inl (fun z9 => nI (st9 z9)))), (qN, .inl (cI, 24, .inl (fun z9 => nI (ct9 z9)))), (qB, .inl (cZ, 24, .inl (fun z9 => pn_b (bl9 z9)))), (o1, .inr (1, [.ref q1, .int (nI (ct a)), .int (pn_b (bl a))])), (q1, .inl (cI, 632, .inl u_15))] := hD
      exact pn_xreti (((C9, st9, ct9, bl9, us9), (u_15, ct a, bl a))) Fx hr hlocks hQ hAe hP hD hS (by (try dsimp only); first | done | exact (⟨k, a, hk, ha, rfl, rfl, rfl, hk3⟩)) ⟨by decide, by decide⟩ d_P_copy_27

set_option maxHeartbeats 4000000 in
set_option maxRecDepth 100000 in
theorem c_P_length (l : Launch) (D : va_G) (cI cZ cB cJ : ClassId) (sz : Nat) (hl0 : l.stackTraces = false) (oP oS oe oT o1 o2 o3 o4 : Nat) (qC qS qN qB : Nat) (C : Nat → Int32) (st ct : Nat → Nat) (bl : Nat → Bool) (us : Nat) (q1 : Nat) (f1 : Nat → Int32) (n1 : Nat) (b1 : Bool) (x : Int32) (ρ : Nat → Int) (hρ : pn_reg C st ct bl us ρ) : pn_Xi l D (pn_ty cI cZ cB cJ) y_P_length w_P_length ({ frames := 7, cells := 1, slots := 6, locals := 110 } : Room) [.ref oP, .int x] [(oP, .inr (4, [.ref oS, .ref oe, .ref oT, .ref o1, .ref o2, .ref o3, .ref o4])), (oS, .inr (2, [.ref qC, .ref qS, .ref qN, .ref qB, .int (nI us)])), (qC, .inl (cI, 17500, .inl C)), (qS, .inl (cI, 24, .inl (fun z9 => nI (st z9)))), (qN, .inl (cI, 24, .inl (fun z9 => nI (ct z9)))), (qB, .inl (cZ, 24, .inl (fun z9 => pn_b (bl z9)))), (o1, .inr (1, [.ref q1, .int (nI n1), .int (pn_b b1)])), (q1, .inl (cI, 632, .inl f1))] sz 1 6 (S := ((Nat → Int32) × (Nat → Nat) × (Nat → Nat) × (Nat → Bool) × Nat) × ((Nat → Int32) × Nat × Bool)) (SX := ((Nat → Int32) × Nat × Bool)) (fun r u => ∃ k, k < 24 ∧ x = nI k ∧ r = nI (pn_lenI (ρ k)) ∧ pn_regU u.1 ρ ∧ u.1 = (C, st, ct, bl, us)) (fun u => [(oP, .inr (4, [.ref oS, .ref oe, .ref oT, .ref o1, .ref o2, .ref o3, .ref o4])), (oS, .inr (2, [.ref qC, .ref qS, .ref qN, .ref qB, .int (nI u.1.2.2.2.2)])), (qC, .inl (cI, 17500, .inl u.1.1)), (qS, .inl (cI, 24, .inl (fun z9 => nI (u.1.2.1 z9)))), (qN, .inl (cI, 24, .inl (fun z9 => nI (u.1.2.2.1 z9)))), (qB, .inl (cZ, 24, .inl (fun z9 => pn_b (u.1.2.2.2.1 z9)))), (o1, .inr (1, [.ref q1, .int (nI u.2.2.1), .int (pn_b u.2.2.2)])), (q1, .inl (cI, 632, .inl u.2.1))]) (fun E _ => E = "java/lang/IndexOutOfBoundsException" ∧ ¬ pn_isR x) (fun u => [(oP, .inr (4, [.ref oS, .ref oe, .ref oT, .ref o1, .ref o2, .ref o3, .ref o4])), (oS, .inr (2, [.ref qC, .ref qS, .ref qN, .ref qB, .int (nI us)])), (qC, .inl (cI, 17500, .inl C)), (qS, .inl (cI, 24, .inl (fun z9 => nI (st z9)))), (qN, .inl (cI, 24, .inl (fun z9 => nI (ct z9)))), (qB, .inl (cZ, 24, .inl (fun z9 => pn_b (bl z9)))), (o1, .inr (1, [.ref q1, .int (nI u.2.1), .int (pn_b u.2.2)])), (q1, .inl (cI, 632, .inl u.1))]) := by
  refine pn_xstart (by decide) (Nat.le_of_ble_eq_true rfl) ?_
  intro p e s m below meth c A Q ls hQ hAe Fx hr hlocks hout hN hE hK hP hD hS hA hl
  have hx := Fx.1
  have hb := Fx.2.1
  have hl : lv_has ls 2 [(0, .ref oP), (1, .int x)] := hl
  refine lv_aload_n hx hb d_P_length_0 rfl (lv_at hl 0 rfl) ?_
  refine lv_iload_n hx hb d_P_length_1 rfl (lv_at hl 1 rfl) ?_
  refine pn_xbv (wr := [(oS, .inr (2, [.ref qC, .ref qS, .ref qN, .ref qB, .int (nI us)])), (qC, .inl (cI, 17500, .inl C)), (qS, .inl (cI, 24, .inl (fun z9 => nI (st z9)))), (qN, .inl (cI, 24, .inl (fun z9 => nI (ct z9)))), (qB, .inl (cZ, 24, .inl (fun z9 => pn_b (bl z9)))), (o1, .inr (1, [.ref q1, .int (nI n1), .int (pn_b b1)])), (q1, .inl (cI, 632, .inl f1))]) [0] [1, 2, 3, 4, 5, 6, 7] hP hD hS hA (pn_xrV [.int x] [] Fx hK hN hE hP hD hS hA [0] rfl rfl (c_P_needRegister l D cI cZ cB cJ _ hl0 oP oS oe oT o1 o2 o3 o4 x) kw_150 cal_P_needRegister inst_P_needRegister sel_P_needRegister ⟨by decide, by decide⟩ ⟨rfl, rfl⟩ 0 rfl rfl rfl rfl hl.1 (Nat.le_of_ble_eq_true rfl) d_P_length_2 ⟨by decide, by decide⟩) rfl rfl rfl (by decide) (fun E ce q9 u_2 H locs hpx hP hD hS c1 c2 c3 => ?_) (fun u_2 H locs hw hP hD hS => ?_)
  · skip
    try dsimp only at hpx
    have hP : va_P D pn_cl [(oS, .inr (2, [.ref qC, .ref qS, .ref qN, .ref qB, .int (nI us)])), (qC, .inl (cI, 17500, .inl C)), (qS, .inl (cI, 24, .inl (fun z9 => nI (st z9)))), (qN, .inl (cI, 24, .inl (fun z9 => nI (ct z9)))), (qB, .inl (cZ, 24, .inl (fun z9 => pn_b (bl z9)))), (o1, .inr (1, [.ref q1, .int (nI n1), .int (pn_b b1)])), (q1, .inl (cI, 632, .inl f1)), (oP, .inr (4, [.ref oS, .ref oe, .ref oT, .ref o1, .ref o2, .ref o3, .ref o4]))] H := hP
    have hD : va_D A [(oS, .inr (2, [.ref qC, .ref qS, .ref qN, .ref qB, .int (nI us)])), (qC, .inl (cI, 17500, .inl C)), (qS, .inl (cI, 24, .inl (fun z9 => nI (st z9)))), (qN, .inl (cI, 24, .inl (fun z9 => nI (ct z9)))), (qB, .inl (cZ, 24, .inl (fun z9 => pn_b (bl z9)))), (o1, .inr (1, [.ref q1, .int (nI n1), .int (pn_b b1)])), (q1, .inl (cI, 632, .inl f1)), (oP, .inr (4, [.ref oS, .ref oe, .ref oT, .ref o1, .ref o2, .ref o3, .ref o4]))] := hD
    exact pn_xout ((f1, n1, b1)) hlocks hout hQ hAe (hP.sub [7, 0, 1, 2, 3, 4, 5, 6] rfl) (hD.sub [7, 0, 1, 2, 3, 4, 5, 6] (by decide) rfl) hS (by (try dsimp only); first | done | exact (hpx)) c1 c2 c3 ⟨by decide, by decide⟩
  · skip
    have hP : va_P D pn_cl [(oS, .inr (2, [.ref qC, .ref qS, .ref qN, .ref qB, .int (nI us)])), (qC, .inl (cI, 17500, .inl C)), (qS, .inl (cI, 24, .inl (fun z9 => nI (st z9)))), (qN, .inl (cI, 24, .inl (fun z9 => nI (ct z9)))), (qB, .inl (cZ, 24, .inl (fun z9 => pn_b (bl z9)))), (o1, .inr (1, [.ref q1, .int (nI n1), .int (pn_b b1)])), (q1, .inl (cI, 632, .inl f1)), (oP, .inr (4, [.ref oS, .ref oe, .ref oT, .ref o1, .ref o2, .ref o3, .ref o4]))] H := hP
    have hD : va_D A [(oS, .inr (2, [.ref qC, .ref qS, .ref qN, .ref qB, .int (nI us)])), (qC, .inl (cI, 17500, .inl C)), (qS, .inl (cI, 24, .inl (fun z9 => nI (st z9)))), (qN, .inl (cI, 24, .inl (fun z9 => nI (ct z9)))), (qB, .inl (cZ, 24, .inl (fun z9 => pn_b (bl z9)))), (o1, .inr (1, [.ref q1, .int (nI n1), .int (pn_b b1)])), (q1, .inl (cI, 632, .inl f1)), (oP, .inr (4, [.ref oS, .ref oe, .ref oT, .ref o1, .ref o2, .ref o3, .ref o4]))] := hD
    obtain ⟨hk, rfl⟩ := hw
    refine lv_aload_n hx hb d_P_length_5 rfl (lv_at hl 0 rfl) ?_
    refine pw_get Fx hK hP fld_P 7 rfl 0 (by decide) kw_112 (v := .ref oS) rfl d_P_length_6 ?_
    refine lv_iload_n hx hb d_P_length_9 rfl (lv_at hl 1 rfl) ?_
    refine lv_aload_n hx hb d_P_length_10 rfl (lv_at hl 0 rfl) ?_
    refine pw_get Fx hK hP fld_P 7 rfl 3 (by decide) kw_115 (v := .ref o1) rfl d_P_length_11 ?_
    refine pn_bv (wr := [(oP, .inr (4, [.ref oS, .ref oe, .ref oT, .ref o1, .ref o2, .ref o3, .ref o4]))]) [0, 1, 2, 3, 4, 5, 6] [7] hP hD hS hA (pn_rVN [.int (nI u_2), .ref o1] [] Fx hK hN hP hD [0, 1, 2, 3, 4, 5, 6] rfl rfl (c_S_read l D cI cZ cB cJ _ oS qC qS qN qB C st ct bl us o1 q1 f1 n1 b1 u_2 hk (pn_reg_bd hρ hk).1 (by have := (pn_reg_bd hρ hk).2; omega)) kn_285 cal_S_read inst_S_read sel_S_read ⟨by decide, by decide⟩ ⟨rfl, rfl⟩ 0 rfl rfl rfl rfl hl.1 (Nat.le_of_ble_eq_true rfl) d_P_length_14 ⟨by decide, by decide⟩) rfl rfl rfl (by decide) (fun u_14 H locs hw hP hD hS => ?_)
    have hP : va_P D pn_cl [(oP, .inr (4, [.ref oS, .ref oe, .ref oT, .ref o1, .ref o2, .ref o3, .ref o4])), (oS, .inr (2, [.ref qC, .ref qS, .ref qN, .ref qB, .int (nI us)])), (qC, .inl (cI, 17500, .inl C)), (qS, .inl (cI, 24, .inl (fun z9 => nI (st z9)))), (qN, .inl (cI, 24, .inl (fun z9 => nI (ct z9)))), (qB, .inl (cZ, 24, .inl (fun z9 => pn_b (bl z9)))), (o1, .inr (1, [.ref q1, .int (nI (ct u_2)), .int (pn_b (bl u_2))])), (q1, .inl (cI, 632, .inl u_14))] H := hP
    have hD : va_D A [(oP, .inr (4, [.ref oS, .ref oe, .ref oT, .ref o1, .ref o2, .ref o3, .ref o4])), (oS, .inr (2, [.ref qC, .ref qS, .ref qN, .ref qB, .int (nI us)])), (qC, .inl (cI, 17500, .inl C)), (qS, .inl (cI, 24, .inl (fun z9 => nI (st z9)))), (qN, .inl (cI, 24, .inl (fun z9 => nI (ct z9)))), (qB, .inl (cZ, 24, .inl (fun z9 => pn_b (bl z9)))), (o1, .inr (1, [.ref q1, .int (nI (ct u_2)), .int (pn_b (bl u_2))])), (q1, .inl (cI, 632, .inl u_14))] := hD
    have hw1 := pn_reg_read hρ hk hw
    obtain ⟨rn1, rz1, rs1, rl1, rv1⟩ := id hw1
    refine lv_aload_n hx hb d_P_length_17 rfl (lv_at hl 0 rfl) ?_
    refine pw_get Fx hK hP fld_P 0 rfl 3 (by decide) kw_115 (v := .ref o1) rfl d_P_length_18 ?_
    refine pn_bi (wr := [(oP, .inr (4, [.ref oS, .ref oe, .ref oT, .ref o1, .ref o2, .ref o3, .ref o4])), (oS, .inr (2, [.ref qC, .ref qS, .ref qN, .ref qB, .int (nI us)])), (qC, .inl (cI, 17500, .inl C)), (qS, .inl (cI, 24, .inl (fun z9 => nI (st z9)))), (qN, .inl (cI, 24, .inl (fun z9 => nI (ct z9)))), (qB, .inl (cZ, 24, .inl (fun z9 => pn_b (bl z9))))]) [6, 7] [0, 1, 2, 3, 4, 5] hP hD hS hA (pn_rVN [] [] Fx hK hN hP hD [6, 7] rfl rfl (c_R_bits l D cI cZ cB cJ _ o1 q1 u_14 (ct u_2) (bl u_2) (by omega) rz1) kn_234 cal_R_bits inst_R_bits sel_R_bits ⟨by decide, by decide⟩ ⟨rfl, rfl⟩ 0 rfl rfl rfl rfl hl.1 (Nat.le_of_ble_eq_true rfl) d_P_length_21 ⟨by decide, by decide⟩) rfl rfl rfl (by decide) (fun r_21 u_21 H locs hw hP hD hS => ?_)
    obtain ⟨⟩ := u_21
    obtain rfl := hw
    have hP : va_P D pn_cl [(oP, .inr (4, [.ref oS, .ref oe, .ref oT, .ref o1, .ref o2, .ref o3, .ref o4])), (oS, .inr (2, [.ref qC, .ref qS, .ref qN, .ref qB, .int (nI us)])), (qC, .inl (cI, 17500, .inl C)), (qS, .inl (cI, 24, .inl (fun z9 => nI (st z9)))), (qN, .inl (cI, 24, .inl (fun z9 => nI (ct z9)))), (qB, .inl (cZ, 24, .inl (fun z9 => pn_b (bl z9)))), (o1, .inr (1, [.ref q1, .int (nI (ct u_2)), .int (pn_b (bl u_2))])), (q1, .inl (cI, 632, .inl u_14))] H := hP
    have hD : va_D A [(oP, .inr (4, [.ref oS, .ref oe, .ref oT, .ref o1, .ref o2, .ref o3, .ref o4])), (oS, .inr (2, [.ref qC, .ref qS, .ref qN, .ref qB, .int (nI us)])), (qC, .inl (cI, 17500, .inl C)), (qS, .inl (cI, 24, .inl (fun z9 => nI (st z9)))), (qN, .inl (cI, 24, .inl (fun z9 => nI (ct z9)))), (qB, .inl (cZ, 24, .inl (fun z9 => pn_b (bl z9)))), (o1, .inr (1, [.ref q1, .int (nI (ct u_2)), .int (pn_b (bl u_2))])), (q1, .inl (cI, 632, .inl u_14))] := hD
    exact pn_xreti (((C, st, ct, bl, us), (u_14, ct u_2, bl u_2))) Fx hr hlocks hQ hAe hP hD hS (by (try dsimp only); first | done | exact (⟨u_2, hk, rfl, by rw [← rv1, pn_lenI_sg (pn_V_nonneg _ _)], hρ, rfl⟩)) ⟨by decide, by decide⟩ d_P_length_24

set_option maxHeartbeats 4000000 in
set_option maxRecDepth 100000 in
theorem c_P_sign (l : Launch) (D : va_G) (cI cZ cB cJ : ClassId) (sz : Nat) (hl0 : l.stackTraces = false) (oP oS oe oT o1 o2 o3 o4 : Nat) (qC qS qN qB : Nat) (C : Nat → Int32) (st ct : Nat → Nat) (bl : Nat → Bool) (us : Nat) (q1 : Nat) (f1 : Nat → Int32) (n1 : Nat) (b1 : Bool) (x : Int32) (ρ : Nat → Int) (hρ : pn_reg C st ct bl us ρ) : pn_Xi l D (pn_ty cI cZ cB cJ) y_P_sign w_P_sign ({ frames := 7, cells := 1, slots := 6, locals := 110 } : Room) [.ref oP, .int x] [(oP, .inr (4, [.ref oS, .ref oe, .ref oT, .ref o1, .ref o2, .ref o3, .ref o4])), (oS, .inr (2, [.ref qC, .ref qS, .ref qN, .ref qB, .int (nI us)])), (qC, .inl (cI, 17500, .inl C)), (qS, .inl (cI, 24, .inl (fun z9 => nI (st z9)))), (qN, .inl (cI, 24, .inl (fun z9 => nI (ct z9)))), (qB, .inl (cZ, 24, .inl (fun z9 => pn_b (bl z9)))), (o1, .inr (1, [.ref q1, .int (nI n1), .int (pn_b b1)])), (q1, .inl (cI, 632, .inl f1))] sz 1 6 (S := ((Nat → Int32) × (Nat → Nat) × (Nat → Nat) × (Nat → Bool) × Nat) × ((Nat → Int32) × Nat × Bool)) (SX := ((Nat → Int32) × Nat × Bool)) (fun r u => ∃ k, k < 24 ∧ x = nI k ∧ r = pn_cmp (ρ k) 0 ∧ pn_regU u.1 ρ) (fun u => [(oP, .inr (4, [.ref oS, .ref oe, .ref oT, .ref o1, .ref o2, .ref o3, .ref o4])), (oS, .inr (2, [.ref qC, .ref qS, .ref qN, .ref qB, .int (nI u.1.2.2.2.2)])), (qC, .inl (cI, 17500, .inl u.1.1)), (qS, .inl (cI, 24, .inl (fun z9 => nI (u.1.2.1 z9)))), (qN, .inl (cI, 24, .inl (fun z9 => nI (u.1.2.2.1 z9)))), (qB, .inl (cZ, 24, .inl (fun z9 => pn_b (u.1.2.2.2.1 z9)))), (o1, .inr (1, [.ref q1, .int (nI u.2.2.1), .int (pn_b u.2.2.2)])), (q1, .inl (cI, 632, .inl u.2.1))]) (fun E _ => E = "java/lang/IndexOutOfBoundsException" ∧ ¬ pn_isR x) (fun u => [(oP, .inr (4, [.ref oS, .ref oe, .ref oT, .ref o1, .ref o2, .ref o3, .ref o4])), (oS, .inr (2, [.ref qC, .ref qS, .ref qN, .ref qB, .int (nI us)])), (qC, .inl (cI, 17500, .inl C)), (qS, .inl (cI, 24, .inl (fun z9 => nI (st z9)))), (qN, .inl (cI, 24, .inl (fun z9 => nI (ct z9)))), (qB, .inl (cZ, 24, .inl (fun z9 => pn_b (bl z9)))), (o1, .inr (1, [.ref q1, .int (nI u.2.1), .int (pn_b u.2.2)])), (q1, .inl (cI, 632, .inl u.1))]) := by
  refine pn_xstart (by decide) (Nat.le_of_ble_eq_true rfl) ?_
  intro p e s m below meth c A Q ls hQ hAe Fx hr hlocks hout hN hE hK hP hD hS hA hl
  have hx := Fx.1
  have hb := Fx.2.1
  have hl : lv_has ls 2 [(0, .ref oP), (1, .int x)] := hl
  refine lv_aload_n hx hb d_P_sign_0 rfl (lv_at hl 0 rfl) ?_
  refine lv_iload_n hx hb d_P_sign_1 rfl (lv_at hl 1 rfl) ?_
  refine pn_xbv (wr := [(oS, .inr (2, [.ref qC, .ref qS, .ref qN, .ref qB, .int (nI us)])), (qC, .inl (cI, 17500, .inl C)), (qS, .inl (cI, 24, .inl (fun z9 => nI (st z9)))), (qN, .inl (cI, 24, .inl (fun z9 => nI (ct z9)))), (qB, .inl (cZ, 24, .inl (fun z9 => pn_b (bl z9)))), (o1, .inr (1, [.ref q1, .int (nI n1), .int (pn_b b1)])), (q1, .inl (cI, 632, .inl f1))]) [0] [1, 2, 3, 4, 5, 6, 7] hP hD hS hA (pn_xrV [.int x] [] Fx hK hN hE hP hD hS hA [0] rfl rfl (c_P_needRegister l D cI cZ cB cJ _ hl0 oP oS oe oT o1 o2 o3 o4 x) kw_150 cal_P_needRegister inst_P_needRegister sel_P_needRegister ⟨by decide, by decide⟩ ⟨rfl, rfl⟩ 0 rfl rfl rfl rfl hl.1 (Nat.le_of_ble_eq_true rfl) d_P_sign_2 ⟨by decide, by decide⟩) rfl rfl rfl (by decide) (fun E ce q9 u_2 H locs hpx hP hD hS c1 c2 c3 => ?_) (fun u_2 H locs hw hP hD hS => ?_)
  · skip
    try dsimp only at hpx
    have hP : va_P D pn_cl [(oS, .inr (2, [.ref qC, .ref qS, .ref qN, .ref qB, .int (nI us)])), (qC, .inl (cI, 17500, .inl C)), (qS, .inl (cI, 24, .inl (fun z9 => nI (st z9)))), (qN, .inl (cI, 24, .inl (fun z9 => nI (ct z9)))), (qB, .inl (cZ, 24, .inl (fun z9 => pn_b (bl z9)))), (o1, .inr (1, [.ref q1, .int (nI n1), .int (pn_b b1)])), (q1, .inl (cI, 632, .inl f1)), (oP, .inr (4, [.ref oS, .ref oe, .ref oT, .ref o1, .ref o2, .ref o3, .ref o4]))] H := hP
    have hD : va_D A [(oS, .inr (2, [.ref qC, .ref qS, .ref qN, .ref qB, .int (nI us)])), (qC, .inl (cI, 17500, .inl C)), (qS, .inl (cI, 24, .inl (fun z9 => nI (st z9)))), (qN, .inl (cI, 24, .inl (fun z9 => nI (ct z9)))), (qB, .inl (cZ, 24, .inl (fun z9 => pn_b (bl z9)))), (o1, .inr (1, [.ref q1, .int (nI n1), .int (pn_b b1)])), (q1, .inl (cI, 632, .inl f1)), (oP, .inr (4, [.ref oS, .ref oe, .ref oT, .ref o1, .ref o2, .ref o3, .ref o4]))] := hD
    exact pn_xout ((f1, n1, b1)) hlocks hout hQ hAe (hP.sub [7, 0, 1, 2, 3, 4, 5, 6] rfl) (hD.sub [7, 0, 1, 2, 3, 4, 5, 6] (by decide) rfl) hS (by (try dsimp only); first | done | exact (hpx)) c1 c2 c3 ⟨by decide, by decide⟩
  · skip
    have hP : va_P D pn_cl [(oS, .inr (2, [.ref qC, .ref qS, .ref qN, .ref qB, .int (nI us)])), (qC, .inl (cI, 17500, .inl C)), (qS, .inl (cI, 24, .inl (fun z9 => nI (st z9)))), (qN, .inl (cI, 24, .inl (fun z9 => nI (ct z9)))), (qB, .inl (cZ, 24, .inl (fun z9 => pn_b (bl z9)))), (o1, .inr (1, [.ref q1, .int (nI n1), .int (pn_b b1)])), (q1, .inl (cI, 632, .inl f1)), (oP, .inr (4, [.ref oS, .ref oe, .ref oT, .ref o1, .ref o2, .ref o3, .ref o4]))] H := hP
    have hD : va_D A [(oS, .inr (2, [.ref qC, .ref qS, .ref qN, .ref qB, .int (nI us)])), (qC, .inl (cI, 17500, .inl C)), (qS, .inl (cI, 24, .inl (fun z9 => nI (st z9)))), (qN, .inl (cI, 24, .inl (fun z9 => nI (ct z9)))), (qB, .inl (cZ, 24, .inl (fun z9 => pn_b (bl z9)))), (o1, .inr (1, [.ref q1, .int (nI n1), .int (pn_b b1)])), (q1, .inl (cI, 632, .inl f1)), (oP, .inr (4, [.ref oS, .ref oe, .ref oT, .ref o1, .ref o2, .ref o3, .ref o4]))] := hD
    obtain ⟨hk, rfl⟩ := hw
    refine lv_aload_n hx hb d_P_sign_5 rfl (lv_at hl 0 rfl) ?_
    refine pw_get Fx hK hP fld_P 7 rfl 0 (by decide) kw_112 (v := .ref oS) rfl d_P_sign_6 ?_
    refine lv_iload_n hx hb d_P_sign_9 rfl (lv_at hl 1 rfl) ?_
    refine lv_aload_n hx hb d_P_sign_10 rfl (lv_at hl 0 rfl) ?_
    refine pw_get Fx hK hP fld_P 7 rfl 3 (by decide) kw_115 (v := .ref o1) rfl d_P_sign_11 ?_
    refine pn_bv (wr := [(oP, .inr (4, [.ref oS, .ref oe, .ref oT, .ref o1, .ref o2, .ref o3, .ref o4]))]) [0, 1, 2, 3, 4, 5, 6] [7] hP hD hS hA (pn_rVN [.int (nI u_2), .ref o1] [] Fx hK hN hP hD [0, 1, 2, 3, 4, 5, 6] rfl rfl (c_S_read l D cI cZ cB cJ _ oS qC qS qN qB C st ct bl us o1 q1 f1 n1 b1 u_2 hk (pn_reg_bd hρ hk).1 (by have := (pn_reg_bd hρ hk).2; omega)) kn_285 cal_S_read inst_S_read sel_S_read ⟨by decide, by decide⟩ ⟨rfl, rfl⟩ 0 rfl rfl rfl rfl hl.1 (Nat.le_of_ble_eq_true rfl) d_P_sign_14 ⟨by decide, by decide⟩) rfl rfl rfl (by decide) (fun u_14 H locs hw hP hD hS => ?_)
    have hP : va_P D pn_cl [(oP, .inr (4, [.ref oS, .ref oe, .ref oT, .ref o1, .ref o2, .ref o3, .ref o4])), (oS, .inr (2, [.ref qC, .ref qS, .ref qN, .ref qB, .int (nI us)])), (qC, .inl (cI, 17500, .inl C)), (qS, .inl (cI, 24, .inl (fun z9 => nI (st z9)))), (qN, .inl (cI, 24, .inl (fun z9 => nI (ct z9)))), (qB, .inl (cZ, 24, .inl (fun z9 => pn_b (bl z9)))), (o1, .inr (1, [.ref q1, .int (nI (ct u_2)), .int (pn_b (bl u_2))])), (q1, .inl (cI, 632, .inl u_14))] H := hP
    have hD : va_D A [(oP, .inr (4, [.ref oS, .ref oe, .ref oT, .ref o1, .ref o2, .ref o3, .ref o4])), (oS, .inr (2, [.ref qC, .ref qS, .ref qN, .ref qB, .int (nI us)])), (qC, .inl (cI, 17500, .inl C)), (qS, .inl (cI, 24, .inl (fun z9 => nI (st z9)))), (qN, .inl (cI, 24, .inl (fun z9 => nI (ct z9)))), (qB, .inl (cZ, 24, .inl (fun z9 => pn_b (bl z9)))), (o1, .inr (1, [.ref q1, .int (nI (ct u_2)), .int (pn_b (bl u_2))])), (q1, .inl (cI, 632, .inl u_14))] := hD
    have hw1 := pn_reg_read hρ hk hw
    obtain ⟨rn1, rz1, rs1, rl1, rv1⟩ := id hw1
    refine lv_aload_n hx hb d_P_sign_17 rfl (lv_at hl 0 rfl) ?_
    refine pw_get Fx hK hP fld_P 0 rfl 3 (by decide) kw_115 (v := .ref o1) rfl d_P_sign_18 ?_
    refine pn_bi (wr := [(oP, .inr (4, [.ref oS, .ref oe, .ref oT, .ref o1, .ref o2, .ref o3, .ref o4])), (oS, .inr (2, [.ref qC, .ref qS, .ref qN, .ref qB, .int (nI us)])), (qC, .inl (cI, 17500, .inl C)), (qS, .inl (cI, 24, .inl (fun z9 => nI (st z9)))), (qN, .inl (cI, 24, .inl (fun z9 => nI (ct z9)))), (qB, .inl (cZ, 24, .inl (fun z9 => pn_b (bl z9))))]) [6, 7] [0, 1, 2, 3, 4, 5] hP hD hS hA (pn_rVN [] [] Fx hK hN hP hD [6, 7] rfl rfl (c_R_signum l D cI cZ cB cJ _ o1 q1 u_14 (ct u_2) (bl u_2) (by omega)) kn_440 cal_R_signum inst_R_signum sel_R_signum ⟨by decide, by decide⟩ ⟨rfl, rfl⟩ 0 rfl rfl rfl rfl hl.1 (Nat.le_of_ble_eq_true rfl) d_P_sign_21 ⟨by decide, by decide⟩) rfl rfl rfl (by decide) (fun r_21 u_21 H locs hw hP hD hS => ?_)
    obtain ⟨⟩ := u_21
    obtain rfl := hw
    have hP : va_P D pn_cl [(oP, .inr (4, [.ref oS, .ref oe, .ref oT, .ref o1, .ref o2, .ref o3, .ref o4])), (oS, .inr (2, [.ref qC, .ref qS, .ref qN, .ref qB, .int (nI us)])), (qC, .inl (cI, 17500, .inl C)), (qS, .inl (cI, 24, .inl (fun z9 => nI (st z9)))), (qN, .inl (cI, 24, .inl (fun z9 => nI (ct z9)))), (qB, .inl (cZ, 24, .inl (fun z9 => pn_b (bl z9)))), (o1, .inr (1, [.ref q1, .int (nI (ct u_2)), .int (pn_b (bl u_2))])), (q1, .inl (cI, 632, .inl u_14))] H := hP
    have hD : va_D A [(oP, .inr (4, [.ref oS, .ref oe, .ref oT, .ref o1, .ref o2, .ref o3, .ref o4])), (oS, .inr (2, [.ref qC, .ref qS, .ref qN, .ref qB, .int (nI us)])), (qC, .inl (cI, 17500, .inl C)), (qS, .inl (cI, 24, .inl (fun z9 => nI (st z9)))), (qN, .inl (cI, 24, .inl (fun z9 => nI (ct z9)))), (qB, .inl (cZ, 24, .inl (fun z9 => pn_b (bl z9)))), (o1, .inr (1, [.ref q1, .int (nI (ct u_2)), .int (pn_b (bl u_2))])), (q1, .inl (cI, 632, .inl u_14))] := hD
    exact pn_xreti (((C, st, ct, bl, us), (u_14, ct u_2, bl u_2))) Fx hr hlocks hQ hAe hP hD hS (by (try dsimp only); first | done | exact (⟨u_2, hk, rfl, pn_sign_row hw1, hρ⟩)) ⟨by decide, by decide⟩ d_P_sign_24
