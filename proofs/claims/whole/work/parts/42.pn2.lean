/-- a row that holds the whole number v -/
def pn_row (g : Nat → Int32) (n : Nat) (b : Bool) (v : Int) : Prop := n ≤ 625 ∧ pn_nz g n ∧ (b = true → 0 < n) ∧ pn_len (pn_V g n) ≤ 20000 ∧ pn_sg b (pn_V g n) = v
/-- the registers' whole numbers -/
def pn_reg (C : Nat → Int32) (st ct : Nat → Nat) (bl : Nat → Bool) (us : Nat) (ρ : Nat → Int) : Prop := ∃ G, pn_st C st ct us G ∧ ∀ r, r < 24 → pn_row (G r) (ct r) (bl r) (ρ r)
def pn_lenI (v : Int) : Nat := pn_len (v.natAbs : Int)
theorem pn_lenI_sg {b : Bool} {V : Int} (h : 0 ≤ V) : pn_lenI (pn_sg b V) = pn_len V := by
  unfold pn_lenI
  cases b
  · rw [pn_sg_f, Int.natAbs_of_nonneg h]
  · rw [pn_sg_t, Int.natAbs_neg, Int.natAbs_of_nonneg h]
theorem pn_reg_bd {C : Nat → Int32} {st ct : Nat → Nat} {bl : Nat → Bool} {us r : Nat} {ρ : Nat → Int} (h : pn_reg C st ct bl us ρ) (hr : r < 24) : st r + ct r ≤ 17500 ∧ ct r ≤ 625 := by
  obtain ⟨G, h1, h2⟩ := h
  exact ⟨(h1.2.2.1 r hr).1, h1.2.1 r hr⟩
theorem pn_reg_read {C g : Nat → Int32} {st ct : Nat → Nat} {bl : Nat → Bool} {us r : Nat} {ρ : Nat → Int} (h : pn_reg C st ct bl us ρ) (hr : r < 24) (hg : ∀ i, i < ct r → g i = C (st r + i)) : pn_row g (ct r) (bl r) (ρ r) := by
  obtain ⟨G, h1, h2⟩ := h
  have e : ∀ i, i < ct r → G r i = g i := fun i hi => by rw [hg i hi]; exact (h1.2.2.2.2 r hr i hi).symm
  obtain ⟨a1, a2, a3, a4, a5⟩ := h2 r hr
  have ev : pn_V (G r) (ct r) = pn_V g (ct r) := pn_V_congr e
  exact ⟨a1, pn_nz_congr e a2, a3, by rw [← ev]; exact a4, by rw [← ev]; exact a5⟩
theorem pn_reg_put {C C2 f : Nat → Int32} {st st2 ct : Nat → Nat} {bl : Nat → Bool} {us us2 r n : Nat} {b : Bool} {v : Int} {ρ : Nat → Int} {G : Nat → Nat → Int32} (h2 : ∀ q, q < 24 → pn_row (G q) (ct q) (bl q) (ρ q)) (hs : pn_st C2 st2 (pn_up ct r n) us2 (pn_up G r f)) (hv : pn_row f n b v) : pn_reg C2 st2 (pn_up ct r n) (pn_up bl r b) us2 (pn_up ρ r v) := by
  refine ⟨pn_up G r f, hs, fun q hq => ?_⟩
  by_cases z : q = r
  · subst z; rw [pn_up_s, pn_up_s, pn_up_s, pn_up_s]; exact hv
  · rw [pn_up_n z, pn_up_n z, pn_up_n z, pn_up_n z]; exact h2 q hq
theorem pn_len_bd (f : Nat → Int32) (n : Nat) : pn_len (pn_V f n) ≤ 32 * n := (pn_len_le (pn_V_nonneg f n) (32 * n)).mpr (by rw [← pn_E_two]; exact pn_V_lt f n)
theorem pn_cnt_len {f : Nat → Int32} {n : Nat} (h : pn_nz f n) (hl : pn_len (pn_V f n) ≤ 20000) : n ≤ 625 := by
  cases n with
  | zero => omega
  | succ k =>
    have e := pn_len_V h
    have p := pn_u_pos (h k rfl)
    have z := pn_len_eq0 (pn_u_nonneg (f k))
    omega
def pn_regU (u : ((Nat → Int32) × (Nat → Nat) × (Nat → Nat) × (Nat → Bool) × Nat)) (ρ : Nat → Int) : Prop := pn_reg u.1 u.2.1 u.2.2.1 u.2.2.2.1 u.2.2.2.2 ρ

set_option maxHeartbeats 4000000 in
set_option maxRecDepth 100000 in
theorem c_P_keep (l : Launch) (D : va_G) (cI cZ cB cJ : ClassId) (sz : Nat) (hl0 : l.stackTraces = false) (oP oS oe oT o1 o2 o3 o4 : Nat) (qC qS qN qB : Nat) (C : Nat → Int32) (st ct : Nat → Nat) (bl : Nat → Bool) (us : Nat) (ot qt : Nat) (ft : Nat → Int32) (nt : Nat) (bt : Bool) (to : Nat) (ρ : Nat → Int) (v : Int) (hto : to < 24) (hρ : pn_reg C st ct bl us ρ) (hnt : nt ≤ 632) (hz : pn_nz ft nt) (hsg : bt = true → 0 < nt) (hv : pn_sg bt (pn_V ft nt) = v) : pn_Xi l D (pn_ty cI cZ cB cJ) y_P_keep w_P_keep ({ frames := 7, cells := 1, slots := 6, locals := 103 } : Room) [.ref oP, .int (nI to), .ref ot] [(oP, .inr (4, [.ref oS, .ref oe, .ref oT, .ref o1, .ref o2, .ref o3, .ref o4])), (oS, .inr (2, [.ref qC, .ref qS, .ref qN, .ref qB, .int (nI us)])), (qC, .inl (cI, 17500, .inl C)), (qS, .inl (cI, 24, .inl (fun z9 => nI (st z9)))), (qN, .inl (cI, 24, .inl (fun z9 => nI (ct z9)))), (qB, .inl (cZ, 24, .inl (fun z9 => pn_b (bl z9)))), (ot, .inr (1, [.ref qt, .int (nI nt), .int (pn_b bt)])), (qt, .inl (cI, 632, .inl ft))] sz 1 6 (S := ((Nat → Int32) × (Nat → Nat) × (Nat → Nat) × (Nat → Bool) × Nat)) (SX := Unit) (fun r u => r = nI (pn_lenI v) ∧ pn_lenI v ≤ 20000 ∧ pn_regU u (pn_up ρ to v)) (fun u => [(oP, .inr (4, [.ref oS, .ref oe, .ref oT, .ref o1, .ref o2, .ref o3, .ref o4])), (oS, .inr (2, [.ref qC, .ref qS, .ref qN, .ref qB, .int (nI u.2.2.2.2)])), (qC, .inl (cI, 17500, .inl u.1)), (qS, .inl (cI, 24, .inl (fun z9 => nI (u.2.1 z9)))), (qN, .inl (cI, 24, .inl (fun z9 => nI (u.2.2.1 z9)))), (qB, .inl (cZ, 24, .inl (fun z9 => pn_b (u.2.2.2.1 z9)))), (ot, .inr (1, [.ref qt, .int (nI nt), .int (pn_b bt)])), (qt, .inl (cI, 632, .inl ft))]) (fun E _ => E = "java/lang/UnsupportedOperationException" ∧ 20000 < pn_lenI v) (fun _ => [(oP, .inr (4, [.ref oS, .ref oe, .ref oT, .ref o1, .ref o2, .ref o3, .ref o4])), (oS, .inr (2, [.ref qC, .ref qS, .ref qN, .ref qB, .int (nI us)])), (qC, .inl (cI, 17500, .inl C)), (qS, .inl (cI, 24, .inl (fun z9 => nI (st z9)))), (qN, .inl (cI, 24, .inl (fun z9 => nI (ct z9)))), (qB, .inl (cZ, 24, .inl (fun z9 => pn_b (bl z9)))), (ot, .inr (1, [.ref qt, .int (nI nt), .int (pn_b bt)])), (qt, .inl (cI, 632, .inl ft))]) := by
  refine pn_xstart (by decide) (Nat.le_of_ble_eq_true rfl) ?_
  intro p e s m below meth c A Q ls hQ hAe Fx hr hlocks hout hN hE hK hP hD hS hA hl
  have hx := Fx.1
  have hb := Fx.2.1
  have hl : lv_has ls 4 [(0, .ref oP), (1, .int (nI to)), (2, .ref ot)] := hl
  obtain ⟨G, hG1, hG2⟩ := hρ
  have hle : pn_lenI v = pn_len (pn_V ft nt) := by rw [← hv]; exact pn_lenI_sg (pn_V_nonneg _ _)
  have hbd := pn_len_bd ft nt
  refine lv_aload_n hx hb d_P_keep_0 rfl (lv_at hl 2 rfl) ?_
  refine pn_bi (wr := [(oP, .inr (4, [.ref oS, .ref oe, .ref oT, .ref o1, .ref o2, .ref o3, .ref o4])), (oS, .inr (2, [.ref qC, .ref qS, .ref qN, .ref qB, .int (nI us)])), (qC, .inl (cI, 17500, .inl C)), (qS, .inl (cI, 24, .inl (fun z9 => nI (st z9)))), (qN, .inl (cI, 24, .inl (fun z9 => nI (ct z9)))), (qB, .inl (cZ, 24, .inl (fun z9 => pn_b (bl z9))))]) [6, 7] [0, 1, 2, 3, 4, 5] hP hD hS hA (pn_rVN [] [] Fx hK hN hP hD [6, 7] rfl rfl (c_R_bits l D cI cZ cB cJ _ ot qt ft nt bt hnt hz) kn_234 cal_R_bits inst_R_bits sel_R_bits ⟨by decide, by decide⟩ ⟨rfl, rfl⟩ 0 rfl rfl rfl rfl hl.1 (Nat.le_of_ble_eq_true rfl) d_P_keep_1 ⟨by decide, by decide⟩) rfl rfl rfl (by decide) (fun r_1 u_1 H locs hw hP hD hS => ?_)
  obtain ⟨⟩ := u_1
  obtain rfl := hw
  have hP : va_P D pn_cl [(oP, .inr (4, [.ref oS, .ref oe, .ref oT, .ref o1, .ref o2, .ref o3, .ref o4])), (oS, .inr (2, [.ref qC, .ref qS, .ref qN, .ref qB, .int (nI us)])), (qC, .inl (cI, 17500, .inl C)), (qS, .inl (cI, 24, .inl (fun z9 => nI (st z9)))), (qN, .inl (cI, 24, .inl (fun z9 => nI (ct z9)))), (qB, .inl (cZ, 24, .inl (fun z9 => pn_b (bl z9)))), (ot, .inr (1, [.ref qt, .int (nI nt), .int (pn_b bt)])), (qt, .inl (cI, 632, .inl ft))] H := hP
  have hD : va_D A [(oP, .inr (4, [.ref oS, .ref oe, .ref oT, .ref o1, .ref o2, .ref o3, .ref o4])), (oS, .inr (2, [.ref qC, .ref qS, .ref qN, .ref qB, .int (nI us)])), (qC, .inl (cI, 17500, .inl C)), (qS, .inl (cI, 24, .inl (fun z9 => nI (st z9)))), (qN, .inl (cI, 24, .inl (fun z9 => nI (ct z9)))), (qB, .inl (cZ, 24, .inl (fun z9 => pn_b (bl z9)))), (ot, .inr (1, [.ref qt, .int (nI nt), .int (pn_b bt)])), (qt, .inl (cI, 632, .inl ft))] := hD
  refine lv_istore_n (lv' := [(3, .int (nI (pn_len (pn_V ft nt)))), (0, .ref oP), (1, .int (nI to)), (2, .ref ot)]) hx hb d_P_keep_4 rfl hl (by decide) rfl (fun ls hl => ?_)
  refine lv_aload_n hx hb d_P_keep_5 rfl (lv_at hl 1 rfl) ?_
  refine lv_iload_n hx hb d_P_keep_6 rfl (lv_at hl 0 rfl) ?_
  refine pn_xbv (wr := [(oS, .inr (2, [.ref qC, .ref qS, .ref qN, .ref qB, .int (nI us)])), (qC, .inl (cI, 17500, .inl C)), (qS, .inl (cI, 24, .inl (fun z9 => nI (st z9)))), (qN, .inl (cI, 24, .inl (fun z9 => nI (ct z9)))), (qB, .inl (cZ, 24, .inl (fun z9 => pn_b (bl z9)))), (ot, .inr (1, [.ref qt, .int (nI nt), .int (pn_b bt)])), (qt, .inl (cI, 632, .inl ft))]) [0] [1, 2, 3, 4, 5, 6, 7] hP hD hS hA (pn_xrV [.int (nI (pn_len (pn_V ft nt)))] [] Fx hK hN hE hP hD hS hA [0] rfl rfl (c_P_needLength l D cI cZ cB cJ _ hl0 oP oS oe oT o1 o2 o3 o4 (pn_len (pn_V ft nt)) (by omega)) kw_242 cal_P_needLength inst_P_needLength sel_P_needLength ⟨by decide, by decide⟩ ⟨rfl, rfl⟩ 0 rfl rfl rfl rfl hl.1 (Nat.le_of_ble_eq_true rfl) d_P_keep_7 ⟨by decide, by decide⟩) rfl rfl rfl (by decide) (fun E ce q9 u_7 H locs hpx hP hD hS c1 c2 c3 => ?_) (fun u_7 H locs hw hP hD hS => ?_)
  · skip
    try dsimp only at hpx
    have hP : va_P D pn_cl [(oS, .inr (2, [.ref qC, .ref qS, .ref qN, .ref qB, .int (nI us)])), (qC, .inl (cI, 17500, .inl C)), (qS, .inl (cI, 24, .inl (fun z9 => nI (st z9)))), (qN, .inl (cI, 24, .inl (fun z9 => nI (ct z9)))), (qB, .inl (cZ, 24, .inl (fun z9 => pn_b (bl z9)))), (ot, .inr (1, [.ref qt, .int (nI nt), .int (pn_b bt)])), (qt, .inl (cI, 632, .inl ft)), (oP, .inr (4, [.ref oS, .ref oe, .ref oT, .ref o1, .ref o2, .ref o3, .ref o4]))] H := hP
    have hD : va_D A [(oS, .inr (2, [.ref qC, .ref qS, .ref qN, .ref qB, .int (nI us)])), (qC, .inl (cI, 17500, .inl C)), (qS, .inl (cI, 24, .inl (fun z9 => nI (st z9)))), (qN, .inl (cI, 24, .inl (fun z9 => nI (ct z9)))), (qB, .inl (cZ, 24, .inl (fun z9 => pn_b (bl z9)))), (ot, .inr (1, [.ref qt, .int (nI nt), .int (pn_b bt)])), (qt, .inl (cI, 632, .inl ft)), (oP, .inr (4, [.ref oS, .ref oe, .ref oT, .ref o1, .ref o2, .ref o3, .ref o4]))] := hD
    exact pn_xout (()) hlocks hout hQ hAe (hP.sub [7, 0, 1, 2, 3, 4, 5, 6] rfl) (hD.sub [7, 0, 1, 2, 3, 4, 5, 6] (by decide) rfl) hS (by (try dsimp only); first | done | exact (⟨hpx.1, by rw [hle]; exact hpx.2⟩)) c1 c2 c3 ⟨by decide, by decide⟩
  · skip
    obtain ⟨⟩ := u_7
    have hP : va_P D pn_cl [(oS, .inr (2, [.ref qC, .ref qS, .ref qN, .ref qB, .int (nI us)])), (qC, .inl (cI, 17500, .inl C)), (qS, .inl (cI, 24, .inl (fun z9 => nI (st z9)))), (qN, .inl (cI, 24, .inl (fun z9 => nI (ct z9)))), (qB, .inl (cZ, 24, .inl (fun z9 => pn_b (bl z9)))), (ot, .inr (1, [.ref qt, .int (nI nt), .int (pn_b bt)])), (qt, .inl (cI, 632, .inl ft)), (oP, .inr (4, [.ref oS, .ref oe, .ref oT, .ref o1, .ref o2, .ref o3, .ref o4]))] H := hP
    have hD : va_D A [(oS, .inr (2, [.ref qC, .ref qS, .ref qN, .ref qB, .int (nI us)])), (qC, .inl (cI, 17500, .inl C)), (qS, .inl (cI, 24, .inl (fun z9 => nI (st z9)))), (qN, .inl (cI, 24, .inl (fun z9 => nI (ct z9)))), (qB, .inl (cZ, 24, .inl (fun z9 => pn_b (bl z9)))), (ot, .inr (1, [.ref qt, .int (nI nt), .int (pn_b bt)])), (qt, .inl (cI, 632, .inl ft)), (oP, .inr (4, [.ref oS, .ref oe, .ref oT, .ref o1, .ref o2, .ref o3, .ref o4]))] := hD
    have hw9 : pn_len (pn_V ft nt) ≤ 20000 := hw
    have hn6 := pn_cnt_len hz hw9
    refine lv_aload_n hx hb d_P_keep_10 rfl (lv_at hl 1 rfl) ?_
    refine pw_get Fx hK hP fld_P 7 rfl 0 (by decide) kw_112 (v := .ref oS) rfl d_P_keep_11 ?_
    refine lv_iload_n hx hb d_P_keep_14 rfl (lv_at hl 2 rfl) ?_
    refine lv_aload_n hx hb d_P_keep_15 rfl (lv_at hl 3 rfl) ?_
    refine pn_bv (wr := [(oP, .inr (4, [.ref oS, .ref oe, .ref oT, .ref o1, .ref o2, .ref o3, .ref o4]))]) [0, 1, 2, 3, 4, 5, 6] [7] hP hD hS hA (pn_rVN [.int (nI to), .ref ot] [] Fx hK hN hP hD [0, 1, 2, 3, 4, 5, 6] rfl rfl (c_S_write l D cI cZ cB cJ _ oS qC qS qN qB C st ct bl us ot qt ft nt bt to G hto hn6 hG1) kn_262 cal_S_write inst_S_write sel_S_write ⟨by decide, by decide⟩ ⟨rfl, rfl⟩ 0 rfl rfl rfl rfl hl.1 (Nat.le_of_ble_eq_true rfl) d_P_keep_16 ⟨by decide, by decide⟩) rfl rfl rfl (by decide) (fun u_16 H locs hw hP hD hS => ?_)
    obtain ⟨C1, st1, us1⟩ := u_16
    have hP : va_P D pn_cl [(oP, .inr (4, [.ref oS, .ref oe, .ref oT, .ref o1, .ref o2, .ref o3, .ref o4])), (oS, .inr (2, [.ref qC, .ref qS, .ref qN, .ref qB, .int (nI us1)])), (qC, .inl (cI, 17500, .inl C1)), (qS, .inl (cI, 24, .inl (fun z9 => nI (st1 z9)))), (qN, .inl (cI, 24, .inl (fun z9 => nI ((pn_up ct to nt) z9)))), (qB, .inl (cZ, 24, .inl (fun z9 => pn_b ((pn_up bl to bt) z9)))), (ot, .inr (1, [.ref qt, .int (nI nt), .int (pn_b bt)])), (qt, .inl (cI, 632, .inl ft))] H := hP
    have hD : va_D A [(oP, .inr (4, [.ref oS, .ref oe, .ref oT, .ref o1, .ref o2, .ref o3, .ref o4])), (oS, .inr (2, [.ref qC, .ref qS, .ref qN, .ref qB, .int (nI us1)])), (qC, .inl (cI, 17500, .inl C1)), (qS, .inl (cI, 24, .inl (fun z9 => nI (st1 z9)))), (qN, .inl (cI, 24, .inl (fun z9 => nI ((pn_up ct to nt) z9)))), (qB, .inl (cZ, 24, .inl (fun z9 => pn_b ((pn_up bl to bt) z9)))), (ot, .inr (1, [.ref qt, .int (nI nt), .int (pn_b bt)])), (qt, .inl (cI, 632, .inl ft))] := hD
    refine lv_iload_n hx hb d_P_keep_19 rfl (lv_at hl 0 rfl) ?_
    exact pn_xreti ((C1, st1, pn_up ct to nt, pn_up bl to bt, us1)) Fx hr hlocks hQ hAe hP hD hS (by (try dsimp only); first | done | exact (⟨by rw [hle], by rw [hle]; exact hw9, pn_reg_put (C := C) (us := us) (st := st) hG2 hw ⟨hn6, hz, hsg, hw9, hv⟩⟩)) ⟨by decide, by decide⟩ d_P_keep_20

set_option maxHeartbeats 4000000 in
set_option maxRecDepth 100000 in
theorem c_P_readBoth (l : Launch) (D : va_G) (cI cZ cB cJ : ClassId) (sz : Nat) (oP oS oe oT o1 o2 o3 o4 : Nat) (qC qS qN qB : Nat) (C : Nat → Int32) (st ct : Nat → Nat) (bl : Nat → Bool) (us : Nat) (q1 : Nat) (f1 : Nat → Int32) (n1 : Nat) (b1 : Bool) (q2 : Nat) (f2 : Nat → Int32) (n2 : Nat) (b2 : Bool) (a b : Nat) (ρ : Nat → Int) (ha : a < 24) (hb9 : b < 24) (hρ : pn_reg C st ct bl us ρ) : pn_Cv l D (pn_ty cI cZ cB cJ) y_P_readBoth w_P_readBoth ({ frames := 2, cells := 0, slots := 0, locals := 80 } : Room) [.ref oP, .int (nI a), .int (nI b)] [(oP, .inr (4, [.ref oS, .ref oe, .ref oT, .ref o1, .ref o2, .ref o3, .ref o4])), (oS, .inr (2, [.ref qC, .ref qS, .ref qN, .ref qB, .int (nI us)])), (qC, .inl (cI, 17500, .inl C)), (qS, .inl (cI, 24, .inl (fun z9 => nI (st z9)))), (qN, .inl (cI, 24, .inl (fun z9 => nI (ct z9)))), (qB, .inl (cZ, 24, .inl (fun z9 => pn_b (bl z9)))), (o1, .inr (1, [.ref q1, .int (nI n1), .int (pn_b b1)])), (q1, .inl (cI, 632, .inl f1)), (o2, .inr (1, [.ref q2, .int (nI n2), .int (pn_b b2)])), (q2, .inl (cI, 632, .inl f2))] sz (S := (Nat → Int32) × (Nat → Int32)) (fun u => pn_row u.1 (ct a) (bl a) (ρ a) ∧ pn_row u.2 (ct b) (bl b) (ρ b)) (fun u => [(oP, .inr (4, [.ref oS, .ref oe, .ref oT, .ref o1, .ref o2, .ref o3, .ref o4])), (oS, .inr (2, [.ref qC, .ref qS, .ref qN, .ref qB, .int (nI us)])), (qC, .inl (cI, 17500, .inl C)), (qS, .inl (cI, 24, .inl (fun z9 => nI (st z9)))), (qN, .inl (cI, 24, .inl (fun z9 => nI (ct z9)))), (qB, .inl (cZ, 24, .inl (fun z9 => pn_b (bl z9)))), (o1, .inr (1, [.ref q1, .int (nI (ct a)), .int (pn_b (bl a))])), (q1, .inl (cI, 632, .inl u.1)), (o2, .inr (1, [.ref q2, .int (nI (ct b)), .int (pn_b (bl b))])), (q2, .inl (cI, 632, .inl u.2))]) := by
  refine pn_start (by decide) (Nat.le_of_ble_eq_true rfl) ?_
  intro p e s m below meth c A Q ls hQ hAe Fx hr hlocks hN hK hP hD hS hA hl
  have hx := Fx.1
  have hb := Fx.2.1
  have hl : lv_has ls 3 [(0, .ref oP), (1, .int (nI a)), (2, .int (nI b))] := hl
  have hba := pn_reg_bd hρ ha
  have hbb := pn_reg_bd hρ hb9
  refine lv_aload_n hx hb d_P_readBoth_0 rfl (lv_at hl 0 rfl) ?_
  refine pw_get Fx hK hP fld_P 0 rfl 0 (by decide) kw_112 (v := .ref oS) rfl d_P_readBoth_1 ?_
  refine lv_iload_n hx hb d_P_readBoth_4 rfl (lv_at hl 1 rfl) ?_
  refine lv_aload_n hx hb d_P_readBoth_5 rfl (lv_at hl 0 rfl) ?_
  refine pw_get Fx hK hP fld_P 0 rfl 3 (by decide) kw_115 (v := .ref o1) rfl d_P_readBoth_6 ?_
  refine pn_bv (wr := [(oP, .inr (4, [.ref oS, .ref oe, .ref oT, .ref o1, .ref o2, .ref o3, .ref o4])), (o2, .inr (1, [.ref q2, .int (nI n2), .int (pn_b b2)])), (q2, .inl (cI, 632, .inl f2))]) [1, 2, 3, 4, 5, 6, 7] [0, 8, 9] hP hD hS hA (pn_rVN [.int (nI a), .ref o1] [] Fx hK hN hP hD [1, 2, 3, 4, 5, 6, 7] rfl rfl (c_S_read l D cI cZ cB cJ _ oS qC qS qN qB C st ct bl us o1 q1 f1 n1 b1 a ha hba.1 (by omega)) kn_285 cal_S_read inst_S_read sel_S_read ⟨by decide, by decide⟩ ⟨rfl, rfl⟩ 0 rfl rfl rfl rfl hl.1 (Nat.le_of_ble_eq_true rfl) d_P_readBoth_9 ⟨Nat.zero_le _, Nat.zero_le _⟩) rfl rfl rfl (by decide) (fun u_9 H locs hw hP hD hS => ?_)
  have hP : va_P D pn_cl [(oP, .inr (4, [.ref oS, .ref oe, .ref oT, .ref o1, .ref o2, .ref o3, .ref o4])), (o2, .inr (1, [.ref q2, .int (nI n2), .int (pn_b b2)])), (q2, .inl (cI, 632, .inl f2)), (oS, .inr (2, [.ref qC, .ref qS, .ref qN, .ref qB, .int (nI us)])), (qC, .inl (cI, 17500, .inl C)), (qS, .inl (cI, 24, .inl (fun z9 => nI (st z9)))), (qN, .inl (cI, 24, .inl (fun z9 => nI (ct z9)))), (qB, .inl (cZ, 24, .inl (fun z9 => pn_b (bl z9)))), (o1, .inr (1, [.ref q1, .int (nI (ct a)), .int (pn_b (bl a))])), (q1, .inl (cI, 632, .inl u_9))] H := hP
  have hD : va_D A [(oP, .inr (4, [.ref oS, .ref oe, .ref oT, .ref o1, .ref o2, .ref o3, .ref o4])), (o2, .inr (1, [.ref q2, .int (nI n2), .int (pn_b b2)])), (q2, .inl (cI, 632, .inl f2)), (oS, .inr (2, [.ref qC, .ref qS, .ref qN, .ref qB, .int (nI us)])), (qC, .inl (cI, 17500, .inl C)), (qS, .inl (cI, 24, .inl (fun z9 => nI (st z9)))), (qN, .inl (cI, 24, .inl (fun z9 => nI (ct z9)))), (qB, .inl (cZ, 24, .inl (fun z9 => pn_b (bl z9)))), (o1, .inr (1, [.ref q1, .int (nI (ct a)), .int (pn_b (bl a))])), (q1, .inl (cI, 632, .inl u_9))] := hD
  have hw1 := pn_reg_read hρ ha hw
  refine lv_aload_n hx hb d_P_readBoth_12 rfl (lv_at hl 0 rfl) ?_
  refine pw_get Fx hK hP fld_P 0 rfl 0 (by decide) kw_112 (v := .ref oS) rfl d_P_readBoth_13 ?_
  refine lv_iload_n hx hb d_P_readBoth_16 rfl (lv_at hl 2 rfl) ?_
  refine lv_aload_n hx hb d_P_readBoth_17 rfl (lv_at hl 0 rfl) ?_
  refine pw_get Fx hK hP fld_P 0 rfl 4 (by decide) kw_116 (v := .ref o2) rfl d_P_readBoth_18 ?_
  refine pn_bv (wr := [(oP, .inr (4, [.ref oS, .ref oe, .ref oT, .ref o1, .ref o2, .ref o3, .ref o4])), (o1, .inr (1, [.ref q1, .int (nI (ct a)), .int (pn_b (bl a))])), (q1, .inl (cI, 632, .inl u_9))]) [3, 4, 5, 6, 7, 1, 2] [0, 8, 9] hP hD hS hA (pn_rVN [.int (nI b), .ref o2] [] Fx hK hN hP hD [3, 4, 5, 6, 7, 1, 2] rfl rfl (c_S_read l D cI cZ cB cJ _ oS qC qS qN qB C st ct bl us o2 q2 f2 n2 b2 b hb9 hbb.1 (by omega)) kn_285 cal_S_read inst_S_read sel_S_read ⟨by decide, by decide⟩ ⟨rfl, rfl⟩ 0 rfl rfl rfl rfl hl.1 (Nat.le_of_ble_eq_true rfl) d_P_readBoth_21 ⟨Nat.zero_le _, Nat.zero_le _⟩) rfl rfl rfl (by decide) (fun u_21 H locs hw hP hD hS => ?_)
  have hP : va_P D pn_cl [(oP, .inr (4, [.ref oS, .ref oe, .ref oT, .ref o1, .ref o2, .ref o3, .ref o4])), (o1, .inr (1, [.ref q1, .int (nI (ct a)), .int (pn_b (bl a))])), (q1, .inl (cI, 632, .inl u_9)), (oS, .inr (2, [.ref qC, .ref qS, .ref qN, .ref qB, .int (nI us)])), (qC, .inl (cI, 17500, .inl C)), (qS, .inl (cI, 24, .inl (fun z9 => nI (st z9)))), (qN, .inl (cI, 24, .inl (fun z9 => nI (ct z9)))), (qB, .inl (cZ, 24, .inl (fun z9 => pn_b (bl z9)))), (o2, .inr (1, [.ref q2, .int (nI (ct b)), .int (pn_b (bl b))])), (q2, .inl (cI, 632, .inl u_21))] H := hP
  have hD : va_D A [(oP, .inr (4, [.ref oS, .ref oe, .ref oT, .ref o1, .ref o2, .ref o3, .ref o4])), (o1, .inr (1, [.ref q1, .int (nI (ct a)), .int (pn_b (bl a))])), (q1, .inl (cI, 632, .inl u_9)), (oS, .inr (2, [.ref qC, .ref qS, .ref qN, .ref qB, .int (nI us)])), (qC, .inl (cI, 17500, .inl C)), (qS, .inl (cI, 24, .inl (fun z9 => nI (st z9)))), (qN, .inl (cI, 24, .inl (fun z9 => nI (ct z9)))), (qB, .inl (cZ, 24, .inl (fun z9 => pn_b (bl z9)))), (o2, .inr (1, [.ref q2, .int (nI (ct b)), .int (pn_b (bl b))])), (q2, .inl (cI, 632, .inl u_21))] := hD
  have hw2 := pn_reg_read hρ hb9 hw
  exact pn_retv ((u_9, u_21)) Fx hr hlocks hQ hAe (hP.sub [0, 3, 4, 5, 6, 7, 1, 2, 8, 9] rfl) (hD.sub [0, 3, 4, 5, 6, 7, 1, 2, 8, 9] (by decide) rfl) hS (by (try dsimp only); first | done | exact (⟨hw1, hw2⟩)) d_P_readBoth_24

set_option maxHeartbeats 4000000 in
set_option maxRecDepth 100000 in
theorem c_P_leastProductBits (l : Launch) (D : va_G) (cI cZ cB cJ : ClassId) (sz : Nat) (oP oS oe oT o1 o2 o3 o4 : Nat) (q1 : Nat) (f1 : Nat → Int32) (n1 : Nat) (b1 : Bool) (q2 : Nat) (f2 : Nat → Int32) (n2 : Nat) (b2 : Bool) (hn1 : n1 ≤ 632) (hn2 : n2 ≤ 632) (hz1 : pn_nz f1 n1) (hz2 : pn_nz f2 n2) : pn_Ci l D (pn_ty cI cZ cB cJ) y_P_leastProductBits w_P_leastProductBits ({ frames := 2, cells := 0, slots := 0, locals := 80 } : Room) [.ref oP] [(oP, .inr (4, [.ref oS, .ref oe, .ref oT, .ref o1, .ref o2, .ref o3, .ref o4])), (o1, .inr (1, [.ref q1, .int (nI n1), .int (pn_b b1)])), (q1, .inl (cI, 632, .inl f1)), (o2, .inr (1, [.ref q2, .int (nI n2), .int (pn_b b2)])), (q2, .inl (cI, 632, .inl f2))] sz (S := Unit) (fun r _ => r = pn_I ((pn_len (pn_V f1 n1) + pn_len (pn_V f2 n2) : Nat) - 1 : Int)) (fun _ => [(oP, .inr (4, [.ref oS, .ref oe, .ref oT, .ref o1, .ref o2, .ref o3, .ref o4])), (o1, .inr (1, [.ref q1, .int (nI n1), .int (pn_b b1)])), (q1, .inl (cI, 632, .inl f1)), (o2, .inr (1, [.ref q2, .int (nI n2), .int (pn_b b2)])), (q2, .inl (cI, 632, .inl f2))]) := by
  refine pn_start (by decide) (Nat.le_of_ble_eq_true rfl) ?_
  intro p e s m below meth c A Q ls hQ hAe Fx hr hlocks hN hK hP hD hS hA hl
  have hx := Fx.1
  have hb := Fx.2.1
  have hl : lv_has ls 1 [(0, .ref oP)] := hl
  refine lv_aload_n hx hb d_P_leastProductBits_0 rfl (lv_at hl 0 rfl) ?_
  refine pw_get Fx hK hP fld_P 0 rfl 3 (by decide) kw_115 (v := .ref o1) rfl d_P_leastProductBits_1 ?_
  refine pn_bi (wr := [(oP, .inr (4, [.ref oS, .ref oe, .ref oT, .ref o1, .ref o2, .ref o3, .ref o4])), (o2, .inr (1, [.ref q2, .int (nI n2), .int (pn_b b2)])), (q2, .inl (cI, 632, .inl f2))]) [1, 2] [0, 3, 4] hP hD hS hA (pn_rVN [] [] Fx hK hN hP hD [1, 2] rfl rfl (c_R_bits l D cI cZ cB cJ _ o1 q1 f1 n1 b1 hn1 hz1) kn_234 cal_R_bits inst_R_bits sel_R_bits ⟨by decide, by decide⟩ ⟨rfl, rfl⟩ 0 rfl rfl rfl rfl hl.1 (Nat.le_of_ble_eq_true rfl) d_P_leastProductBits_4 ⟨Nat.zero_le _, Nat.zero_le _⟩) rfl rfl rfl (by decide) (fun r_4 u_4 H locs hw hP hD hS => ?_)
  obtain ⟨⟩ := u_4
  obtain rfl := hw
  have hP : va_P D pn_cl [(oP, .inr (4, [.ref oS, .ref oe, .ref oT, .ref o1, .ref o2, .ref o3, .ref o4])), (o2, .inr (1, [.ref q2, .int (nI n2), .int (pn_b b2)])), (q2, .inl (cI, 632, .inl f2)), (o1, .inr (1, [.ref q1, .int (nI n1), .int (pn_b b1)])), (q1, .inl (cI, 632, .inl f1))] H := hP
  have hD : va_D A [(oP, .inr (4, [.ref oS, .ref oe, .ref oT, .ref o1, .ref o2, .ref o3, .ref o4])), (o2, .inr (1, [.ref q2, .int (nI n2), .int (pn_b b2)])), (q2, .inl (cI, 632, .inl f2)), (o1, .inr (1, [.ref q1, .int (nI n1), .int (pn_b b1)])), (q1, .inl (cI, 632, .inl f1))] := hD
  refine lv_aload_n hx hb d_P_leastProductBits_7 rfl (lv_at hl 0 rfl) ?_
  refine pw_get Fx hK hP fld_P 0 rfl 4 (by decide) kw_116 (v := .ref o2) rfl d_P_leastProductBits_8 ?_
  refine pn_bi (wr := [(oP, .inr (4, [.ref oS, .ref oe, .ref oT, .ref o1, .ref o2, .ref o3, .ref o4])), (o1, .inr (1, [.ref q1, .int (nI n1), .int (pn_b b1)])), (q1, .inl (cI, 632, .inl f1))]) [1, 2] [0, 3, 4] hP hD hS hA (pn_rVN [] [.int (nI (pn_len (pn_V f1 n1)))] Fx hK hN hP hD [1, 2] rfl rfl (c_R_bits l D cI cZ cB cJ _ o2 q2 f2 n2 b2 hn2 hz2) kn_234 cal_R_bits inst_R_bits sel_R_bits ⟨by decide, by decide⟩ ⟨rfl, rfl⟩ 0 rfl rfl rfl rfl hl.1 (Nat.le_of_ble_eq_true rfl) d_P_leastProductBits_11 ⟨Nat.zero_le _, Nat.zero_le _⟩) rfl rfl rfl (by decide) (fun r_11 u_11 H locs hw hP hD hS => ?_)
  obtain ⟨⟩ := u_11
  obtain rfl := hw
  have hP : va_P D pn_cl [(oP, .inr (4, [.ref oS, .ref oe, .ref oT, .ref o1, .ref o2, .ref o3, .ref o4])), (o1, .inr (1, [.ref q1, .int (nI n1), .int (pn_b b1)])), (q1, .inl (cI, 632, .inl f1)), (o2, .inr (1, [.ref q2, .int (nI n2), .int (pn_b b2)])), (q2, .inl (cI, 632, .inl f2))] H := hP
  have hD : va_D A [(oP, .inr (4, [.ref oS, .ref oe, .ref oT, .ref o1, .ref o2, .ref o3, .ref o4])), (o1, .inr (1, [.ref q1, .int (nI n1), .int (pn_b b1)])), (q1, .inl (cI, 632, .inl f1)), (o2, .inr (1, [.ref q2, .int (nI n2), .int (pn_b b2)])), (q2, .inl (cI, 632, .inl f2))] := hD
  refine pw_iadd hx hb d_P_leastProductBits_14 ?_
  refine lv_iconst (v := nI 1) hx hb d_P_leastProductBits_15 (by decide) ?_
  refine lv_isub hx hb d_P_leastProductBits_16 ?_
  refine pn_topi (pn_I (((pn_len (pn_V f1 n1) + pn_len (pn_V f2 n2) : Nat) : Int) - 1)) (pn_dec _) ?_
  exact pn_reti (()) Fx hr hlocks hQ hAe hP hD hS (by (try dsimp only); first | done | exact (rfl)) d_P_leastProductBits_17
