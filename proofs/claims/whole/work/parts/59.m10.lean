def pm_regs (kp km : Nat → Nat) (sg : Nat → Int32) (ρ : Nat → Int) : Prop := ∀ r, r < 24 → pm_R kp km r (ρ r).natAbs ∧ sg r = pn_cmp (ρ r) 0 ∧ pn_lenI (ρ r) ≤ 20000
theorem pm_1506 : (2 : Nat) ^ 20000 < 10000 ^ 1506 := by decide +kernel
theorem pm_nat2 {v : Nat} (h : pn_len (v : Int) ≤ 20000) : v < 2 ^ 20000 := by
  have e := (pn_len_le (Int.natCast_nonneg v) 20000).mp h
  have c : ((2 : Int) ^ 20000) = ((2 ^ 20000 : Nat) : Int) := by rw [Int.natCast_pow]; rfl
  rw [c] at e; exact Int.ofNat_lt.mp e
theorem pm_1506l {v : Nat} (h : pn_len (v : Int) ≤ 20000) : v < 10000 ^ 1506 := Nat.lt_trans (pm_nat2 h) pm_1506
theorem pm_regs_put {kp km kp2 : Nat → Nat} {sg : Nat → Int32} {ρ : Nat → Int} {r n : Nat} {V : Int} {s9 : Int32} {f : Nat → Nat} (h : pm_regs kp km sg ρ) (hr : r < 24) (hn : n ≤ 1506) (hf : pm_fig f n) (hz : pm_nz f n) (hv : pm_V f n = V.natAbs) (hl : pn_lenI V ≤ 20000) (hs : s9 = pn_cmp V 0) (h1 : ∀ i, i < n → kp2 (1520 * r + i) = f i) (h2 : ∀ q i, q ≠ r → i < 1520 → kp2 (1520 * q + i) = kp (1520 * q + i)) : pm_regs kp2 (pn_up km r n) (upd sg r s9) (pn_up ρ r V) := by
  intro q hq
  by_cases z : q = r
  · subst z
    unfold pm_R
    rw [pn_up_s, pn_up_s, pk_us]
    refine ⟨⟨by omega, fun i hi => ?_, fun i hi => ?_, ?_⟩, hs, hl⟩
    · show kp2 (1520 * q + i) < 10000; rw [h1 i hi]; exact hf i hi
    · show kp2 (1520 * q + i) ≠ 0; rw [h1 i (by omega)]; exact hz i hi
    · rw [pm_V_congr (f := fun i => kp2 (1520 * q + i)) (g := f) h1]; exact hv
  · obtain ⟨⟨a1, a2, a3, a4⟩, a5, a6⟩ := h q hq
    unfold pm_R
    rw [pn_up_n z, pn_up_n z, pk_un z]
    refine ⟨⟨a1, fun i hi => ?_, fun i hi => ?_, ?_⟩, a5, a6⟩
    · show kp2 (1520 * q + i) < 10000; rw [h2 q i z (by omega)]; exact a2 i hi
    · show kp2 (1520 * q + i) ≠ 0; rw [h2 q i z (by omega)]; exact a3 i hi
    · rw [pm_V_congr (f := fun i => kp2 (1520 * q + i)) (g := fun i => kp (1520 * q + i)) (fun i hi => h2 q i z (by omega))]; exact a4

set_option maxHeartbeats 4000000 in
set_option maxRecDepth 100000 in
theorem c_M_put (l : Launch) (D : va_G) (cI cZ cB cJ : ClassId) (sz : Nat) (oM qW qM qK qJ qG qH qP cd pl : Nat) (wk mn : Nat → Nat) (hv kp km : Nat → Nat) (sg : Nat → Int32) (ρ : Nat → Int) (r9 b fu : Nat) (s9 : Int32) (V : Int) (hb7 : b < 7) (hb3 : b ≠ 3) (hr9 : r9 < 24) (hfu : 0 < fu) (hfu2 : fu < 2 ^ 31) (hN1 : pm_N wk mn b V.natAbs) (hlim : V.natAbs < 65536 ^ 2700) (hs9 : V = 0 ∨ s9 = pn_cmp V 0) (hρ : pm_regs kp km sg ρ) : pn_Ci l D (pn_ty cI cZ cB cJ) y_M_put w_M_put ({ frames := 3, cells := 0, slots := 0, locals := 110 } : Room) [.ref oM, .int (nI r9), .int (nI b), .int s9, .int (nI fu)] [(oM, .inr (5, [.int (nI cd), .ref qW, .ref qM, .ref qK, .ref qJ, .ref qG, .ref qH, .ref qP, .int (nI pl)])), (qW, .inl (cI, 22400, .inl (fun z9 => nI (wk z9)))), (qM, .inl (cI, 7, .inl (fun z9 => nI (mn z9)))), (qH, .inl (cI, 2700, .inl (fun z9 => nI (hv z9)))), (qK, .inl (cI, 36480, .inl (fun z9 => nI (kp z9)))), (qJ, .inl (cI, 24, .inl (fun z9 => nI (km z9)))), (qG, .inl (cI, 24, .inl sg))] sz (S := Nat × (Nat → Nat) × (Nat → Nat) × (Nat → Nat) × (Nat → Nat) × (Nat → Nat) × (Nat → Int32)) (fun r u => pm_K 3 wk mn u.2.1 u.2.2.1 ∧ ((pn_lenI V ≤ 20000 ∧ r = nI (pn_lenI V) ∧ u.1 = 0 ∧ pm_regs u.2.2.2.2.1 u.2.2.2.2.2.1 u.2.2.2.2.2.2 (pn_up ρ r9 V)) ∨ (20000 < pn_lenI V ∧ r = nI 0 ∧ u.1 = fu ∧ pm_regs u.2.2.2.2.1 u.2.2.2.2.2.1 u.2.2.2.2.2.2 ρ))) (fun u => [(oM, .inr (5, [.int (nI u.1), .ref qW, .ref qM, .ref qK, .ref qJ, .ref qG, .ref qH, .ref qP, .int (nI pl)])), (qW, .inl (cI, 22400, .inl (fun z9 => nI (u.2.1 z9)))), (qM, .inl (cI, 7, .inl (fun z9 => nI (u.2.2.1 z9)))), (qH, .inl (cI, 2700, .inl (fun z9 => nI (u.2.2.2.1 z9)))), (qK, .inl (cI, 36480, .inl (fun z9 => nI (u.2.2.2.2.1 z9)))), (qJ, .inl (cI, 24, .inl (fun z9 => nI (u.2.2.2.2.2.1 z9)))), (qG, .inl (cI, 24, .inl u.2.2.2.2.2.2))]) := by
  refine pn_start (by decide) (Nat.le_of_ble_eq_true rfl) ?_
  intro p e s m below meth c A Q ls hQ hAe Fx hr hlocks hN hK hP hD hS hA hl
  have hx := Fx.1
  have hb := Fx.2.1
  have hl : lv_has ls 7 [(0, .ref oM), (1, .int (nI r9)), (2, .int (nI b)), (3, .int s9), (4, .int (nI fu))] := hl
  refine lv_aload_n hx hb d_M_put_0 rfl (lv_at hl 0 rfl) ?_
  refine lv_iload_n hx hb d_M_put_1 rfl (lv_at hl 2 rfl) ?_
  refine pn_bi (wr := [(qK, .inl (cI, 36480, .inl (fun z9 => nI (kp z9)))), (qJ, .inl (cI, 24, .inl (fun z9 => nI (km z9)))), (qG, .inl (cI, 24, .inl sg))]) [0, 1, 2, 3] [4, 5, 6] hP hD hS hA (pn_rV [.int (nI b)] [] Fx hK hN hP hD [0, 1, 2, 3] rfl rfl (c_M_bits l D cI cZ cB cJ _ oM qW qM qK qJ qG qH qP cd pl wk mn hv b V.natAbs hb7 hb3 hN1 hlim) kw_682 cal_M_bits inst_M_bits sel_M_bits ⟨by decide, by decide⟩ ⟨rfl, rfl⟩ 0 rfl rfl rfl rfl hl.1 (Nat.le_of_ble_eq_true rfl) d_M_put_2 ⟨Nat.zero_le _, Nat.zero_le _⟩) rfl rfl rfl (by decide) (fun r_2 u_2 H locs hw hP hD hS => ?_)
  obtain ⟨w1, m1, h1⟩ := u_2
  obtain ⟨rfl, hK1⟩ := hw
  have hP : va_P D pn_cl [(qK, .inl (cI, 36480, .inl (fun z9 => nI (kp z9)))), (qJ, .inl (cI, 24, .inl (fun z9 => nI (km z9)))), (qG, .inl (cI, 24, .inl sg)), (oM, .inr (5, [.int (nI cd), .ref qW, .ref qM, .ref qK, .ref qJ, .ref qG, .ref qH, .ref qP, .int (nI pl)])), (qW, .inl (cI, 22400, .inl (fun z9 => nI (w1 z9)))), (qM, .inl (cI, 7, .inl (fun z9 => nI (m1 z9)))), (qH, .inl (cI, 2700, .inl (fun z9 => nI (h1 z9))))] H := hP
  have hD : va_D A [(qK, .inl (cI, 36480, .inl (fun z9 => nI (kp z9)))), (qJ, .inl (cI, 24, .inl (fun z9 => nI (km z9)))), (qG, .inl (cI, 24, .inl sg)), (oM, .inr (5, [.int (nI cd), .ref qW, .ref qM, .ref qK, .ref qJ, .ref qG, .ref qH, .ref qP, .int (nI pl)])), (qW, .inl (cI, 22400, .inl (fun z9 => nI (w1 z9)))), (qM, .inl (cI, 7, .inl (fun z9 => nI (m1 z9)))), (qH, .inl (cI, 2700, .inl (fun z9 => nI (h1 z9))))] := hD
  dsimp only at hK1
  have hN2 := hK1 b _ hb3 hN1
  obtain ⟨n1, n2, n3, n4⟩ := id hN2
  have hlb : pn_len (V.natAbs : Int) < 2 ^ 31 := Nat.lt_of_le_of_lt ((pn_len_le (Int.natCast_nonneg _) 43200).mpr (by have := Int.ofNat_lt.mpr hlim; rw [pm_2_65, Int.natCast_pow] at this; exact this)) (by decide)
  refine lv_istore (lv' := [(5, .int (nI (pn_len (V.natAbs : Int)))), (0, .ref oM), (1, .int (nI r9)), (2, .int (nI b)), (3, .int s9), (4, .int (nI fu))]) hx hb d_M_put_5 hl (by decide) rfl (fun ls hl => ?_)
  refine lv_aload_n hx hb d_M_put_7 rfl (lv_at hl 1 rfl) ?_
  refine lv_iload hx hb d_M_put_8 (lv_at hl 0 rfl) ?_
  refine lv_sipush (v := nI 20000) hx hb d_M_put_10 (by decide) ?_
  refine pw_icmp_le (a := pn_len (V.natAbs : Int)) (b := 20000) (tgt := 21) hx hb d_M_put_13 (by decide) (by omega) (by omega) (fun h_13 => ?_) (fun h_13 => ?_)
  · skip
    refine lv_iconst (v := nI 0) hx hb d_M_put_21 (by decide) ?_
    refine pn_bi (wr := [(qK, .inl (cI, 36480, .inl (fun z9 => nI (kp z9)))), (qJ, .inl (cI, 24, .inl (fun z9 => nI (km z9)))), (qG, .inl (cI, 24, .inl sg)), (qW, .inl (cI, 22400, .inl (fun z9 => nI (w1 z9)))), (qM, .inl (cI, 7, .inl (fun z9 => nI (m1 z9)))), (qH, .inl (cI, 2700, .inl (fun z9 => nI (h1 z9))))]) [3] [0, 1, 2, 4, 5, 6] hP hD hS hA (pn_rV [.int (nI 0)] [] Fx hK hN hP hD [3] rfl rfl (c_M_refuses l D cI cZ cB cJ _ oM qW qM qK qJ qG qH qP cd pl 0 (by omega)) kw_669 cal_M_refuses inst_M_refuses sel_M_refuses ⟨by decide, by decide⟩ ⟨rfl, rfl⟩ 0 rfl rfl rfl rfl hl.1 (Nat.le_of_ble_eq_true rfl) d_M_put_22 ⟨Nat.zero_le _, Nat.zero_le _⟩) rfl rfl rfl (by decide) (fun r_22 u_22 H locs hw hP hD hS => ?_)
    obtain ⟨rfl, hrf⟩ := hw
    have hP : va_P D pn_cl [(qK, .inl (cI, 36480, .inl (fun z9 => nI (kp z9)))), (qJ, .inl (cI, 24, .inl (fun z9 => nI (km z9)))), (qG, .inl (cI, 24, .inl sg)), (qW, .inl (cI, 22400, .inl (fun z9 => nI (w1 z9)))), (qM, .inl (cI, 7, .inl (fun z9 => nI (m1 z9)))), (qH, .inl (cI, 2700, .inl (fun z9 => nI (h1 z9)))), (oM, .inr (5, [.int (nI 0), .ref qW, .ref qM, .ref qK, .ref qJ, .ref qG, .ref qH, .ref qP, .int (nI pl)]))] H := hP
    have hD : va_D A [(qK, .inl (cI, 36480, .inl (fun z9 => nI (kp z9)))), (qJ, .inl (cI, 24, .inl (fun z9 => nI (km z9)))), (qG, .inl (cI, 24, .inl sg)), (qW, .inl (cI, 22400, .inl (fun z9 => nI (w1 z9)))), (qM, .inl (cI, 7, .inl (fun z9 => nI (m1 z9)))), (qH, .inl (cI, 2700, .inl (fun z9 => nI (h1 z9)))), (oM, .inr (5, [.int (nI 0), .ref qW, .ref qM, .ref qK, .ref qJ, .ref qG, .ref qH, .ref qP, .int (nI pl)]))] := hD
    refine pw_ifb_eq (tgt := 30) hx hb d_M_put_25 (by decide) (fun h_25 => ?_) (fun h_25 => ?_)
    · skip
      have hmb : m1 b ≤ 1506 := pm_N_cnt hN2 (pm_1506l h_13)
      refine lv_iconst (v := nI 0) hx hb d_M_put_30 (by decide) ?_
      refine lv_istore (lv' := [(6, .int (nI 0)), (5, .int (nI (pn_len (V.natAbs : Int)))), (0, .ref oM), (1, .int (nI r9)), (2, .int (nI b)), (3, .int s9), (4, .int (nI fu))]) hx hb d_M_put_31 hl (by decide) rfl (fun ls hl => ?_)
      have loop33 : ∀ (N : Nat) (k : Nat) (kp1 : Nat → Nat), m1 b - k < N → (k ≤ m1 b) → (∀ i, i < k → kp1 (1520 * r9 + i) = pm_at w1 b i) → (∀ q i, q ≠ r9 → i < 1520 → kp1 (1520 * q + i) = kp (1520 * q + i)) → ∀ (H : Heap) (locs : List Loc) (ls : Array Slot), lv_has ls 7 [(6, .int (nI k)), (5, .int (nI (pn_len (V.natAbs : Int)))), (0, .ref oM), (1, .int (nI r9)), (2, .int (nI b)), (3, .int s9), (4, .int (nI fu))] → va_P D pn_cl [(oM, .inr (5, [.int (nI 0), .ref qW, .ref qM, .ref qK, .ref qJ, .ref qG, .ref qH, .ref qP, .int (nI pl)])), (qW, .inl (cI, 22400, .inl (fun z9 => nI (w1 z9)))), (qM, .inl (cI, 7, .inl (fun z9 => nI (m1 z9)))), (qH, .inl (cI, 2700, .inl (fun z9 => nI (h1 z9)))), (qK, .inl (cI, 36480, .inl (fun z9 => nI (kp1 z9)))), (qJ, .inl (cI, 24, .inl (fun z9 => nI (km z9)))), (qG, .inl (cI, 24, .inl sg))] H → va_D A [(oM, .inr (5, [.int (nI 0), .ref qW, .ref qM, .ref qK, .ref qJ, .ref qG, .ref qH, .ref qP, .int (nI pl)])), (qW, .inl (cI, 22400, .inl (fun z9 => nI (w1 z9)))), (qM, .inl (cI, 7, .inl (fun z9 => nI (m1 z9)))), (qH, .inl (cI, 2700, .inl (fun z9 => nI (h1 z9)))), (qK, .inl (cI, 36480, .inl (fun z9 => nI (kp1 z9)))), (qJ, .inl (cI, 24, .inl (fun z9 => nI (km z9)))), (qG, .inl (cI, 24, .inl sg))] → va_S A s.heap H locs → W p l e ({ frames := 3, cells := 0, slots := 0, locals := 110 } : Room) s m ([.ref oM, .int (nI r9), .int (nI b), .int s9, .int (nI fu)] : List Value).toArray below meth c H locs 0 0 Q (F0 m 33 ls []) := by
        intro N
        induction N with
        | zero => intro k kp1 hM; exact absurd hM (Nat.not_lt_zero _)
        | succ N ih33 =>
          intro k kp1 hM33 hk hk1 hk2 H locs ls hl hP hD hS
          refine lv_iload hx hb d_M_put_33 (lv_at hl 0 rfl) ?_
          refine lv_aload_n hx hb d_M_put_35 rfl (lv_at hl 2 rfl) ?_
          refine pw_get Fx hK hP fld_M 0 rfl 2 (by decide) kw_632 (v := .ref qM) rfl d_M_put_36 ?_
          refine lv_iload_n hx hb d_M_put_39 rfl (lv_at hl 4 rfl) ?_
          refine pw_iald Fx hK hP 2 0 (f := fun z9 => nI (m1 z9)) rfl rfl (k := b) (by omega) (by decide) d_M_put_40 ?_
          refine pn_topi (nI (m1 b)) rfl ?_
          refine pw_icmp_ge (a := k) (b := m1 b) (tgt := 76) hx hb d_M_put_41 (by decide) (by omega) (by omega) (fun h_41 => ?_) (fun h_41 => ?_)
          · skip
            obtain rfl : k = m1 b := by omega
            refine lv_aload_n hx hb d_M_put_76 rfl (lv_at hl 2 rfl) ?_
            refine pw_get Fx hK hP fld_M 0 rfl 4 (by decide) kw_634 (v := .ref qJ) rfl d_M_put_77 ?_
            refine lv_iload_n hx hb d_M_put_80 rfl (lv_at hl 3 rfl) ?_
            refine lv_aload_n hx hb d_M_put_81 rfl (lv_at hl 2 rfl) ?_
            refine pw_get Fx hK hP fld_M 0 rfl 2 (by decide) kw_632 (v := .ref qM) rfl d_M_put_82 ?_
            refine lv_iload_n hx hb d_M_put_85 rfl (lv_at hl 4 rfl) ?_
            refine pw_iald Fx hK hP 2 0 (f := fun z9 => nI (m1 z9)) rfl rfl (k := b) (by omega) (by decide) d_M_put_86 ?_
            refine pn_topi (nI (m1 b)) rfl ?_
            refine pw_iastN Fx hK hP hD hS 5 0 (g := km) rfl rfl (k := r9) (by omega) (by decide) (w' := [(oM, .inr (5, [.int (nI 0), .ref qW, .ref qM, .ref qK, .ref qJ, .ref qG, .ref qH, .ref qP, .int (nI pl)])), (qW, .inl (cI, 22400, .inl (fun z9 => nI (w1 z9)))), (qM, .inl (cI, 7, .inl (fun z9 => nI (m1 z9)))), (qH, .inl (cI, 2700, .inl (fun z9 => nI (h1 z9)))), (qK, .inl (cI, 36480, .inl (fun z9 => nI (kp1 z9)))), (qJ, .inl (cI, 24, .inl (fun z9 => nI ((pn_up km r9 (m1 b)) z9)))), (qG, .inl (cI, 24, .inl sg))]) rfl d_M_put_87 (fun H locs hP hD hS => ?_)
            refine lv_aload_n hx hb d_M_put_88 rfl (lv_at hl 2 rfl) ?_
            refine pw_get Fx hK hP fld_M 0 rfl 5 (by decide) kw_635 (v := .ref qG) rfl d_M_put_89 ?_
            refine lv_iload_n hx hb d_M_put_92 rfl (lv_at hl 3 rfl) ?_
            refine lv_aload_n hx hb d_M_put_93 rfl (lv_at hl 2 rfl) ?_
            refine pw_get Fx hK hP fld_M 0 rfl 2 (by decide) kw_632 (v := .ref qM) rfl d_M_put_94 ?_
            refine lv_iload_n hx hb d_M_put_97 rfl (lv_at hl 4 rfl) ?_
            refine pw_iald Fx hK hP 2 0 (f := fun z9 => nI (m1 z9)) rfl rfl (k := b) (by omega) (by decide) d_M_put_98 ?_
            refine pn_topi (nI (m1 b)) rfl ?_
            refine pw_if_ne (a := m1 b) (tgt := 106) hx hb d_M_put_99 (by decide) (by omega) (fun h_99 => ?_) (fun h_99 => ?_)
            · skip
              have hsg9 : s9 = pn_cmp V 0 := hs9.resolve_left (fun q => h_99 ((pm_N_zero hN2).mpr (by rw [q]; rfl)))
              refine lv_iload_n hx hb d_M_put_106 rfl (lv_at hl 5 rfl) ?_
              refine pw_iast Fx hK hP hD hS 6 0 (f := sg) rfl rfl (k := r9) (by omega) (by decide) (w' := [(oM, .inr (5, [.int (nI 0), .ref qW, .ref qM, .ref qK, .ref qJ, .ref qG, .ref qH, .ref qP, .int (nI pl)])), (qW, .inl (cI, 22400, .inl (fun z9 => nI (w1 z9)))), (qM, .inl (cI, 7, .inl (fun z9 => nI (m1 z9)))), (qH, .inl (cI, 2700, .inl (fun z9 => nI (h1 z9)))), (qK, .inl (cI, 36480, .inl (fun z9 => nI (kp1 z9)))), (qJ, .inl (cI, 24, .inl (fun z9 => nI ((pn_up km r9 (m1 b)) z9)))), (qG, .inl (cI, 24, .inl (upd sg r9 s9)))]) rfl d_M_put_107 (fun H locs hP hD hS => ?_)
              refine lv_iload hx hb d_M_put_108 (lv_at hl 1 rfl) ?_
              exact pn_reti ((0, w1, m1, h1, kp1, pn_up km r9 (m1 b), upd sg r9 s9)) Fx hr hlocks hQ hAe hP hD hS (by (try dsimp only); first | done | exact (⟨hK1, Or.inl ⟨h_13, rfl, rfl, pm_regs_put hρ hr9 hmb n2 n3 n4 h_13 hsg9 hk1 hk2⟩⟩)) d_M_put_110
            · skip
              have hV0 : V = 0 := by have := (pm_N_zero hN2).mp h_99; omega
              have hsg9 : (nI 0 : Int32) = pn_cmp V 0 := by rw [hV0]; rfl
              refine lv_iconst (v := nI 0) hx hb d_M_put_102 (by decide) ?_
              refine lv_goto (tgt := 107) hx hb d_M_put_103 (by decide) ?_
              refine pw_iast Fx hK hP hD hS 6 0 (f := sg) rfl rfl (k := r9) (by omega) (by decide) (w' := [(oM, .inr (5, [.int (nI 0), .ref qW, .ref qM, .ref qK, .ref qJ, .ref qG, .ref qH, .ref qP, .int (nI pl)])), (qW, .inl (cI, 22400, .inl (fun z9 => nI (w1 z9)))), (qM, .inl (cI, 7, .inl (fun z9 => nI (m1 z9)))), (qH, .inl (cI, 2700, .inl (fun z9 => nI (h1 z9)))), (qK, .inl (cI, 36480, .inl (fun z9 => nI (kp1 z9)))), (qJ, .inl (cI, 24, .inl (fun z9 => nI ((pn_up km r9 (m1 b)) z9)))), (qG, .inl (cI, 24, .inl (upd sg r9 (nI 0))))]) rfl d_M_put_107 (fun H locs hP hD hS => ?_)
              refine lv_iload hx hb d_M_put_108 (lv_at hl 1 rfl) ?_
              exact pn_reti ((0, w1, m1, h1, kp1, pn_up km r9 (m1 b), upd sg r9 (nI 0))) Fx hr hlocks hQ hAe hP hD hS (by (try dsimp only); first | done | exact (⟨hK1, Or.inl ⟨h_13, rfl, rfl, pm_regs_put hρ hr9 hmb n2 n3 n4 h_13 hsg9 hk1 hk2⟩⟩)) d_M_put_110
          · skip
            refine lv_aload_n hx hb d_M_put_44 rfl (lv_at hl 2 rfl) ?_
            refine pw_get Fx hK hP fld_M 0 rfl 3 (by decide) kw_633 (v := .ref qK) rfl d_M_put_45 ?_
            refine lv_sipush (v := nI 1520) hx hb d_M_put_48 (by decide) ?_
            refine lv_iload_n hx hb d_M_put_51 rfl (lv_at hl 3 rfl) ?_
            refine pw_imul hx hb d_M_put_52 ?_
            refine lv_iload hx hb d_M_put_53 (lv_at hl 0 rfl) ?_
            refine pw_iadd hx hb d_M_put_55 ?_
            refine lv_aload_n hx hb d_M_put_56 rfl (lv_at hl 2 rfl) ?_
            refine pw_get Fx hK hP fld_M 0 rfl 1 (by decide) kw_631 (v := .ref qW) rfl d_M_put_57 ?_
            refine lv_sipush (v := nI 3200) hx hb d_M_put_60 (by decide) ?_
            refine lv_iload_n hx hb d_M_put_63 rfl (lv_at hl 4 rfl) ?_
            refine pw_imul hx hb d_M_put_64 ?_
            refine lv_iload hx hb d_M_put_65 (lv_at hl 0 rfl) ?_
            refine pw_iadd hx hb d_M_put_67 ?_
            refine pw_iald Fx hK hP 1 0 (f := fun z9 => nI (w1 z9)) rfl rfl (k := 3200 * b + k) (by omega) (by decide) d_M_put_68 ?_
            refine pn_topi (nI (w1 (3200 * b + k))) rfl ?_
            refine pw_iastN Fx hK hP hD hS 4 0 (g := kp1) rfl rfl (k := 1520 * r9 + k) (by omega) (by decide) (w' := [(oM, .inr (5, [.int (nI 0), .ref qW, .ref qM, .ref qK, .ref qJ, .ref qG, .ref qH, .ref qP, .int (nI pl)])), (qW, .inl (cI, 22400, .inl (fun z9 => nI (w1 z9)))), (qM, .inl (cI, 7, .inl (fun z9 => nI (m1 z9)))), (qH, .inl (cI, 2700, .inl (fun z9 => nI (h1 z9)))), (qK, .inl (cI, 36480, .inl (fun z9 => nI ((pn_up kp1 (1520 * r9 + k) (w1 (3200 * b + k))) z9)))), (qJ, .inl (cI, 24, .inl (fun z9 => nI (km z9)))), (qG, .inl (cI, 24, .inl sg))]) rfl d_M_put_69 (fun H locs hP hD hS => ?_)
            refine lv_iinc (v := nI (k + 1)) (lv' := [(6, .int (nI (k + 1))), (5, .int (nI (pn_len (V.natAbs : Int)))), (0, .ref oM), (1, .int (nI r9)), (2, .int (nI b)), (3, .int s9), (4, .int (nI fu))]) hx hb d_M_put_70 hl (k := 0) rfl (nI_add _ 1) (by decide) rfl (fun ls hl => ?_)
            refine lv_goto (tgt := 33) hx hb d_M_put_73 (by decide) ?_
            exact ih33 (k + 1) _ (by omega) (by omega) (fun i hi => by rcases (show i = k ∨ i < k by omega) with y | y; (· rw [y, pn_up_s]; rfl); (· rw [pn_up_n (by omega)]; exact hk1 i y)) (fun q i h1 h2 => by rw [pn_up_n (by omega)]; exact hk2 q i h1 h2) _ _ _ hl hP hD hS
      exact loop33 _ 0 kp (Nat.lt_succ_self _) (Nat.zero_le _) (fun i hi => by omega) (fun _ _ _ _ => rfl) _ _ _ hl (hP.sub [6, 3, 4, 5, 0, 1, 2] rfl) (hD.sub [6, 3, 4, 5, 0, 1, 2] (by decide) rfl) hS
    · skip
      rw [hrf] at h_25
      exact absurd h_25 (by decide)
  · skip
    refine lv_iload hx hb d_M_put_16 (lv_at hl 5 rfl) ?_
    refine lv_goto (tgt := 22) hx hb d_M_put_18 (by decide) ?_
    refine pn_bi (wr := [(qK, .inl (cI, 36480, .inl (fun z9 => nI (kp z9)))), (qJ, .inl (cI, 24, .inl (fun z9 => nI (km z9)))), (qG, .inl (cI, 24, .inl sg)), (qW, .inl (cI, 22400, .inl (fun z9 => nI (w1 z9)))), (qM, .inl (cI, 7, .inl (fun z9 => nI (m1 z9)))), (qH, .inl (cI, 2700, .inl (fun z9 => nI (h1 z9))))]) [3] [0, 1, 2, 4, 5, 6] hP hD hS hA (pn_rV [.int (nI fu)] [] Fx hK hN hP hD [3] rfl rfl (c_M_refuses l D cI cZ cB cJ _ oM qW qM qK qJ qG qH qP cd pl fu (by omega)) kw_669 cal_M_refuses inst_M_refuses sel_M_refuses ⟨by decide, by decide⟩ ⟨rfl, rfl⟩ 0 rfl rfl rfl rfl hl.1 (Nat.le_of_ble_eq_true rfl) d_M_put_22 ⟨Nat.zero_le _, Nat.zero_le _⟩) rfl rfl rfl (by decide) (fun r_22 u_22 H locs hw hP hD hS => ?_)
    obtain ⟨rfl, hrf⟩ := hw
    have hP : va_P D pn_cl [(qK, .inl (cI, 36480, .inl (fun z9 => nI (kp z9)))), (qJ, .inl (cI, 24, .inl (fun z9 => nI (km z9)))), (qG, .inl (cI, 24, .inl sg)), (qW, .inl (cI, 22400, .inl (fun z9 => nI (w1 z9)))), (qM, .inl (cI, 7, .inl (fun z9 => nI (m1 z9)))), (qH, .inl (cI, 2700, .inl (fun z9 => nI (h1 z9)))), (oM, .inr (5, [.int (nI fu), .ref qW, .ref qM, .ref qK, .ref qJ, .ref qG, .ref qH, .ref qP, .int (nI pl)]))] H := hP
    have hD : va_D A [(qK, .inl (cI, 36480, .inl (fun z9 => nI (kp z9)))), (qJ, .inl (cI, 24, .inl (fun z9 => nI (km z9)))), (qG, .inl (cI, 24, .inl sg)), (qW, .inl (cI, 22400, .inl (fun z9 => nI (w1 z9)))), (qM, .inl (cI, 7, .inl (fun z9 => nI (m1 z9)))), (qH, .inl (cI, 2700, .inl (fun z9 => nI (h1 z9)))), (oM, .inr (5, [.int (nI fu), .ref qW, .ref qM, .ref qK, .ref qJ, .ref qG, .ref qH, .ref qP, .int (nI pl)]))] := hD
    refine pw_ifb_eq (tgt := 30) hx hb d_M_put_25 (by decide) (fun h_25 => ?_) (fun h_25 => ?_)
    · skip
      rw [hrf, decide_eq_true hfu] at h_25
      exact absurd h_25 (by decide)
    · skip
      refine lv_iconst (v := nI 0) hx hb d_M_put_28 (by decide) ?_
      exact pn_reti ((fu, w1, m1, h1, kp, km, sg)) Fx hr hlocks hQ hAe (hP.sub [6, 3, 4, 5, 0, 1, 2] rfl) (hD.sub [6, 3, 4, 5, 0, 1, 2] (by decide) rfl) hS (by (try dsimp only); first | done | exact (⟨hK1, Or.inr ⟨h_13, rfl, rfl, hρ⟩⟩)) d_M_put_29

theorem pm_cs {A : Int} : (pn_cmp A 0 = 0 ↔ A = 0) ∧ (pn_cmp A 0 = -1 ↔ A < 0) ∧ (pn_cmp A 0 = 1 ↔ 0 < A) := by
  rcases Int.lt_trichotomy A 0 with h | h | h
  · rw [pn_cmp_lt h]; exact ⟨⟨fun z => absurd z (by decide), fun z => by omega⟩, ⟨fun _ => h, fun _ => rfl⟩, ⟨fun z => absurd z (by decide), fun z => by omega⟩⟩
  · rw [pn_cmp_eq h]; exact ⟨⟨fun _ => h, fun _ => rfl⟩, ⟨fun z => absurd z (by decide), fun z => by omega⟩, ⟨fun z => absurd z (by decide), fun z => by omega⟩⟩
  · rw [pn_cmp_gt h]; exact ⟨⟨fun z => absurd z (by decide), fun z => by omega⟩, ⟨fun z => absurd z (by decide), fun z => by omega⟩, ⟨fun _ => h, fun _ => rfl⟩⟩
theorem pm_cs_eq {A B : Int} (h : pn_cmp A 0 = pn_cmp B 0) : (A < 0 ∧ B < 0) ∨ (A = 0 ∧ B = 0) ∨ (0 < A ∧ 0 < B) := by
  rcases Int.lt_trichotomy A 0 with z | z | z
  · exact Or.inl ⟨z, pm_cs.2.1.mp (by rw [← h]; exact pm_cs.2.1.mpr z)⟩
  · exact Or.inr (Or.inl ⟨z, pm_cs.1.mp (by rw [← h]; exact pm_cs.1.mpr z)⟩)
  · exact Or.inr (Or.inr ⟨z, pm_cs.2.2.mp (by rw [← h]; exact pm_cs.2.2.mpr z)⟩)
theorem pm_cs_ne {A B : Int} (h : ¬ pn_cmp A 0 = pn_cmp B 0) (hA : ¬ pn_cmp A 0 = 0) (hB : ¬ pn_cmp B 0 = 0) : (A < 0 ∧ 0 < B) ∨ (0 < A ∧ B < 0) := by
  have a := fun z => hA (pm_cs.1.mpr z)
  have b := fun z => hB (pm_cs.1.mpr z)
  rcases Int.lt_trichotomy A 0 with z | z | z <;> rcases Int.lt_trichotomy B 0 with y | y | y <;> first | omega | exact absurd z a | exact absurd y b | skip
  · exact absurd ((pm_cs.2.1.mpr z).trans (pm_cs.2.1.mpr y).symm) h
  · exact absurd ((pm_cs.2.2.mpr z).trans (pm_cs.2.2.mpr y).symm) h
theorem pm_cs_same {A B : Int} (h : (A < 0 ↔ B < 0) ∧ (A = 0 ↔ B = 0)) : pn_cmp A 0 = pn_cmp B 0 := by
  rcases Int.lt_trichotomy A 0 with z | z | z
  · rw [pn_cmp_lt z, pn_cmp_lt (h.1.mp z)]
  · rw [pn_cmp_eq z, pn_cmp_eq (h.2.mp z)]
  · rw [pn_cmp_gt z, pn_cmp_gt (by omega)]

set_option maxHeartbeats 4000000 in
set_option maxRecDepth 100000 in
theorem c_M_sum (l : Launch) (D : va_G) (cI cZ cB cJ : ClassId) (sz : Nat) (oM qW qM qK qJ qG qH qP cd pl : Nat) (wk mn : Nat → Nat) (s1 s2 : Int32) (xa xb : Int) (h1 : s1 = pn_cmp xa 0) (h2 : s2 = pn_cmp xb 0) (hN1 : pm_N wk mn 0 xa.natAbs) (hN2 : pm_N wk mn 1 xb.natAbs) (hm1 : mn 0 ≤ 3199) (hm2 : mn 1 ≤ 3199) : pn_Ci l D (pn_ty cI cZ cB cJ) y_M_sum w_M_sum ({ frames := 2, cells := 0, slots := 0, locals := 80 } : Room) [.ref oM, .int s1, .int s2] [(oM, .inr (5, [.int (nI cd), .ref qW, .ref qM, .ref qK, .ref qJ, .ref qG, .ref qH, .ref qP, .int (nI pl)])), (qW, .inl (cI, 22400, .inl (fun z9 => nI (wk z9)))), (qM, .inl (cI, 7, .inl (fun z9 => nI (mn z9))))] sz (S := (Nat → Nat) × (Nat → Nat)) (fun r u => r = pn_cmp (xa + xb) 0 ∧ pm_N u.1 u.2 0 (xa + xb).natAbs) (fun u => [(oM, .inr (5, [.int (nI cd), .ref qW, .ref qM, .ref qK, .ref qJ, .ref qG, .ref qH, .ref qP, .int (nI pl)])), (qW, .inl (cI, 22400, .inl (fun z9 => nI (u.1 z9)))), (qM, .inl (cI, 7, .inl (fun z9 => nI (u.2 z9))))]) := by
  refine pn_start (by decide) (Nat.le_of_ble_eq_true rfl) ?_
  intro p e s m below meth c A Q ls hQ hAe Fx hr hlocks hN hK hP hD hS hA hl
  have hx := Fx.1
  have hb := Fx.2.1
  have hl : lv_has ls 4 [(0, .ref oM), (1, .int s1), (2, .int s2)] := hl
  refine lv_iload_n hx hb d_M_sum_0 rfl (lv_at hl 1 rfl) ?_
  refine lv_if_eq (tgt := 13) hx hb d_M_sum_1 (by decide) (fun h_1 => ?_) (fun h_1 => ?_)
  · skip
    have hc9 : xa = 0 ∨ xb = 0 ∨ (xa < 0 ∧ xb < 0) ∨ (0 < xa ∧ 0 < xb) := Or.inl (pm_cs.1.mp (by rw [← h1]; exact h_1))
    refine lv_aload_n hx hb d_M_sum_13 rfl (lv_at hl 0 rfl) ?_
    refine lv_iconst (v := nI 0) hx hb d_M_sum_14 (by decide) ?_
    refine lv_iconst (v := nI 1) hx hb d_M_sum_15 (by decide) ?_
    refine pn_bv (wr := []) [0, 1, 2] [] hP hD hS hA (pn_rV [.int (nI 0), .int (nI 1)] [] Fx hK hN hP hD [0, 1, 2] rfl rfl (c_M_addTo l D cI cZ cB cJ _ oM qW qM qK qJ qG qH qP cd pl wk mn 0 1 xa.natAbs xb.natAbs (by omega) (by omega) (by omega) hN1 hN2 hm1 hm2) kw_712 cal_M_addTo inst_M_addTo sel_M_addTo ⟨by decide, by decide⟩ ⟨rfl, rfl⟩ 0 rfl rfl rfl rfl hl.1 (Nat.le_of_ble_eq_true rfl) d_M_sum_16 ⟨Nat.zero_le _, Nat.zero_le _⟩) rfl rfl rfl (by decide) (fun u_16 H locs hw hP hD hS => ?_)
    obtain ⟨w1, j1⟩ := u_16
    obtain ⟨ha1, ha2⟩ := hw
    have hP : va_P D pn_cl [(oM, .inr (5, [.int (nI cd), .ref qW, .ref qM, .ref qK, .ref qJ, .ref qG, .ref qH, .ref qP, .int (nI pl)])), (qW, .inl (cI, 22400, .inl (fun z9 => nI (w1 z9)))), (qM, .inl (cI, 7, .inl (fun z9 => nI ((pn_up mn 0 j1) z9))))] H := hP
    have hD : va_D A [(oM, .inr (5, [.int (nI cd), .ref qW, .ref qM, .ref qK, .ref qJ, .ref qG, .ref qH, .ref qP, .int (nI pl)])), (qW, .inl (cI, 22400, .inl (fun z9 => nI (w1 z9)))), (qM, .inl (cI, 7, .inl (fun z9 => nI ((pn_up mn 0 j1) z9))))] := hD
    dsimp only at ha1 ha2
    rw [show xa.natAbs + xb.natAbs = (xa + xb).natAbs by omega] at ha1
    refine lv_iload_n hx hb d_M_sum_19 rfl (lv_at hl 1 rfl) ?_
    refine lv_if_ne (tgt := 27) hx hb d_M_sum_20 (by decide) (fun h_20 => ?_) (fun h_20 => ?_)
    · skip
      have hA0 : xa ≠ 0 := fun z => h_20 (by rw [h1]; exact pm_cs.1.mpr z)
      have hz : s1 = pn_cmp (xa + xb) 0 := by rw [h1]; exact pm_cs_same (by omega)
      refine lv_iload_n hx hb d_M_sum_27 rfl (lv_at hl 1 rfl) ?_
      exact pn_reti ((w1, pn_up mn 0 j1)) Fx hr hlocks hQ hAe hP hD hS (by (try dsimp only); first | done | exact (⟨hz, ha1⟩)) d_M_sum_28
    · skip
      have hA0 : xa = 0 := pm_cs.1.mp (by rw [← h1]; exact h_20)
      have hz : s2 = pn_cmp (xa + xb) 0 := by rw [h2, hA0, Int.zero_add]
      refine lv_iload_n hx hb d_M_sum_23 rfl (lv_at hl 2 rfl) ?_
      refine lv_goto (tgt := 28) hx hb d_M_sum_24 (by decide) ?_
      exact pn_reti ((w1, pn_up mn 0 j1)) Fx hr hlocks hQ hAe hP hD hS (by (try dsimp only); first | done | exact (⟨hz, ha1⟩)) d_M_sum_28
  · skip
    refine lv_iload_n hx hb d_M_sum_4 rfl (lv_at hl 2 rfl) ?_
    refine lv_if_eq (tgt := 13) hx hb d_M_sum_5 (by decide) (fun h_5 => ?_) (fun h_5 => ?_)
    · skip
      have hc9 : xa = 0 ∨ xb = 0 ∨ (xa < 0 ∧ xb < 0) ∨ (0 < xa ∧ 0 < xb) := Or.inr (Or.inl (pm_cs.1.mp (by rw [← h2]; exact h_5)))
      refine lv_aload_n hx hb d_M_sum_13 rfl (lv_at hl 0 rfl) ?_
      refine lv_iconst (v := nI 0) hx hb d_M_sum_14 (by decide) ?_
      refine lv_iconst (v := nI 1) hx hb d_M_sum_15 (by decide) ?_
      refine pn_bv (wr := []) [0, 1, 2] [] hP hD hS hA (pn_rV [.int (nI 0), .int (nI 1)] [] Fx hK hN hP hD [0, 1, 2] rfl rfl (c_M_addTo l D cI cZ cB cJ _ oM qW qM qK qJ qG qH qP cd pl wk mn 0 1 xa.natAbs xb.natAbs (by omega) (by omega) (by omega) hN1 hN2 hm1 hm2) kw_712 cal_M_addTo inst_M_addTo sel_M_addTo ⟨by decide, by decide⟩ ⟨rfl, rfl⟩ 0 rfl rfl rfl rfl hl.1 (Nat.le_of_ble_eq_true rfl) d_M_sum_16 ⟨Nat.zero_le _, Nat.zero_le _⟩) rfl rfl rfl (by decide) (fun u_16 H locs hw hP hD hS => ?_)
      obtain ⟨w1, j1⟩ := u_16
      obtain ⟨ha1, ha2⟩ := hw
      have hP : va_P D pn_cl [(oM, .inr (5, [.int (nI cd), .ref qW, .ref qM, .ref qK, .ref qJ, .ref qG, .ref qH, .ref qP, .int (nI pl)])), (qW, .inl (cI, 22400, .inl (fun z9 => nI (w1 z9)))), (qM, .inl (cI, 7, .inl (fun z9 => nI ((pn_up mn 0 j1) z9))))] H := hP
      have hD : va_D A [(oM, .inr (5, [.int (nI cd), .ref qW, .ref qM, .ref qK, .ref qJ, .ref qG, .ref qH, .ref qP, .int (nI pl)])), (qW, .inl (cI, 22400, .inl (fun z9 => nI (w1 z9)))), (qM, .inl (cI, 7, .inl (fun z9 => nI ((pn_up mn 0 j1) z9))))] := hD
      dsimp only at ha1 ha2
      rw [show xa.natAbs + xb.natAbs = (xa + xb).natAbs by omega] at ha1
      refine lv_iload_n hx hb d_M_sum_19 rfl (lv_at hl 1 rfl) ?_
      refine lv_if_ne (tgt := 27) hx hb d_M_sum_20 (by decide) (fun h_20 => ?_) (fun h_20 => ?_)
      · skip
        have hA0 : xa ≠ 0 := fun z => h_20 (by rw [h1]; exact pm_cs.1.mpr z)
        have hz : s1 = pn_cmp (xa + xb) 0 := by rw [h1]; exact pm_cs_same (by omega)
        refine lv_iload_n hx hb d_M_sum_27 rfl (lv_at hl 1 rfl) ?_
        exact pn_reti ((w1, pn_up mn 0 j1)) Fx hr hlocks hQ hAe hP hD hS (by (try dsimp only); first | done | exact (⟨hz, ha1⟩)) d_M_sum_28
      · skip
        have hA0 : xa = 0 := pm_cs.1.mp (by rw [← h1]; exact h_20)
        have hz : s2 = pn_cmp (xa + xb) 0 := by rw [h2, hA0, Int.zero_add]
        refine lv_iload_n hx hb d_M_sum_23 rfl (lv_at hl 2 rfl) ?_
        refine lv_goto (tgt := 28) hx hb d_M_sum_24 (by decide) ?_
        exact pn_reti ((w1, pn_up mn 0 j1)) Fx hr hlocks hQ hAe hP hD hS (by (try dsimp only); first | done | exact (⟨hz, ha1⟩)) d_M_sum_28
    · skip
      refine lv_iload_n hx hb d_M_sum_8 rfl (lv_at hl 1 rfl) ?_
      refine lv_iload_n hx hb d_M_sum_9 rfl (lv_at hl 2 rfl) ?_
      refine lv_icmp_ne (tgt := 29) hx hb d_M_sum_10 (by decide) (fun h_10 => ?_) (fun h_10 => ?_)
      · skip
        have hc9 := pm_cs_ne (A := xa) (B := xb) (by rw [← h1, ← h2]; exact h_10) (by rw [← h1]; exact h_1) (by rw [← h2]; exact h_5)
        refine lv_aload_n hx hb d_M_sum_29 rfl (lv_at hl 0 rfl) ?_
        refine lv_iconst (v := nI 0) hx hb d_M_sum_30 (by decide) ?_
        refine lv_iconst (v := nI 1) hx hb d_M_sum_31 (by decide) ?_
        refine pn_bi (wr := []) [0, 1, 2] [] hP hD hS hA (pn_rV [.int (nI 0), .int (nI 1)] [] Fx hK hN hP hD [0, 1, 2] rfl rfl (c_M_order l D cI cZ cB cJ _ oM qW qM qK qJ qG qH qP cd pl wk mn 0 1 xa.natAbs xb.natAbs (by omega) (by omega) hN1 hN2) kw_743 cal_M_order inst_M_order sel_M_order ⟨by decide, by decide⟩ ⟨rfl, rfl⟩ 0 rfl rfl rfl rfl hl.1 (Nat.le_of_ble_eq_true rfl) d_M_sum_32 ⟨Nat.zero_le _, Nat.zero_le _⟩) rfl rfl rfl (by decide) (fun r_32 u_32 H locs hw hP hD hS => ?_)
        obtain ⟨⟩ := u_32
        obtain rfl := hw
        have hP : va_P D pn_cl [(oM, .inr (5, [.int (nI cd), .ref qW, .ref qM, .ref qK, .ref qJ, .ref qG, .ref qH, .ref qP, .int (nI pl)])), (qW, .inl (cI, 22400, .inl (fun z9 => nI (wk z9)))), (qM, .inl (cI, 7, .inl (fun z9 => nI (mn z9))))] H := hP
        have hD : va_D A [(oM, .inr (5, [.int (nI cd), .ref qW, .ref qM, .ref qK, .ref qJ, .ref qG, .ref qH, .ref qP, .int (nI pl)])), (qW, .inl (cI, 22400, .inl (fun z9 => nI (wk z9)))), (qM, .inl (cI, 7, .inl (fun z9 => nI (mn z9))))] := hD
        refine lv_istore_n (lv' := [(3, .int (pn_cmp (xa.natAbs : Int) (xb.natAbs : Int))), (0, .ref oM), (1, .int s1), (2, .int s2)]) hx hb d_M_sum_35 rfl hl (by decide) rfl (fun ls hl => ?_)
        refine lv_iload_n hx hb d_M_sum_36 rfl (lv_at hl 0 rfl) ?_
        refine lv_if_ge (tgt := 54) hx hb d_M_sum_37 (by decide) (fun h_37 => ?_) (fun h_37 => ?_)
        · skip
          have hge := pn_cmp_nonneg.mp h_37
          refine lv_aload_n hx hb d_M_sum_54 rfl (lv_at hl 1 rfl) ?_
          refine lv_iconst (v := nI 0) hx hb d_M_sum_55 (by decide) ?_
          refine lv_iconst (v := nI 1) hx hb d_M_sum_56 (by decide) ?_
          refine pn_bv (wr := []) [0, 1, 2] [] hP hD hS hA (pn_rV [.int (nI 0), .int (nI 1)] [] Fx hK hN hP hD [0, 1, 2] rfl rfl (c_M_takeFrom l D cI cZ cB cJ _ oM qW qM qK qJ qG qH qP cd pl wk mn 0 1 xa.natAbs xb.natAbs (by omega) (by omega) (by omega) hN1 hN2 (by omega)) kw_747 cal_M_takeFrom inst_M_takeFrom sel_M_takeFrom ⟨by decide, by decide⟩ ⟨rfl, rfl⟩ 0 rfl rfl rfl rfl hl.1 (Nat.le_of_ble_eq_true rfl) d_M_sum_57 ⟨Nat.zero_le _, Nat.zero_le _⟩) rfl rfl rfl (by decide) (fun u_57 H locs hw hP hD hS => ?_)
          obtain ⟨w1, j1⟩ := u_57
          obtain ⟨ha1, ha2⟩ := hw
          have hP : va_P D pn_cl [(oM, .inr (5, [.int (nI cd), .ref qW, .ref qM, .ref qK, .ref qJ, .ref qG, .ref qH, .ref qP, .int (nI pl)])), (qW, .inl (cI, 22400, .inl (fun z9 => nI (w1 z9)))), (qM, .inl (cI, 7, .inl (fun z9 => nI ((pn_up mn 0 j1) z9))))] H := hP
          have hD : va_D A [(oM, .inr (5, [.int (nI cd), .ref qW, .ref qM, .ref qK, .ref qJ, .ref qG, .ref qH, .ref qP, .int (nI pl)])), (qW, .inl (cI, 22400, .inl (fun z9 => nI (w1 z9)))), (qM, .inl (cI, 7, .inl (fun z9 => nI ((pn_up mn 0 j1) z9))))] := hD
          dsimp only at ha1 ha2
          rw [show xa.natAbs - xb.natAbs = (xa + xb).natAbs by omega] at ha1
          refine lv_iload_n hx hb d_M_sum_60 rfl (lv_at hl 0 rfl) ?_
          refine lv_if_ne (tgt := 68) hx hb d_M_sum_61 (by decide) (fun h_61 => ?_) (fun h_61 => ?_)
          · skip
            have hne := fun z => h_61 (pn_cmp_0.mpr z)
            have hz : s1 = pn_cmp (xa + xb) 0 := by rw [h1]; exact pm_cs_same (by have hne2 : (xa.natAbs : Int) ≠ xb.natAbs := hne; omega)
            refine lv_iload_n hx hb d_M_sum_68 rfl (lv_at hl 2 rfl) ?_
            exact pn_reti ((w1, pn_up mn 0 j1)) Fx hr hlocks hQ hAe hP hD hS (by (try dsimp only); first | done | exact (⟨hz, ha1⟩)) d_M_sum_69
          · skip
            have heq := pn_cmp_0.mp h_61
            have hz : nI 0 = pn_cmp (xa + xb) 0 := (pn_cmp_eq (by omega)).symm
            refine lv_iconst (v := nI 0) hx hb d_M_sum_64 (by decide) ?_
            refine lv_goto (tgt := 69) hx hb d_M_sum_65 (by decide) ?_
            exact pn_reti ((w1, pn_up mn 0 j1)) Fx hr hlocks hQ hAe hP hD hS (by (try dsimp only); first | done | exact (⟨hz, ha1⟩)) d_M_sum_69
        · skip
          have hlt := pn_cmp_neg.mp (Int32.not_le.mp h_37)
          have hz : s2 = pn_cmp (xa + xb) 0 := by rw [h2]; exact pm_cs_same (by omega)
          refine lv_aload_n hx hb d_M_sum_40 rfl (lv_at hl 1 rfl) ?_
          refine lv_iconst (v := nI 1) hx hb d_M_sum_41 (by decide) ?_
          refine lv_iconst (v := nI 0) hx hb d_M_sum_42 (by decide) ?_
          refine pn_bv (wr := []) [0, 1, 2] [] hP hD hS hA (pn_rV [.int (nI 1), .int (nI 0)] [] Fx hK hN hP hD [0, 1, 2] rfl rfl (c_M_takeFrom l D cI cZ cB cJ _ oM qW qM qK qJ qG qH qP cd pl wk mn 1 0 xb.natAbs xa.natAbs (by omega) (by omega) (by omega) hN2 hN1 (by omega)) kw_747 cal_M_takeFrom inst_M_takeFrom sel_M_takeFrom ⟨by decide, by decide⟩ ⟨rfl, rfl⟩ 0 rfl rfl rfl rfl hl.1 (Nat.le_of_ble_eq_true rfl) d_M_sum_43 ⟨Nat.zero_le _, Nat.zero_le _⟩) rfl rfl rfl (by decide) (fun u_43 H locs hw hP hD hS => ?_)
          obtain ⟨w1, j1⟩ := u_43
          obtain ⟨ha1, ha2⟩ := hw
          have hP : va_P D pn_cl [(oM, .inr (5, [.int (nI cd), .ref qW, .ref qM, .ref qK, .ref qJ, .ref qG, .ref qH, .ref qP, .int (nI pl)])), (qW, .inl (cI, 22400, .inl (fun z9 => nI (w1 z9)))), (qM, .inl (cI, 7, .inl (fun z9 => nI ((pn_up mn 1 j1) z9))))] H := hP
          have hD : va_D A [(oM, .inr (5, [.int (nI cd), .ref qW, .ref qM, .ref qK, .ref qJ, .ref qG, .ref qH, .ref qP, .int (nI pl)])), (qW, .inl (cI, 22400, .inl (fun z9 => nI (w1 z9)))), (qM, .inl (cI, 7, .inl (fun z9 => nI ((pn_up mn 1 j1) z9))))] := hD
          dsimp only at ha1 ha2
          rw [show xb.natAbs - xa.natAbs = (xa + xb).natAbs by omega] at ha1
          refine lv_aload_n hx hb d_M_sum_46 rfl (lv_at hl 1 rfl) ?_
          refine lv_iconst (v := nI 0) hx hb d_M_sum_47 (by decide) ?_
          refine lv_iconst (v := nI 1) hx hb d_M_sum_48 (by decide) ?_
          refine pn_bv (wr := []) [0, 1, 2] [] hP hD hS hA (pn_rV [.int (nI 0), .int (nI 1)] [] Fx hK hN hP hD [0, 1, 2] rfl rfl (c_M_copyTo l D cI cZ cB cJ _ oM qW qM qK qJ qG qH qP cd pl w1 (pn_up mn 1 j1) 0 1 (xa + xb).natAbs (by omega) (by omega) (by omega) ha1) kw_690 cal_M_copyTo inst_M_copyTo sel_M_copyTo ⟨by decide, by decide⟩ ⟨rfl, rfl⟩ 0 rfl rfl rfl rfl hl.1 (Nat.le_of_ble_eq_true rfl) d_M_sum_49 ⟨Nat.zero_le _, Nat.zero_le _⟩) rfl rfl rfl (by decide) (fun u_49 H locs hw hP hD hS => ?_)
          obtain ⟨hc1, hc2⟩ := hw
          have hP : va_P D pn_cl [(oM, .inr (5, [.int (nI cd), .ref qW, .ref qM, .ref qK, .ref qJ, .ref qG, .ref qH, .ref qP, .int (nI pl)])), (qW, .inl (cI, 22400, .inl (fun z9 => nI (u_49 z9)))), (qM, .inl (cI, 7, .inl (fun z9 => nI ((pn_up (pn_up mn 1 j1) 0 ((pn_up mn 1 j1) 1)) z9))))] H := hP
          have hD : va_D A [(oM, .inr (5, [.int (nI cd), .ref qW, .ref qM, .ref qK, .ref qJ, .ref qG, .ref qH, .ref qP, .int (nI pl)])), (qW, .inl (cI, 22400, .inl (fun z9 => nI (u_49 z9)))), (qM, .inl (cI, 7, .inl (fun z9 => nI ((pn_up (pn_up mn 1 j1) 0 ((pn_up mn 1 j1) 1)) z9))))] := hD
          refine lv_iload_n hx hb d_M_sum_52 rfl (lv_at hl 3 rfl) ?_
          exact pn_reti ((u_49, pn_up (pn_up mn 1 j1) 0 ((pn_up mn 1 j1) 1))) Fx hr hlocks hQ hAe hP hD hS (by (try dsimp only); first | done | exact (⟨hz, hc1⟩)) d_M_sum_53
      · skip
        have hc9 : xa = 0 ∨ xb = 0 ∨ (xa < 0 ∧ xb < 0) ∨ (0 < xa ∧ 0 < xb) := by have := pm_cs_eq (A := xa) (B := xb) (by rw [← h1, ← h2]; exact h_10); omega
        refine lv_aload_n hx hb d_M_sum_13 rfl (lv_at hl 0 rfl) ?_
        refine lv_iconst (v := nI 0) hx hb d_M_sum_14 (by decide) ?_
        refine lv_iconst (v := nI 1) hx hb d_M_sum_15 (by decide) ?_
        refine pn_bv (wr := []) [0, 1, 2] [] hP hD hS hA (pn_rV [.int (nI 0), .int (nI 1)] [] Fx hK hN hP hD [0, 1, 2] rfl rfl (c_M_addTo l D cI cZ cB cJ _ oM qW qM qK qJ qG qH qP cd pl wk mn 0 1 xa.natAbs xb.natAbs (by omega) (by omega) (by omega) hN1 hN2 hm1 hm2) kw_712 cal_M_addTo inst_M_addTo sel_M_addTo ⟨by decide, by decide⟩ ⟨rfl, rfl⟩ 0 rfl rfl rfl rfl hl.1 (Nat.le_of_ble_eq_true rfl) d_M_sum_16 ⟨Nat.zero_le _, Nat.zero_le _⟩) rfl rfl rfl (by decide) (fun u_16 H locs hw hP hD hS => ?_)
        obtain ⟨w1, j1⟩ := u_16
        obtain ⟨ha1, ha2⟩ := hw
        have hP : va_P D pn_cl [(oM, .inr (5, [.int (nI cd), .ref qW, .ref qM, .ref qK, .ref qJ, .ref qG, .ref qH, .ref qP, .int (nI pl)])), (qW, .inl (cI, 22400, .inl (fun z9 => nI (w1 z9)))), (qM, .inl (cI, 7, .inl (fun z9 => nI ((pn_up mn 0 j1) z9))))] H := hP
        have hD : va_D A [(oM, .inr (5, [.int (nI cd), .ref qW, .ref qM, .ref qK, .ref qJ, .ref qG, .ref qH, .ref qP, .int (nI pl)])), (qW, .inl (cI, 22400, .inl (fun z9 => nI (w1 z9)))), (qM, .inl (cI, 7, .inl (fun z9 => nI ((pn_up mn 0 j1) z9))))] := hD
        dsimp only at ha1 ha2
        rw [show xa.natAbs + xb.natAbs = (xa + xb).natAbs by omega] at ha1
        refine lv_iload_n hx hb d_M_sum_19 rfl (lv_at hl 1 rfl) ?_
        refine lv_if_ne (tgt := 27) hx hb d_M_sum_20 (by decide) (fun h_20 => ?_) (fun h_20 => ?_)
        · skip
          have hA0 : xa ≠ 0 := fun z => h_20 (by rw [h1]; exact pm_cs.1.mpr z)
          have hz : s1 = pn_cmp (xa + xb) 0 := by rw [h1]; exact pm_cs_same (by omega)
          refine lv_iload_n hx hb d_M_sum_27 rfl (lv_at hl 1 rfl) ?_
          exact pn_reti ((w1, pn_up mn 0 j1)) Fx hr hlocks hQ hAe hP hD hS (by (try dsimp only); first | done | exact (⟨hz, ha1⟩)) d_M_sum_28
        · skip
          have hA0 : xa = 0 := pm_cs.1.mp (by rw [← h1]; exact h_20)
          have hz : s2 = pn_cmp (xa + xb) 0 := by rw [h2, hA0, Int.zero_add]
          refine lv_iload_n hx hb d_M_sum_23 rfl (lv_at hl 2 rfl) ?_
          refine lv_goto (tgt := 28) hx hb d_M_sum_24 (by decide) ?_
          exact pn_reti ((w1, pn_up mn 0 j1)) Fx hr hlocks hQ hAe hP hD hS (by (try dsimp only); first | done | exact (⟨hz, ha1⟩)) d_M_sum_28

set_option maxHeartbeats 4000000 in
set_option maxRecDepth 100000 in
theorem c_M_down (l : Launch) (D : va_G) (cI cZ cB cJ : ClassId) (sz : Nat) (oM qW qM qK qJ qG qH qP cd pl : Nat) (wk mn : Nat → Nat) (v v2 : Nat) (less : Bool) (hN1 : pm_N wk mn 0 v) (hN2 : pm_N wk mn 1 v2) (hv20 : 0 < v2) (hm1 : v < 10000 ^ 3198) : pn_Cv l D (pn_ty cI cZ cB cJ) y_M_down w_M_down ({ frames := 2, cells := 0, slots := 0, locals := 90 } : Room) [.ref oM, .int (pn_b less)] [(oM, .inr (5, [.int (nI cd), .ref qW, .ref qM, .ref qK, .ref qJ, .ref qG, .ref qH, .ref qP, .int (nI pl)])), (qW, .inl (cI, 22400, .inl (fun z9 => nI (wk z9)))), (qM, .inl (cI, 7, .inl (fun z9 => nI (mn z9))))] sz (S := (Nat → Nat) × (Nat → Nat)) (fun u => pm_N u.1 u.2 2 (if less = true ∧ v % v2 ≠ 0 then v / v2 + 1 else v / v2) ∧ pm_N u.1 u.2 0 (if less = true ∧ v % v2 ≠ 0 then v2 - v % v2 else v % v2)) (fun u => [(oM, .inr (5, [.int (nI cd), .ref qW, .ref qM, .ref qK, .ref qJ, .ref qG, .ref qH, .ref qP, .int (nI pl)])), (qW, .inl (cI, 22400, .inl (fun z9 => nI (u.1 z9)))), (qM, .inl (cI, 7, .inl (fun z9 => nI (u.2 z9))))]) := by
  refine pn_start (by decide) (Nat.le_of_ble_eq_true rfl) ?_
  intro p e s m below meth c A Q ls hQ hAe Fx hr hlocks hN hK hP hD hS hA hl
  have hx := Fx.1
  have hb := Fx.2.1
  have hl : lv_has ls 2 [(0, .ref oM), (1, .int (pn_b less))] := hl
  refine lv_aload_n hx hb d_M_down_0 rfl (lv_at hl 0 rfl) ?_
  refine lv_iconst (v := nI 2) hx hb d_M_down_1 (by decide) ?_
  refine lv_iconst (v := nI 0) hx hb d_M_down_2 (by decide) ?_
  refine lv_iconst (v := nI 1) hx hb d_M_down_3 (by decide) ?_
  refine pn_bv (wr := []) [0, 1, 2] [] hP hD hS hA (pn_rV [.int (nI 2), .int (nI 0), .int (nI 1)] [] Fx hK hN hP hD [0, 1, 2] rfl rfl (c_M_divideBy l D cI cZ cB cJ _ oM qW qM qK qJ qG qH qP cd pl wk mn 2 0 1 v v2 (by omega) (by omega) (by omega) (by omega) (by omega) (by omega) hN1 hN2 hv20 (Nat.le_trans (pm_N_cnt hN1 hm1) (by decide))) kw_775 cal_M_divideBy inst_M_divideBy sel_M_divideBy ⟨by decide, by decide⟩ ⟨rfl, rfl⟩ 0 rfl rfl rfl rfl hl.1 (Nat.le_of_ble_eq_true rfl) d_M_down_4 ⟨Nat.zero_le _, Nat.zero_le _⟩) rfl rfl rfl (by decide) (fun u_4 H locs hw hP hD hS => ?_)
  obtain ⟨w1, m1⟩ := u_4
  obtain ⟨hd1, hd2, hd3⟩ := hw
  have hP : va_P D pn_cl [(oM, .inr (5, [.int (nI cd), .ref qW, .ref qM, .ref qK, .ref qJ, .ref qG, .ref qH, .ref qP, .int (nI pl)])), (qW, .inl (cI, 22400, .inl (fun z9 => nI (w1 z9)))), (qM, .inl (cI, 7, .inl (fun z9 => nI (m1 z9))))] H := hP
  have hD : va_D A [(oM, .inr (5, [.int (nI cd), .ref qW, .ref qM, .ref qK, .ref qJ, .ref qG, .ref qH, .ref qP, .int (nI pl)])), (qW, .inl (cI, 22400, .inl (fun z9 => nI (w1 z9)))), (qM, .inl (cI, 7, .inl (fun z9 => nI (m1 z9))))] := hD
  dsimp only at hd1 hd2 hd3
  have hd4 := hd3 1 v2 (by omega) (by omega) hN2
  have hm0 := hd2.1
  have hq0 := pm_N_zero hd2
  have hqq : v / v2 < 10000 ^ 3198 := Nat.lt_of_le_of_lt (Nat.div_le_self v v2) hm1
  have hmd := Nat.mod_lt v hv20
  refine lv_iload_n hx hb d_M_down_7 rfl (lv_at hl 1 rfl) ?_
  refine pw_ifb_eq (tgt := 50) hx hb d_M_down_8 (by decide) (fun h_8 => ?_) (fun h_8 => ?_)
  · skip
    have hno : ¬ (less = true ∧ v % v2 ≠ 0) := fun z => by rw [h_8] at z; exact absurd z.1 (by decide)
    have hfin : pm_N w1 m1 2 (if less = true ∧ v % v2 ≠ 0 then v / v2 + 1 else v / v2) ∧ pm_N w1 m1 0 (if less = true ∧ v % v2 ≠ 0 then v2 - v % v2 else v % v2) := by rw [if_neg hno, if_neg hno]; exact ⟨hd1, hd2⟩
    exact pn_retv ((w1, m1)) Fx hr hlocks hQ hAe hP hD hS (by (try dsimp only); first | done | exact (hfin)) d_M_down_50
  · skip
    refine lv_aload_n hx hb d_M_down_11 rfl (lv_at hl 0 rfl) ?_
    refine pw_get Fx hK hP fld_M 0 rfl 2 (by decide) kw_632 (v := .ref qM) rfl d_M_down_12 ?_
    refine lv_iconst (v := nI 0) hx hb d_M_down_15 (by decide) ?_
    refine pw_iald Fx hK hP 2 0 (f := fun z9 => nI (m1 z9)) rfl rfl (k := 0) (by omega) (by decide) d_M_down_16 ?_
    refine pn_topi (nI (m1 0)) rfl ?_
    refine pw_if_le (a := m1 0) (tgt := 50) hx hb d_M_down_17 (by decide) (by omega) (fun h_17 => ?_) (fun h_17 => ?_)
    · skip
      have hno : ¬ (less = true ∧ v % v2 ≠ 0) := fun z => z.2 (hq0.mp (by omega))
      have hfin : pm_N w1 m1 2 (if less = true ∧ v % v2 ≠ 0 then v / v2 + 1 else v / v2) ∧ pm_N w1 m1 0 (if less = true ∧ v % v2 ≠ 0 then v2 - v % v2 else v % v2) := by rw [if_neg hno, if_neg hno]; exact ⟨hd1, hd2⟩
      exact pn_retv ((w1, m1)) Fx hr hlocks hQ hAe hP hD hS (by (try dsimp only); first | done | exact (hfin)) d_M_down_50
    · skip
      have hyes : less = true ∧ v % v2 ≠ 0 := ⟨h_8, fun z => by have := hq0.mpr z; omega⟩
      refine lv_aload_n hx hb d_M_down_20 rfl (lv_at hl 0 rfl) ?_
      refine lv_iconst (v := nI 4) hx hb d_M_down_21 (by decide) ?_
      refine lv_lconst (v := pn_L 1) hx hb d_M_down_22 (by decide) ?_
      refine pn_bv (wr := []) [0, 1, 2] [] hP hD hS hA (pn_rV [.int (nI 4), .long (pn_L 1)] [] Fx hK hN hP hD [0, 1, 2] rfl rfl (c_M_setLong l D cI cZ cB cJ _ oM qW qM qK qJ qG qH qP cd pl w1 m1 4 1 (by omega) (by decide) (by decide)) kw_673 cal_M_setLong inst_M_setLong sel_M_setLong ⟨by decide, by decide⟩ ⟨rfl, rfl⟩ 0 rfl rfl rfl rfl hl.1 (Nat.le_of_ble_eq_true rfl) d_M_down_23 ⟨Nat.zero_le _, Nat.zero_le _⟩) rfl rfl rfl (by decide) (fun u_23 H locs hw hP hD hS => ?_)
      obtain ⟨w4, j4⟩ := u_23
      obtain ⟨he1, he2⟩ := hw
      have hP : va_P D pn_cl [(oM, .inr (5, [.int (nI cd), .ref qW, .ref qM, .ref qK, .ref qJ, .ref qG, .ref qH, .ref qP, .int (nI pl)])), (qW, .inl (cI, 22400, .inl (fun z9 => nI (w4 z9)))), (qM, .inl (cI, 7, .inl (fun z9 => nI ((pn_up m1 4 j4) z9))))] H := hP
      have hD : va_D A [(oM, .inr (5, [.int (nI cd), .ref qW, .ref qM, .ref qK, .ref qJ, .ref qG, .ref qH, .ref qP, .int (nI pl)])), (qW, .inl (cI, 22400, .inl (fun z9 => nI (w4 z9)))), (qM, .inl (cI, 7, .inl (fun z9 => nI ((pn_up m1 4 j4) z9))))] := hD
      dsimp only at he1 he2
      have he3 : pm_N w4 (pn_up m1 4 j4) 4 1 := he1
      have hg2 := he2 2 _ (by omega) hd1
      have hg0 := he2 0 _ (by omega) hd2
      have hg1 := he2 1 _ (by omega) hd4
      refine lv_aload_n hx hb d_M_down_26 rfl (lv_at hl 0 rfl) ?_
      refine lv_iconst (v := nI 2) hx hb d_M_down_27 (by decide) ?_
      refine lv_iconst (v := nI 4) hx hb d_M_down_28 (by decide) ?_
      refine pn_bv (wr := []) [0, 1, 2] [] hP hD hS hA (pn_rV [.int (nI 2), .int (nI 4)] [] Fx hK hN hP hD [0, 1, 2] rfl rfl (c_M_addTo l D cI cZ cB cJ _ oM qW qM qK qJ qG qH qP cd pl w4 (pn_up m1 4 j4) 2 4 (v / v2) 1 (by omega) (by omega) (by omega) hg2 he3 (Nat.le_trans (pm_N_cnt hg2 hqq) (by decide)) (Nat.le_trans (pm_N_cnt (m := 1) he3 (by decide)) (by decide))) kw_712 cal_M_addTo inst_M_addTo sel_M_addTo ⟨by decide, by decide⟩ ⟨rfl, rfl⟩ 0 rfl rfl rfl rfl hl.1 (Nat.le_of_ble_eq_true rfl) d_M_down_29 ⟨Nat.zero_le _, Nat.zero_le _⟩) rfl rfl rfl (by decide) (fun u_29 H locs hw hP hD hS => ?_)
      obtain ⟨w2, j2⟩ := u_29
      obtain ⟨hf1, hf2⟩ := hw
      have hP : va_P D pn_cl [(oM, .inr (5, [.int (nI cd), .ref qW, .ref qM, .ref qK, .ref qJ, .ref qG, .ref qH, .ref qP, .int (nI pl)])), (qW, .inl (cI, 22400, .inl (fun z9 => nI (w2 z9)))), (qM, .inl (cI, 7, .inl (fun z9 => nI ((pn_up (pn_up m1 4 j4) 2 j2) z9))))] H := hP
      have hD : va_D A [(oM, .inr (5, [.int (nI cd), .ref qW, .ref qM, .ref qK, .ref qJ, .ref qG, .ref qH, .ref qP, .int (nI pl)])), (qW, .inl (cI, 22400, .inl (fun z9 => nI (w2 z9)))), (qM, .inl (cI, 7, .inl (fun z9 => nI ((pn_up (pn_up m1 4 j4) 2 j2) z9))))] := hD
      dsimp only at hf1 hf2
      have hi0 := hf2 0 _ (by omega) hg0
      have hi1 := hf2 1 _ (by omega) hg1
      refine lv_aload_n hx hb d_M_down_32 rfl (lv_at hl 0 rfl) ?_
      refine lv_iconst (v := nI 3) hx hb d_M_down_33 (by decide) ?_
      refine lv_iconst (v := nI 1) hx hb d_M_down_34 (by decide) ?_
      refine pn_bv (wr := []) [0, 1, 2] [] hP hD hS hA (pn_rV [.int (nI 3), .int (nI 1)] [] Fx hK hN hP hD [0, 1, 2] rfl rfl (c_M_copyTo l D cI cZ cB cJ _ oM qW qM qK qJ qG qH qP cd pl w2 (pn_up (pn_up m1 4 j4) 2 j2) 3 1 v2 (by omega) (by omega) (by omega) hi1) kw_690 cal_M_copyTo inst_M_copyTo sel_M_copyTo ⟨by decide, by decide⟩ ⟨rfl, rfl⟩ 0 rfl rfl rfl rfl hl.1 (Nat.le_of_ble_eq_true rfl) d_M_down_35 ⟨Nat.zero_le _, Nat.zero_le _⟩) rfl rfl rfl (by decide) (fun u_35 H locs hw hP hD hS => ?_)
      obtain ⟨hc35, hK35⟩ := hw
      have hP : va_P D pn_cl [(oM, .inr (5, [.int (nI cd), .ref qW, .ref qM, .ref qK, .ref qJ, .ref qG, .ref qH, .ref qP, .int (nI pl)])), (qW, .inl (cI, 22400, .inl (fun z9 => nI (u_35 z9)))), (qM, .inl (cI, 7, .inl (fun z9 => nI ((pn_up (pn_up (pn_up m1 4 j4) 2 j2) 3 ((pn_up (pn_up m1 4 j4) 2 j2) 1)) z9))))] H := hP
      have hD : va_D A [(oM, .inr (5, [.int (nI cd), .ref qW, .ref qM, .ref qK, .ref qJ, .ref qG, .ref qH, .ref qP, .int (nI pl)])), (qW, .inl (cI, 22400, .inl (fun z9 => nI (u_35 z9)))), (qM, .inl (cI, 7, .inl (fun z9 => nI ((pn_up (pn_up (pn_up m1 4 j4) 2 j2) 3 ((pn_up (pn_up m1 4 j4) 2 j2) 1)) z9))))] := hD
      refine lv_aload_n hx hb d_M_down_38 rfl (lv_at hl 0 rfl) ?_
      refine lv_iconst (v := nI 3) hx hb d_M_down_39 (by decide) ?_
      refine lv_iconst (v := nI 0) hx hb d_M_down_40 (by decide) ?_
      refine pn_bv (wr := []) [0, 1, 2] [] hP hD hS hA (pn_rV [.int (nI 3), .int (nI 0)] [] Fx hK hN hP hD [0, 1, 2] rfl rfl (c_M_takeFrom l D cI cZ cB cJ _ oM qW qM qK qJ qG qH qP cd pl u_35 (pn_up (pn_up (pn_up m1 4 j4) 2 j2) 3 ((pn_up (pn_up m1 4 j4) 2 j2) 1)) 3 0 v2 (v % v2) (by omega) (by omega) (by omega) hc35 (hK35 0 _ (by omega) hi0) (by omega)) kw_747 cal_M_takeFrom inst_M_takeFrom sel_M_takeFrom ⟨by decide, by decide⟩ ⟨rfl, rfl⟩ 0 rfl rfl rfl rfl hl.1 (Nat.le_of_ble_eq_true rfl) d_M_down_41 ⟨Nat.zero_le _, Nat.zero_le _⟩) rfl rfl rfl (by decide) (fun u_41 H locs hw hP hD hS => ?_)
      obtain ⟨w5, j5⟩ := u_41
      obtain ⟨hj1, hj2⟩ := hw
      have hP : va_P D pn_cl [(oM, .inr (5, [.int (nI cd), .ref qW, .ref qM, .ref qK, .ref qJ, .ref qG, .ref qH, .ref qP, .int (nI pl)])), (qW, .inl (cI, 22400, .inl (fun z9 => nI (w5 z9)))), (qM, .inl (cI, 7, .inl (fun z9 => nI ((pn_up (pn_up (pn_up (pn_up m1 4 j4) 2 j2) 3 ((pn_up (pn_up m1 4 j4) 2 j2) 1)) 3 j5) z9))))] H := hP
      have hD : va_D A [(oM, .inr (5, [.int (nI cd), .ref qW, .ref qM, .ref qK, .ref qJ, .ref qG, .ref qH, .ref qP, .int (nI pl)])), (qW, .inl (cI, 22400, .inl (fun z9 => nI (w5 z9)))), (qM, .inl (cI, 7, .inl (fun z9 => nI ((pn_up (pn_up (pn_up (pn_up m1 4 j4) 2 j2) 3 ((pn_up (pn_up m1 4 j4) 2 j2) 1)) 3 j5) z9))))] := hD
      dsimp only at hj1 hj2
      refine lv_aload_n hx hb d_M_down_44 rfl (lv_at hl 0 rfl) ?_
      refine lv_iconst (v := nI 0) hx hb d_M_down_45 (by decide) ?_
      refine lv_iconst (v := nI 3) hx hb d_M_down_46 (by decide) ?_
      refine pn_bv (wr := []) [0, 1, 2] [] hP hD hS hA (pn_rV [.int (nI 0), .int (nI 3)] [] Fx hK hN hP hD [0, 1, 2] rfl rfl (c_M_copyTo l D cI cZ cB cJ _ oM qW qM qK qJ qG qH qP cd pl w5 (pn_up (pn_up (pn_up (pn_up m1 4 j4) 2 j2) 3 ((pn_up (pn_up m1 4 j4) 2 j2) 1)) 3 j5) 0 3 (v2 - v % v2) (by omega) (by omega) (by omega) hj1) kw_690 cal_M_copyTo inst_M_copyTo sel_M_copyTo ⟨by decide, by decide⟩ ⟨rfl, rfl⟩ 0 rfl rfl rfl rfl hl.1 (Nat.le_of_ble_eq_true rfl) d_M_down_47 ⟨Nat.zero_le _, Nat.zero_le _⟩) rfl rfl rfl (by decide) (fun u_47 H locs hw hP hD hS => ?_)
      obtain ⟨hc47, hK47⟩ := hw
      have hP : va_P D pn_cl [(oM, .inr (5, [.int (nI cd), .ref qW, .ref qM, .ref qK, .ref qJ, .ref qG, .ref qH, .ref qP, .int (nI pl)])), (qW, .inl (cI, 22400, .inl (fun z9 => nI (u_47 z9)))), (qM, .inl (cI, 7, .inl (fun z9 => nI ((pn_up (pn_up (pn_up (pn_up (pn_up m1 4 j4) 2 j2) 3 ((pn_up (pn_up m1 4 j4) 2 j2) 1)) 3 j5) 0 ((pn_up (pn_up (pn_up (pn_up m1 4 j4) 2 j2) 3 ((pn_up (pn_up m1 4 j4) 2 j2) 1)) 3 j5) 3)) z9))))] H := hP
      have hD : va_D A [(oM, .inr (5, [.int (nI cd), .ref qW, .ref qM, .ref qK, .ref qJ, .ref qG, .ref qH, .ref qP, .int (nI pl)])), (qW, .inl (cI, 22400, .inl (fun z9 => nI (u_47 z9)))), (qM, .inl (cI, 7, .inl (fun z9 => nI ((pn_up (pn_up (pn_up (pn_up (pn_up m1 4 j4) 2 j2) 3 ((pn_up (pn_up m1 4 j4) 2 j2) 1)) 3 j5) 0 ((pn_up (pn_up (pn_up (pn_up m1 4 j4) 2 j2) 3 ((pn_up (pn_up m1 4 j4) 2 j2) 1)) 3 j5) 3)) z9))))] := hD
      exact pn_retv ((u_47, pn_up (pn_up (pn_up (pn_up (pn_up m1 4 j4) 2 j2) 3 ((pn_up (pn_up m1 4 j4) 2 j2) 1)) 3 j5) 0 ((pn_up (pn_up (pn_up (pn_up m1 4 j4) 2 j2) 3 ((pn_up (pn_up m1 4 j4) 2 j2) 1)) 3 j5) 3))) Fx hr hlocks hQ hAe hP hD hS (by (try dsimp only); first | done | exact (by rw [if_pos hyes, if_pos hyes]; exact ⟨hK47 2 _ (by omega) (hj2 2 _ (by omega) (hK35 2 _ (by omega) hf1)), hc47⟩)) d_M_down_50
