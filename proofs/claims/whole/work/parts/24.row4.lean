theorem pn_L_and1 (z : Int) : pn_L z &&& pn_L 1 = pn_L (z % 2) := by
  apply pn_L_ext
  rw [Int64.toBitVec_and, BitVec.toNat_and, pn_L_nat, pn_L_nat, pn_L_nat]
  have h : ((1 : Int) % 18446744073709551616).toNat = 2 ^ 1 - 1 := by decide
  rw [h, Nat.and_two_pow_sub_one_eq_mod]
  omega
section PnAnd
variable {p : Program} {l : Launch} {e : Env} {R : Room} {s : State} {m : MethodId} {args : Array Value} {below : List Frame} {meth : Method} {c : Code} {H : Heap} {locs : List Loc} {cells slots : Nat} {Q : State → Prop} {cc : ByteArray} {pc : Nat} {ls : Array Slot} {rest : List Value}
theorem pw_land1 (hexec : p.tables.exec = Jvm.exec) (hb : c.code = cc) {a : Int} (hdg : decode cc pc = .ok (.land, 1)) (k : W p l e R s m args below meth c H locs cells slots Q (F0 m (pc + 1) ls (.long (pn_L (a % 2)) :: rest))) : W p l e R s m args below meth c H locs cells slots Q (F0 m pc ls (.long (pn_L 1) :: .long (pn_L a) :: rest)) := lv_land hexec hb hdg (by rw [pn_L_and1]; exact k)
end PnAnd
theorem pn_V_2' (f : Nat → Int32) {x : Int} (h0 : 0 ≤ x) (h1 : x < 18446744073709551616) : pn_V (upd (upd f (0) (pn_I x)) (1) (pn_I (x / 4294967296))) 2 = x := by
  have e : pn_I x = pn_I (x % 4294967296) := pn_I_eqm (by omega)
  rw [e, pn_V_2 f (x % 4294967296) (x / 4294967296) (by omega) (by omega) (by omega) (by omega)]
  omega
theorem pn_odd (f : Nat → Int32) (n : Nat) : pn_V f n % 2 = pn_u (pn_cut f n 0) % 2 := by
  cases n with
  | zero => rw [pn_cut_ge (Nat.le_refl 0), pn_u_0, pn_V_0]
  | succ n =>
    rw [pn_cut_lt (Nat.zero_lt_succ n)]
    have e := pn_V_add f 1 n
    rw [Nat.add_comm 1 n] at e
    rw [e, pn_V_s, pn_V_0, pn_E_0, pn_E_1]
    omega
theorem pn_inc_nz {f g : Nat → Int32} {i n : Nat} (hz : pn_nz f n) (h2 : f i ≠ -1) (g2 : g i = f i + 1) (g3 : ∀ j, i < j → g j = f j) (hi : i < n) : pn_nz g n := by
  intro k hk
  rcases (show i = k ∨ i < k by omega) with z | z
  · subst z
    rw [g2]
    intro e
    have e1 := pn_u_inc h2
    rw [e, pn_u_0] at e1
    have := pn_u_nonneg (f i)
    omega
  · rw [g3 k z]
    exact hz k hk
theorem pn_inc_top {f g : Nat → Int32} {n : Nat} (h1 : ∀ j, j < n → f j = -1) (g1 : ∀ j, j < n → g j = 0) : pn_V (upd g n (nI 1)) (n + 1) = pn_V f n + 1 := by
  have e : pn_u (nI 1) = 1 := by decide
  rw [pn_V_upS, pn_V_ones h1, pn_V_zero g1, e]
  omega
theorem pn_udiv {a d : Int} (ha : 0 ≤ a) (hd : 0 < d) : 0 ≤ a - a / 2 ^ 1 / d * 2 ^ 1 * d ∧ a - a / 2 ^ 1 / d * 2 ^ 1 * d < 2 * d ∧ (a - a / 2 ^ 1 / d * 2 ^ 1 * d < d → a / d = a / 2 ^ 1 / d * 2 ^ 1) ∧ (d ≤ a - a / 2 ^ 1 / d * 2 ^ 1 * d → a / d = a / 2 ^ 1 / d * 2 ^ 1 + 1) := by
  obtain ⟨h, hh⟩ : ∃ h, h = a / 2 ^ 1 := ⟨_, rfl⟩
  rw [← hh]
  obtain ⟨q, hq⟩ : ∃ q, q = h / d := ⟨_, rfl⟩
  rw [← hq]
  have e1 : q * d ≤ h := by rw [hq]; exact Int.ediv_mul_le _ (by omega)
  have e2 : h < (q + 1) * d := by rw [hq]; exact Int.lt_ediv_add_one_mul_self _ hd
  have e3 : (q + 1) * d = q * d + d := by grind
  have e4 : q * 2 ^ 1 * d = 2 * (q * d) := by grind
  have e5 : a = 2 * h ∨ a = 2 * h + 1 := by omega
  rw [e4]
  refine ⟨by omega, by omega, fun z => ?_, fun z => ?_⟩
  · have u := Int.ediv_emod_unique (a := a) (b := d) (r := a - 2 * (q * d)) (q := q * 2 ^ 1) hd
    exact (u.mpr ⟨by rw [Int.mul_comm d, e4]; omega, by omega, z⟩).1
  · have u := Int.ediv_emod_unique (a := a) (b := d) (r := a - 2 * (q * d) - d) (q := q * 2 ^ 1 + 1) hd
    exact (u.mpr ⟨by rw [Int.mul_comm d, Int.add_mul, e4]; omega, by omega, by omega⟩).1
theorem pn_divmod {v q r d : Int} (hd : 0 < d) (h : q * d + r = v) (h0 : 0 ≤ r) (h1 : r < d) : v / d = q ∧ v % d = r := (Int.ediv_emod_unique hd).mpr ⟨by rw [Int.mul_comm d]; omega, h0, h1⟩
theorem pn_mod {v d : Int} (hd : 0 < d) : 0 ≤ v - v / d * d ∧ v - v / d * d < d := by
  have e1 : v / d * d ≤ v := Int.ediv_mul_le _ (by omega)
  have e2 : v < (v / d + 1) * d := Int.lt_ediv_add_one_mul_self _ hd
  rw [Int.add_mul] at e2
  omega
theorem pn_quot {left x d : Int} (hd : 0 < d) (h0 : 0 ≤ left) (h1 : left < d) (hx0 : 0 ≤ x) (hx : x < 4294967296) : 0 ≤ (left * 4294967296 + x) / d ∧ (left * 4294967296 + x) / d < 4294967296 := by
  refine ⟨Int.ediv_nonneg (by omega) (by omega), Int.ediv_lt_of_lt_mul hd ?_⟩
  omega

set_option maxHeartbeats 4000000 in
set_option maxRecDepth 100000 in
theorem c_R_become (l : Launch) (D : va_G) (cI cZ cB cJ : ClassId) (sz : Nat) (ot qt : Nat) (ft : Nat → Int32) (nt : Nat) (bt : Bool) (z : Int) (hz0 : -9223372036854775808 ≤ z) (hz1 : z < 9223372036854775808) : pn_Cv l D (pn_ty cI cZ cB cJ) y_R_become w_R_become ({ frames := 1, cells := 0, slots := 0, locals := 32 } : Room) [.ref ot, .long (pn_L z)] [(ot, .inr (1, [.ref qt, .int (nI nt), .int (pn_b bt)])), (qt, .inl (cI, 632, .inl ft))] sz (S := (Nat → Int32) × Nat × Bool) (fun u => u.2.1 ≤ 2 ∧ pn_V u.1 u.2.1 = (z.natAbs : Int) ∧ pn_nz u.1 u.2.1 ∧ u.2.2 = decide (z < 0)) (fun u => [(ot, .inr (1, [.ref qt, .int (nI u.2.1), .int (pn_b u.2.2)])), (qt, .inl (cI, 632, .inl u.1))]) := by
  refine pn_start (by decide) (Nat.le_of_ble_eq_true rfl) ?_
  intro p e s m below meth c A Q ls hQ hAe Fx hr hlocks hN hK hP hD hS hA hl
  have hx := Fx.1
  have hb := Fx.2.1
  have hl : lv_has ls 5 [(0, .ref ot), (1, .long (pn_L z))] := hl
  refine lv_lload_n hx hb d_R_become_0 rfl (lv_at hl 1 rfl) ?_
  refine lv_lconst (v := pn_L 0) hx hb d_R_become_1 (by decide) ?_
  refine W.lcmp hx hb d_R_become_2 ?_
  refine pw_ifl_ge (a := z) (b := 0) (tgt := 11) hx hb d_R_become_3 (by decide) (by omega) (by omega) (by omega) (by omega) (fun h_3 => ?_) (fun h_3 => ?_)
  · skip
    refine lv_lload_n hx hb d_R_become_11 rfl (lv_at hl 1 rfl) ?_
    refine lv_lstore_n (lv' := [(3, .long (pn_L z)), (0, .ref ot), (1, .long (pn_L z))]) hx hb d_R_become_12 rfl hl (by decide) rfl (fun ls hl => ?_)
    refine lv_aload_n hx hb d_R_become_13 rfl (lv_at hl 1 rfl) ?_
    refine pw_get Fx hK hP fld_R 0 rfl 0 (by decide) kw_89 (v := .ref qt) rfl d_R_become_14 ?_
    refine lv_iconst (v := nI 0) hx hb d_R_become_17 (by decide) ?_
    refine lv_lload_n hx hb d_R_become_18 rfl (lv_at hl 0 rfl) ?_
    refine pw_l2i hx hb d_R_become_19 ?_
    refine pw_iast Fx hK hP hD hS 1 0 (f := ft) rfl rfl (k := 0) (by omega) (by decide) (w' := [(ot, .inr (1, [.ref qt, .int (nI nt), .int (pn_b bt)])), (qt, .inl (cI, 632, .inl (upd ft 0 (pn_I z))))]) rfl d_R_become_20 (fun H locs hP hD hS => ?_)
    refine lv_aload_n hx hb d_R_become_21 rfl (lv_at hl 1 rfl) ?_
    refine pw_get Fx hK hP fld_R 0 rfl 0 (by decide) kw_89 (v := .ref qt) rfl d_R_become_22 ?_
    refine lv_iconst (v := nI 1) hx hb d_R_become_25 (by decide) ?_
    refine lv_lload_n hx hb d_R_become_26 rfl (lv_at hl 0 rfl) ?_
    refine lv_bipush (v := 32) hx hb d_R_become_27 (by decide) ?_
    refine pw_lushr32 hx hb d_R_become_29 (by omega) (by omega) ?_
    refine pw_l2i hx hb d_R_become_30 ?_
    refine pw_iast Fx hK hP hD hS 1 0 (f := upd ft 0 (pn_I z)) rfl rfl (k := 1) (by omega) (by decide) (w' := [(ot, .inr (1, [.ref qt, .int (nI nt), .int (pn_b bt)])), (qt, .inl (cI, 632, .inl (upd (upd ft 0 (pn_I z)) 1 (pn_I (z / 4294967296)))))]) rfl d_R_become_31 (fun H locs hP hD hS => ?_)
    refine lv_aload_n hx hb d_R_become_32 rfl (lv_at hl 1 rfl) ?_
    refine lv_iconst (v := nI 2) hx hb d_R_become_33 (by decide) ?_
    refine pn_bv (wr := []) [0, 1] [] hP hD hS hA (pn_rV [.int (nI 2)] [] Fx hK hN hP hD [0, 1] rfl rfl (c_R_fit l D cI cZ cB cJ _ ot qt (upd (upd ft (0) (pn_I z)) (1) (pn_I (z / 4294967296))) nt 2 bt (by omega)) kw_226 cal_R_fit inst_R_fit sel_R_fit ⟨by decide, by decide⟩ ⟨rfl, rfl⟩ 0 rfl rfl rfl rfl hl.1 (Nat.le_of_ble_eq_true rfl) d_R_become_34 ⟨Nat.zero_le _, Nat.zero_le _⟩) rfl rfl rfl (by decide) (fun u_34 H locs hw hP hD hS => ?_)
    obtain ⟨hj, hVj, hzj⟩ := hw
    have hP : va_P D pn_cl [(ot, .inr (1, [.ref qt, .int (nI u_34), .int (pn_b false)])), (qt, .inl (cI, 632, .inl (upd (upd ft (0) (pn_I z)) (1) (pn_I (z / 4294967296)))))] H := hP
    have hD : va_D A [(ot, .inr (1, [.ref qt, .int (nI u_34), .int (pn_b false)])), (qt, .inl (cI, 632, .inl (upd (upd ft (0) (pn_I z)) (1) (pn_I (z / 4294967296)))))] := hD
    refine lv_aload_n hx hb d_R_become_37 rfl (lv_at hl 1 rfl) ?_
    refine lv_lload_n hx hb d_R_become_38 rfl (lv_at hl 2 rfl) ?_
    refine lv_lconst (v := pn_L 0) hx hb d_R_become_39 (by decide) ?_
    refine W.lcmp hx hb d_R_become_40 ?_
    refine pw_ifl_ge (a := z) (b := 0) (tgt := 48) hx hb d_R_become_41 (by decide) (by omega) (by omega) (by omega) (by omega) (fun h_41 => ?_) (fun h_41 => ?_)
    · skip
      refine lv_iconst (v := nI 0) hx hb d_R_become_48 (by decide) ?_
      refine pn_topi (pn_b false) (by decide) ?_
      refine pw_put Fx hK hP hD hS fld_R 0 rfl 2 (by decide) kw_99 rfl (pn_b_nar _) (pn_b_fit _) (Nat.le_of_ble_eq_true rfl) (w' := [(ot, .inr (1, [.ref qt, .int (nI u_34), .int (pn_b false)])), (qt, .inl (cI, 632, .inl (upd (upd ft (0) (pn_I z)) (1) (pn_I (z / 4294967296)))))]) rfl d_R_become_49 (fun H locs hP hD hS => ?_)
      exact pn_retv ((upd (upd ft (0) (pn_I z)) (1) (pn_I (z / 4294967296)), u_34, false)) Fx hr hlocks hQ hAe hP hD hS (by (try dsimp only); first | done | exact (⟨hj, by rw [hVj, pn_V_2' ft (by omega) (by omega)]; omega, hzj, (by simp; omega)⟩)) d_R_become_52
    · skip
      exact absurd h_41 (by omega)
  · skip
    refine lv_lload_n hx hb d_R_become_6 rfl (lv_at hl 1 rfl) ?_
    refine pw_lneg hx hb d_R_become_7 ?_
    refine lv_goto (tgt := 12) hx hb d_R_become_8 (by decide) ?_
    refine lv_lstore_n (lv' := [(3, .long (pn_L (-z))), (0, .ref ot), (1, .long (pn_L z))]) hx hb d_R_become_12 rfl hl (by decide) rfl (fun ls hl => ?_)
    refine lv_aload_n hx hb d_R_become_13 rfl (lv_at hl 1 rfl) ?_
    refine pw_get Fx hK hP fld_R 0 rfl 0 (by decide) kw_89 (v := .ref qt) rfl d_R_become_14 ?_
    refine lv_iconst (v := nI 0) hx hb d_R_become_17 (by decide) ?_
    refine lv_lload_n hx hb d_R_become_18 rfl (lv_at hl 0 rfl) ?_
    refine pw_l2i hx hb d_R_become_19 ?_
    refine pw_iast Fx hK hP hD hS 1 0 (f := ft) rfl rfl (k := 0) (by omega) (by decide) (w' := [(ot, .inr (1, [.ref qt, .int (nI nt), .int (pn_b bt)])), (qt, .inl (cI, 632, .inl (upd ft 0 (pn_I (-z)))))]) rfl d_R_become_20 (fun H locs hP hD hS => ?_)
    refine lv_aload_n hx hb d_R_become_21 rfl (lv_at hl 1 rfl) ?_
    refine pw_get Fx hK hP fld_R 0 rfl 0 (by decide) kw_89 (v := .ref qt) rfl d_R_become_22 ?_
    refine lv_iconst (v := nI 1) hx hb d_R_become_25 (by decide) ?_
    refine lv_lload_n hx hb d_R_become_26 rfl (lv_at hl 0 rfl) ?_
    refine lv_bipush (v := 32) hx hb d_R_become_27 (by decide) ?_
    refine pw_lushr32 hx hb d_R_become_29 (by omega) (by omega) ?_
    refine pw_l2i hx hb d_R_become_30 ?_
    refine pw_iast Fx hK hP hD hS 1 0 (f := upd ft 0 (pn_I (-z))) rfl rfl (k := 1) (by omega) (by decide) (w' := [(ot, .inr (1, [.ref qt, .int (nI nt), .int (pn_b bt)])), (qt, .inl (cI, 632, .inl (upd (upd ft 0 (pn_I (-z))) 1 (pn_I ((-z) / 4294967296)))))]) rfl d_R_become_31 (fun H locs hP hD hS => ?_)
    refine lv_aload_n hx hb d_R_become_32 rfl (lv_at hl 1 rfl) ?_
    refine lv_iconst (v := nI 2) hx hb d_R_become_33 (by decide) ?_
    refine pn_bv (wr := []) [0, 1] [] hP hD hS hA (pn_rV [.int (nI 2)] [] Fx hK hN hP hD [0, 1] rfl rfl (c_R_fit l D cI cZ cB cJ _ ot qt (upd (upd ft (0) (pn_I (-z))) (1) (pn_I ((-z) / 4294967296))) nt 2 bt (by omega)) kw_226 cal_R_fit inst_R_fit sel_R_fit ⟨by decide, by decide⟩ ⟨rfl, rfl⟩ 0 rfl rfl rfl rfl hl.1 (Nat.le_of_ble_eq_true rfl) d_R_become_34 ⟨Nat.zero_le _, Nat.zero_le _⟩) rfl rfl rfl (by decide) (fun u_34 H locs hw hP hD hS => ?_)
    obtain ⟨hj, hVj, hzj⟩ := hw
    have hP : va_P D pn_cl [(ot, .inr (1, [.ref qt, .int (nI u_34), .int (pn_b false)])), (qt, .inl (cI, 632, .inl (upd (upd ft (0) (pn_I (-z))) (1) (pn_I ((-z) / 4294967296)))))] H := hP
    have hD : va_D A [(ot, .inr (1, [.ref qt, .int (nI u_34), .int (pn_b false)])), (qt, .inl (cI, 632, .inl (upd (upd ft (0) (pn_I (-z))) (1) (pn_I ((-z) / 4294967296)))))] := hD
    refine lv_aload_n hx hb d_R_become_37 rfl (lv_at hl 1 rfl) ?_
    refine lv_lload_n hx hb d_R_become_38 rfl (lv_at hl 2 rfl) ?_
    refine lv_lconst (v := pn_L 0) hx hb d_R_become_39 (by decide) ?_
    refine W.lcmp hx hb d_R_become_40 ?_
    refine pw_ifl_ge (a := z) (b := 0) (tgt := 48) hx hb d_R_become_41 (by decide) (by omega) (by omega) (by omega) (by omega) (fun h_41 => ?_) (fun h_41 => ?_)
    · skip
      exact absurd h_41 (by omega)
    · skip
      refine lv_iconst (v := nI 1) hx hb d_R_become_44 (by decide) ?_
      refine lv_goto (tgt := 49) hx hb d_R_become_45 (by decide) ?_
      refine pn_topi (pn_b true) (by decide) ?_
      refine pw_put Fx hK hP hD hS fld_R 0 rfl 2 (by decide) kw_99 rfl (pn_b_nar _) (pn_b_fit _) (Nat.le_of_ble_eq_true rfl) (w' := [(ot, .inr (1, [.ref qt, .int (nI u_34), .int (pn_b true)])), (qt, .inl (cI, 632, .inl (upd (upd ft (0) (pn_I (-z))) (1) (pn_I ((-z) / 4294967296)))))]) rfl d_R_become_49 (fun H locs hP hD hS => ?_)
      exact pn_retv ((upd (upd ft (0) (pn_I (-z))) (1) (pn_I ((-z) / 4294967296)), u_34, true)) Fx hr hlocks hQ hAe hP hD hS (by (try dsimp only); first | done | exact (⟨hj, by rw [hVj, pn_V_2' ft (by omega) (by omega)]; omega, hzj, (by simp; omega)⟩)) d_R_become_52

set_option maxHeartbeats 4000000 in
set_option maxRecDepth 100000 in
theorem c_R_increase (l : Launch) (D : va_G) (cI cZ cB cJ : ClassId) (sz : Nat) (ot qt : Nat) (ft : Nat → Int32) (nt : Nat) (bt : Bool) (hnt : nt ≤ 631) (hz : pn_nz ft nt) : pn_Cv l D (pn_ty cI cZ cB cJ) y_R_increase w_R_increase ({ frames := 0, cells := 0, slots := 0, locals := 0 } : Room) [.ref ot] [(ot, .inr (1, [.ref qt, .int (nI nt), .int (pn_b bt)])), (qt, .inl (cI, 632, .inl ft))] sz (S := (Nat → Int32) × Nat) (fun u => u.2 ≤ nt + 1 ∧ pn_V u.1 u.2 = pn_V ft nt + 1 ∧ pn_nz u.1 u.2) (fun u => [(ot, .inr (1, [.ref qt, .int (nI u.2), .int (pn_b bt)])), (qt, .inl (cI, 632, .inl u.1))]) := by
  refine pn_start (by decide) (Nat.le_of_ble_eq_true rfl) ?_
  intro p e s m below meth c A Q ls hQ hAe Fx hr hlocks hN hK hP hD hS hA hl
  have hx := Fx.1
  have hb := Fx.2.1
  have hl : lv_has ls 2 [(0, .ref ot)] := hl
  refine lv_iconst (v := nI 0) hx hb d_R_increase_0 (by decide) ?_
  refine lv_istore_n (lv' := [(1, .int (nI 0)), (0, .ref ot)]) hx hb d_R_increase_1 rfl hl (by decide) rfl (fun ls hl => ?_)
  have loop2 : ∀ (N : Nat) (i : Nat) (g : Nat → Int32), nt - i < N → (i ≤ nt) → (∀ j, j < i → ft j = -1) → (∀ j, j < i → g j = 0) → (∀ j, i ≤ j → g j = ft j) → ∀ (H : Heap) (locs : List Loc) (ls : Array Slot), lv_has ls 2 [(1, .int (nI i)), (0, .ref ot)] → va_P D pn_cl [(ot, .inr (1, [.ref qt, .int (nI nt), .int (pn_b bt)])), (qt, .inl (cI, 632, .inl g))] H → va_D A [(ot, .inr (1, [.ref qt, .int (nI nt), .int (pn_b bt)])), (qt, .inl (cI, 632, .inl g))] → va_S A s.heap H locs → W p l e ({ frames := 0, cells := 0, slots := 0, locals := 0 } : Room) s m ([.ref ot] : List Value).toArray below meth c H locs 0 0 Q (F0 m 2 ls []) := by
    intro N
    induction N with
    | zero => intro i g hM; exact absurd hM (Nat.not_lt_zero _)
    | succ N ih2 =>
      intro i g hM2 hi h1 g1 g3 H locs ls hl hP hD hS
      refine lv_iload_n hx hb d_R_increase_2 rfl (lv_at hl 0 rfl) ?_
      refine lv_aload_n hx hb d_R_increase_3 rfl (lv_at hl 1 rfl) ?_
      refine pw_get Fx hK hP fld_R 0 rfl 1 (by decide) kw_93 (v := .int (nI nt)) rfl d_R_increase_4 ?_
      refine pw_icmp_ge (a := i) (b := nt) (tgt := 33) hx hb d_R_increase_7 (by decide) (by omega) (by omega) (fun h_7 => ?_) (fun h_7 => ?_)
      · skip
        obtain rfl : nt = i := by omega
        refine lv_iload_n hx hb d_R_increase_33 rfl (lv_at hl 0 rfl) ?_
        refine lv_aload_n hx hb d_R_increase_34 rfl (lv_at hl 1 rfl) ?_
        refine pw_get Fx hK hP fld_R 0 rfl 1 (by decide) kw_93 (v := .int (nI nt)) rfl d_R_increase_35 ?_
        refine pw_icmp_ge (a := nt) (b := nt) (tgt := 54) hx hb d_R_increase_38 (by decide) (by omega) (by omega) (fun h_38 => ?_) (fun h_38 => ?_)
        · skip
          refine lv_aload_n hx hb d_R_increase_54 rfl (lv_at hl 1 rfl) ?_
          refine pw_get Fx hK hP fld_R 0 rfl 1 (by decide) kw_93 (v := .int (nI nt)) rfl d_R_increase_55 ?_
          refine lv_sipush (v := nI 632) hx hb d_R_increase_58 (by decide) ?_
          refine pw_icmp_ge (a := nt) (b := 632) (tgt := 84) hx hb d_R_increase_61 (by decide) (by omega) (by omega) (fun h_61 => ?_) (fun h_61 => ?_)
          · skip
            exact absurd h_61 (by omega)
          · skip
            refine lv_aload_n hx hb d_R_increase_64 rfl (lv_at hl 1 rfl) ?_
            refine pw_get Fx hK hP fld_R 0 rfl 0 (by decide) kw_89 (v := .ref qt) rfl d_R_increase_65 ?_
            refine lv_aload_n hx hb d_R_increase_68 rfl (lv_at hl 1 rfl) ?_
            refine pw_get Fx hK hP fld_R 0 rfl 1 (by decide) kw_93 (v := .int (nI nt)) rfl d_R_increase_69 ?_
            refine lv_iconst (v := nI 1) hx hb d_R_increase_72 (by decide) ?_
            refine pw_iast Fx hK hP hD hS 1 0 (f := g) rfl rfl (k := nt) (by omega) (by decide) (w' := [(ot, .inr (1, [.ref qt, .int (nI nt), .int (pn_b bt)])), (qt, .inl (cI, 632, .inl (upd g nt (nI 1))))]) rfl d_R_increase_73 (fun H locs hP hD hS => ?_)
            refine lv_aload_n hx hb d_R_increase_74 rfl (lv_at hl 1 rfl) ?_
            refine lv_dup hx hb d_R_increase_75 rfl ?_
            refine pw_get Fx hK hP fld_R 0 rfl 1 (by decide) kw_93 (v := .int (nI nt)) rfl d_R_increase_76 ?_
            refine lv_iconst (v := nI 1) hx hb d_R_increase_79 (by decide) ?_
            refine pw_iadd hx hb d_R_increase_80 ?_
            refine pw_put Fx hK hP hD hS fld_R 0 rfl 1 (by decide) kw_93 rfl rfl rfl (Nat.le_of_ble_eq_true rfl) (w' := [(ot, .inr (1, [.ref qt, .int (nI (nt + 1)), .int (pn_b bt)])), (qt, .inl (cI, 632, .inl (upd g nt (nI 1))))]) rfl d_R_increase_81 (fun H locs hP hD hS => ?_)
            exact pn_retv ((upd g nt (nI 1), nt + 1)) Fx hr hlocks hQ hAe hP hD hS (by (try dsimp only); first | done | exact (⟨by omega, pn_inc_top h1 g1, fun k hk => by obtain rfl : nt = k := (by omega); rw [pk_us]; decide⟩)) d_R_increase_84
        · skip
          exact absurd h_38 (by omega)
      · skip
        refine lv_aload_n hx hb d_R_increase_10 rfl (lv_at hl 1 rfl) ?_
        refine pw_get Fx hK hP fld_R 0 rfl 0 (by decide) kw_89 (v := .ref qt) rfl d_R_increase_11 ?_
        refine lv_iload_n hx hb d_R_increase_14 rfl (lv_at hl 0 rfl) ?_
        refine pw_iald Fx hK hP 1 0 (f := g) rfl rfl (k := i) (by omega) (by decide) d_R_increase_15 ?_
        refine lv_iconst (v := (-1)) hx hb d_R_increase_16 (by decide) ?_
        refine lv_icmp_ne (tgt := 33) hx hb d_R_increase_17 (by decide) (fun h_17 => ?_) (fun h_17 => ?_)
        · skip
          refine lv_iload_n hx hb d_R_increase_33 rfl (lv_at hl 0 rfl) ?_
          refine lv_aload_n hx hb d_R_increase_34 rfl (lv_at hl 1 rfl) ?_
          refine pw_get Fx hK hP fld_R 0 rfl 1 (by decide) kw_93 (v := .int (nI nt)) rfl d_R_increase_35 ?_
          refine pw_icmp_ge (a := i) (b := nt) (tgt := 54) hx hb d_R_increase_38 (by decide) (by omega) (by omega) (fun h_38 => ?_) (fun h_38 => ?_)
          · skip
            exact absurd h_38 (by omega)
          · skip
            refine lv_aload_n hx hb d_R_increase_41 rfl (lv_at hl 1 rfl) ?_
            refine pw_get Fx hK hP fld_R 0 rfl 0 (by decide) kw_89 (v := .ref qt) rfl d_R_increase_42 ?_
            refine lv_iload_n hx hb d_R_increase_45 rfl (lv_at hl 0 rfl) ?_
            refine lv_dup2_11 hx hb d_R_increase_46 rfl rfl ?_
            refine pw_iald Fx hK hP 1 0 (f := g) rfl rfl (k := i) (by omega) (by decide) d_R_increase_47 ?_
            refine lv_iconst (v := nI 1) hx hb d_R_increase_48 (by decide) ?_
            refine lv_iadd hx hb d_R_increase_49 ?_
            refine pw_iast Fx hK hP hD hS 1 0 (f := g) rfl rfl (k := i) (by omega) (by decide) (w' := [(ot, .inr (1, [.ref qt, .int (nI nt), .int (pn_b bt)])), (qt, .inl (cI, 632, .inl (upd g i ((g i) + (nI 1)))))]) rfl d_R_increase_50 (fun H locs hP hD hS => ?_)
            refine lv_goto (tgt := 84) hx hb d_R_increase_51 (by decide) ?_
            exact pn_retv ((upd g i (g i + nI 1), nt)) Fx hr hlocks hQ hAe hP hD hS (by (try dsimp only); first | done | exact (⟨by omega, pn_V_inc h_7 h1 (by rw [← g3 i (Nat.le_refl i)]; exact h_17) (fun j h => by rw [pk_un (by omega)]; exact g1 j h) (by rw [pk_us, g3 i (Nat.le_refl i)]; rfl) (fun j h => by rw [pk_un (by omega)]; exact g3 j (by omega)), pn_inc_nz hz (by rw [← g3 i (Nat.le_refl i)]; exact h_17) (by rw [pk_us, g3 i (Nat.le_refl i)]; rfl) (fun j h => by rw [pk_un (by omega)]; exact g3 j (by omega)) h_7⟩)) d_R_increase_84
        · skip
          refine lv_aload_n hx hb d_R_increase_20 rfl (lv_at hl 1 rfl) ?_
          refine pw_get Fx hK hP fld_R 0 rfl 0 (by decide) kw_89 (v := .ref qt) rfl d_R_increase_21 ?_
          refine lv_iload_n hx hb d_R_increase_24 rfl (lv_at hl 0 rfl) ?_
          refine lv_iconst (v := nI 0) hx hb d_R_increase_25 (by decide) ?_
          refine pw_iast Fx hK hP hD hS 1 0 (f := g) rfl rfl (k := i) (by omega) (by decide) (w' := [(ot, .inr (1, [.ref qt, .int (nI nt), .int (pn_b bt)])), (qt, .inl (cI, 632, .inl (upd g i (nI 0))))]) rfl d_R_increase_26 (fun H locs hP hD hS => ?_)
          refine lv_iinc (v := nI (i + 1)) (lv' := [(1, .int (nI (i + 1))), (0, .ref ot)]) hx hb d_R_increase_27 hl (k := 0) rfl (nI_add _ 1) (by decide) rfl (fun ls hl => ?_)
          refine lv_goto (tgt := 2) hx hb d_R_increase_30 (by decide) ?_
          exact ih2 (i + 1) _ (by omega) (by omega) (fun j h => by rcases (show j = i ∨ j < i by omega) with z | z; (· rw [z, ← g3 i (Nat.le_refl i)]; exact h_17); (· exact h1 j z)) (fun j h => by rcases (show j = i ∨ j < i by omega) with z | z; (· rw [z, pk_us]; rfl); (· rw [pk_un (by omega)]; exact g1 j z)) (fun j h => by rw [pk_un (by omega)]; exact g3 j (by omega)) _ _ _ hl hP hD hS
  exact loop2 _ 0 ft (Nat.lt_succ_self _) (Nat.zero_le _) (fun j h => by omega) (fun j h => by omega) (fun j _ => rfl) _ _ _ hl hP hD hS

set_option maxHeartbeats 4000000 in
set_option maxRecDepth 100000 in
theorem c_R_isOdd (l : Launch) (D : va_G) (cI cZ cB cJ : ClassId) (sz : Nat) (ot qt : Nat) (ft : Nat → Int32) (nt : Nat) (bt : Bool) (hnt : nt ≤ 632) : pn_Ci l D (pn_ty cI cZ cB cJ) y_R_isOdd w_R_isOdd ({ frames := 1, cells := 0, slots := 0, locals := 32 } : Room) [.ref ot] [(ot, .inr (1, [.ref qt, .int (nI nt), .int (pn_b bt)])), (qt, .inl (cI, 632, .inl ft))] sz (S := Unit) (fun r _ => r = pn_b (decide (pn_V ft nt % 2 = 1))) (fun _ => [(ot, .inr (1, [.ref qt, .int (nI nt), .int (pn_b bt)])), (qt, .inl (cI, 632, .inl ft))]) := by
  refine pn_start (by decide) (Nat.le_of_ble_eq_true rfl) ?_
  intro p e s m below meth c A Q ls hQ hAe Fx hr hlocks hN hK hP hD hS hA hl
  have hx := Fx.1
  have hb := Fx.2.1
  have hl : lv_has ls 1 [(0, .ref ot)] := hl
  refine lv_aload_n hx hb d_R_isOdd_0 rfl (lv_at hl 0 rfl) ?_
  refine lv_iconst (v := nI 0) hx hb d_R_isOdd_1 (by decide) ?_
  refine pn_bl (wr := []) [0, 1] [] hP hD hS hA (pn_rV [.int (nI 0)] [] Fx hK hN hP hD [0, 1] rfl rfl (c_R_limbAt l D cI cZ cB cJ _ ot qt ft nt 0 bt (by omega) (by omega)) kw_361 cal_R_limbAt inst_R_limbAt sel_R_limbAt ⟨by decide, by decide⟩ ⟨rfl, rfl⟩ 0 rfl rfl rfl rfl hl.1 (Nat.le_of_ble_eq_true rfl) d_R_isOdd_2 ⟨Nat.zero_le _, Nat.zero_le _⟩) rfl rfl rfl (by decide) (fun r_2 u_2 H locs hw hP hD hS => ?_)
  obtain ⟨⟩ := u_2
  obtain rfl := hw
  have hP : va_P D pn_cl [(ot, .inr (1, [.ref qt, .int (nI nt), .int (pn_b bt)])), (qt, .inl (cI, 632, .inl ft))] H := hP
  have hD : va_D A [(ot, .inr (1, [.ref qt, .int (nI nt), .int (pn_b bt)])), (qt, .inl (cI, 632, .inl ft))] := hD
  refine lv_lconst (v := pn_L 1) hx hb d_R_isOdd_5 (by decide) ?_
  refine pw_land1 hx hb d_R_isOdd_6 ?_
  refine lv_lconst (v := pn_L 1) hx hb d_R_isOdd_7 (by decide) ?_
  refine W.lcmp hx hb d_R_isOdd_8 ?_
  refine pw_ifl_ne (a := (pn_u (pn_cut ft nt 0)) % 2) (b := 1) (tgt := 16) hx hb d_R_isOdd_9 (by decide) (by omega) (by omega) (by omega) (by omega) (fun h_9 => ?_) (fun h_9 => ?_)
  · skip
    have hz : pn_b false = pn_b (decide (pn_V ft nt % 2 = 1)) := by rw [pn_odd, decide_eq_false h_9]
    refine lv_iconst (v := nI 0) hx hb d_R_isOdd_16 (by decide) ?_
    refine pn_topi (pn_b false) (by decide) ?_
    exact pn_retz (()) Fx hr (hn := pn_b_nar _) hlocks hQ hAe hP hD hS (by (try dsimp only); first | done | exact (hz)) d_R_isOdd_17
  · skip
    have hz : pn_b true = pn_b (decide (pn_V ft nt % 2 = 1)) := by rw [pn_odd, decide_eq_true h_9]
    refine lv_iconst (v := nI 1) hx hb d_R_isOdd_12 (by decide) ?_
    refine lv_goto (tgt := 17) hx hb d_R_isOdd_13 (by decide) ?_
    refine pn_topi (pn_b true) (by decide) ?_
    exact pn_retz (()) Fx hr (hn := pn_b_nar _) hlocks hQ hAe hP hD hS (by (try dsimp only); first | done | exact (hz)) d_R_isOdd_17

set_option maxHeartbeats 4000000 in
set_option maxRecDepth 100000 in
theorem c_D_unsigned (l : Launch) (D : va_G) (cI cZ cB cJ : ClassId) (sz : Nat) (a d : Int) (ha0 : 0 ≤ a) (ha : a < 18446744073709551616) (hd0 : 0 < d) (hd : d < 4294967296) : pn_Cl l D (pn_ty cI cZ cB cJ) y_D_unsigned w_D_unsigned ({ frames := 0, cells := 0, slots := 0, locals := 0 } : Room) [.long (pn_L a), .long (pn_L d)] [] sz (S := Unit) (fun r _ => r = pn_L (a / d)) (fun _ => []) := by
  refine pn_start (by decide) (Nat.le_of_ble_eq_true rfl) ?_
  intro p e s m below meth c A Q ls hQ hAe Fx hr hlocks hN hK hP hD hS hA hl
  have hx := Fx.1
  have hb := Fx.2.1
  have hl : lv_has ls 6 [(0, .long (pn_L a)), (2, .long (pn_L d))] := hl
  refine lv_lload_n hx hb d_D_unsigned_0 rfl (lv_at hl 1 rfl) ?_
  refine lv_lconst (v := pn_L 0) hx hb d_D_unsigned_1 (by decide) ?_
  refine W.lcmp hx hb d_D_unsigned_2 ?_
  refine pw_ifl_gt (a := d) (b := 0) (tgt := 8) hx hb d_D_unsigned_3 (by decide) (by omega) (by omega) (by omega) (by omega) (fun h_3 => ?_) (fun h_3 => ?_)
  · skip
    by_cases hs : a < 9223372036854775808
    · skip
      refine lv_lload_n hx hb d_D_unsigned_8 rfl (lv_at hl 0 rfl) ?_
      refine pn_topl (pn_L a) (rfl) ?_
      refine lv_lconst (v := pn_L 0) hx hb d_D_unsigned_9 (by decide) ?_
      refine W.lcmp hx hb d_D_unsigned_10 ?_
      refine pw_ifl_lt (a := a) (b := 0) (tgt := 18) hx hb d_D_unsigned_11 (by decide) (by omega) (by omega) (by omega) (by omega) (fun h_11 => ?_) (fun h_11 => ?_)
      · skip
        exact absurd h_11 (by omega)
      · skip
        refine lv_lload_n hx hb d_D_unsigned_14 rfl (lv_at hl 0 rfl) ?_
        refine lv_lload_n hx hb d_D_unsigned_15 rfl (lv_at hl 1 rfl) ?_
        refine pw_ldiv hx hb d_D_unsigned_16 (by omega) (by omega) (by omega) (by omega) ?_
        exact pn_retl (()) Fx hr hlocks hQ hAe hP hD hS (by (try dsimp only); first | done | exact (rfl)) d_D_unsigned_17
    · skip
      have ud := pn_udiv ha0 hd0
      refine lv_lload_n hx hb d_D_unsigned_8 rfl (lv_at hl 0 rfl) ?_
      refine pn_topl (pn_L (a - 18446744073709551616)) (pn_L_eqm (by omega)) ?_
      refine lv_lconst (v := pn_L 0) hx hb d_D_unsigned_9 (by decide) ?_
      refine W.lcmp hx hb d_D_unsigned_10 ?_
      refine pw_ifl_lt (a := a - 18446744073709551616) (b := 0) (tgt := 18) hx hb d_D_unsigned_11 (by decide) (by omega) (by omega) (by omega) (by omega) (fun h_11 => ?_) (fun h_11 => ?_)
      · skip
        refine lv_lload_n hx hb d_D_unsigned_18 rfl (lv_at hl 0 rfl) ?_
        refine lv_iconst (v := nI 1) hx hb d_D_unsigned_19 (by decide) ?_
        refine pw_lushr hx hb d_D_unsigned_20 (by omega) (by omega) 1 (by decide) ?_
        refine lv_lload_n hx hb d_D_unsigned_21 rfl (lv_at hl 1 rfl) ?_
        refine pw_ldiv hx hb d_D_unsigned_22 (by omega) (by omega) hd0 (by omega) ?_
        refine lv_iconst (v := nI 1) hx hb d_D_unsigned_23 (by decide) ?_
        refine pw_lshl hx hb d_D_unsigned_24 1 (by decide) ?_
        refine lv_lstore (lv' := [(4, .long (pn_L ((a / 2 ^ 1) / d * 2 ^ 1))), (0, .long (pn_L a)), (2, .long (pn_L d))]) hx hb d_D_unsigned_25 hl (by decide) rfl (fun ls hl => ?_)
        refine lv_lload_n hx hb d_D_unsigned_27 rfl (lv_at hl 1 rfl) ?_
        refine lv_lload hx hb d_D_unsigned_28 (lv_at hl 0 rfl) ?_
        refine lv_lload_n hx hb d_D_unsigned_30 rfl (lv_at hl 2 rfl) ?_
        refine pw_lmul hx hb d_D_unsigned_31 ?_
        refine pw_lsub hx hb d_D_unsigned_32 ?_
        refine lv_lload_n hx hb d_D_unsigned_33 rfl (lv_at hl 2 rfl) ?_
        refine W.lcmp hx hb d_D_unsigned_34 ?_
        refine pw_ifl_lt (a := a - (((a / 2 ^ 1) / d * 2 ^ 1) * d)) (b := d) (tgt := 45) hx hb d_D_unsigned_35 (by decide) (by omega) (by omega) (by omega) (by omega) (fun h_35 => ?_) (fun h_35 => ?_)
        · skip
          have hz := ud.2.2.1 h_35
          refine lv_lload hx hb d_D_unsigned_45 (lv_at hl 0 rfl) ?_
          exact pn_retl (()) Fx hr hlocks hQ hAe hP hD hS (by (try dsimp only); first | done | exact (by rw [hz])) d_D_unsigned_47
        · skip
          have hz := ud.2.2.2 h_35
          refine lv_lload hx hb d_D_unsigned_38 (lv_at hl 0 rfl) ?_
          refine lv_lconst (v := pn_L 1) hx hb d_D_unsigned_40 (by decide) ?_
          refine pw_ladd hx hb d_D_unsigned_41 ?_
          refine lv_goto (tgt := 47) hx hb d_D_unsigned_42 (by decide) ?_
          exact pn_retl (()) Fx hr hlocks hQ hAe hP hD hS (by (try dsimp only); first | done | exact (by rw [hz])) d_D_unsigned_47
      · skip
        exact absurd h_11 (by omega)
  · skip
    exact absurd h_3 (by omega)
