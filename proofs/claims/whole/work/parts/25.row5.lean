theorem pn_shrink_q {f g : Nat → Int32} {n j : Nat} {d left pt : Int} (hd0 : 0 < d) (hin : j < n) (hlow : ∀ i, i < j + 1 → g i = f i) (hl0 : 0 ≤ left) (hl1 : left < d) (hV : (pn_V g n - pn_V f (j + 1)) * d + left * pn_E (j + 1) = pn_V f n - pn_V f (j + 1)) (hpt : pt = left * 4294967296 + pn_u (g j)) :
    (pn_V (upd g j (pn_I (pt / d))) n - pn_V f j) * d + (pt - pt / d * d) * pn_E j = pn_V f n - pn_V f j := by
  have e := pn_quot hd0 hl0 hl1 (pn_u_nonneg (g j)) (pn_u_lt (g j))
  rw [← hpt] at e
  have e2 : g j = f j := hlow j (by omega)
  exact pn_shrink hin (fun i hi => hlow i (by omega)) hV e.1 e.2 (by rw [← e2]; omega)
theorem pn_shrink_end {f g : Nat → Int32} {n j : Nat} {d left : Int} (hd0 : 0 < d) (hl0 : 0 ≤ left) (hl1 : left < d) (hV : (pn_V g n - pn_V f 0) * d + left * pn_E 0 = pn_V f n - pn_V f 0) (hj : pn_V g j = pn_V g n) : pn_L left = pn_L (pn_V f n % d) ∧ pn_V g j = pn_V f n / d := by
  rw [pn_V_0, pn_E_0] at hV
  have e := pn_divmod (v := pn_V f n) (q := pn_V g n) (r := left) hd0 (by rw [Int.sub_zero, Int.mul_one, Int.sub_zero] at hV; exact hV) hl0 hl1
  rw [e.1, e.2, hj]
  exact ⟨rfl, rfl⟩
theorem pn_pow_bd {y : Nat} (h : y ≤ 31) : (1 : Int) ≤ 2 ^ y ∧ (2 : Int) ^ y ≤ 2147483648 := by
  rw [pn_two]
  have h1 := Nat.two_pow_pos y
  have h2 := Nat.pow_le_pow_right (n := 2) (by decide) h
  omega
theorem pn_L_orS {x c : Int} {y : Nat} (hy : y < 64) (hx0 : 0 ≤ x) (hx : x * 2 ^ y < 18446744073709551616) (hc0 : 0 ≤ c) (hc : c < 2 ^ y) : pn_L (x * 2 ^ y) ||| pn_L c = pn_L (x * 2 ^ y + c) := by
  apply pn_L_ext
  rw [Int64.toBitVec_or, BitVec.toNat_or, pn_L_nat, pn_L_nat, pn_L_nat]
  obtain ⟨n, rfl⟩ := Int.eq_ofNat_of_zero_le hx0
  obtain ⟨k, rfl⟩ := Int.eq_ofNat_of_zero_le hc0
  rw [pn_two] at *
  have h64 := Nat.pow_le_pow_right (n := 2) (by decide) (show y ≤ 63 by omega)
  have q1 : (n : Int) * ((2 ^ y : Nat) : Int) = ((2 ^ y * n : Nat) : Int) := by rw [Int.natCast_mul]; exact Int.mul_comm _ _
  have hk : k < 2 ^ y := by omega
  have hd : 2 ^ y ∣ 18446744073709551616 := ⟨2 ^ (64 - y), by rw [← Nat.pow_add, show y + (64 - y) = 64 by omega]⟩
  obtain ⟨w, hw⟩ := hd
  rw [q1] at hx ⊢
  have hsum : 2 ^ y * n + k < 18446744073709551616 := by
    have h3 : 2 ^ y * n < 2 ^ y * w := by rw [← hw]; omega
    have h4 : n < w := Nat.lt_of_mul_lt_mul_left h3
    have h5 : 2 ^ y * (n + 1) ≤ 2 ^ y * w := Nat.mul_le_mul_left _ h4
    rw [Nat.mul_add, ← hw] at h5
    omega
  have e1 : (((2 ^ y * n : Nat) : Int) % 18446744073709551616).toNat = 2 ^ y * n := by omega
  have e2 : ((k : Int) % 18446744073709551616).toNat = k := by omega
  have e3 : ((((2 ^ y * n : Nat) : Int) + k) % 18446744073709551616).toNat = 2 ^ y * n + k := by omega
  rw [e1, e2, e3]
  exact (Nat.two_pow_add_eq_or_of_lt (i := y) hk n).symm
theorem pn_L_or_comm (a b : Int64) : a ||| b = b ||| a := by
  apply pn_L_ext
  rw [Int64.toBitVec_or, Int64.toBitVec_or, BitVec.toNat_or, BitVec.toNat_or, Nat.or_comm]
section PnOr
variable {p : Program} {l : Launch} {e : Env} {R : Room} {s : State} {m : MethodId} {args : Array Value} {below : List Frame} {meth : Method} {c : Code} {H : Heap} {locs : List Loc} {cells slots : Nat} {Q : State → Prop} {cc : ByteArray} {pc : Nat} {ls : Array Slot} {rest : List Value}
theorem pw_lorS (hexec : p.tables.exec = Jvm.exec) (hb : c.code = cc) {x k : Int} {y : Nat} (hdg : decode cc pc = .ok (.lor, 1)) (hy : y < 64) (hx0 : 0 ≤ x) (hx : x * 2 ^ y < 18446744073709551616) (hc0 : 0 ≤ k) (hc : k < 2 ^ y) (kk : W p l e R s m args below meth c H locs cells slots Q (F0 m (pc + 1) ls (.long (pn_L (x * 2 ^ y + k)) :: rest))) : W p l e R s m args below meth c H locs cells slots Q (F0 m pc ls (.long (pn_L k) :: .long (pn_L (x * 2 ^ y)) :: rest)) := lv_lor hexec hb hdg (by rw [pn_L_orS hy hx0 hx hc0 hc]; exact kk)
theorem pw_lorR (hexec : p.tables.exec = Jvm.exec) (hb : c.code = cc) {x k : Int} {y : Nat} (hdg : decode cc pc = .ok (.lor, 1)) (hy : y < 64) (hx0 : 0 ≤ x) (hx : x * 2 ^ y < 18446744073709551616) (hc0 : 0 ≤ k) (hc : k < 2 ^ y) (kk : W p l e R s m args below meth c H locs cells slots Q (F0 m (pc + 1) ls (.long (pn_L (x * 2 ^ y + k)) :: rest))) : W p l e R s m args below meth c H locs cells slots Q (F0 m pc ls (.long (pn_L (x * 2 ^ y)) :: .long (pn_L k) :: rest)) := lv_lor hexec hb hdg (by rw [pn_L_or_comm, pn_L_orS hy hx0 hx hc0 hc]; exact kk)
theorem pw_lor32R (hexec : p.tables.exec = Jvm.exec) (hb : c.code = cc) {x k : Int} (hdg : decode cc pc = .ok (.lor, 1)) (hx0 : 0 ≤ x) (hx : x < 4294967296) (hc0 : 0 ≤ k) (hc : k < 4294967296) (kk : W p l e R s m args below meth c H locs cells slots Q (F0 m (pc + 1) ls (.long (pn_L (x * 4294967296 + k)) :: rest))) : W p l e R s m args below meth c H locs cells slots Q (F0 m pc ls (.long (pn_L (x * 4294967296)) :: .long (pn_L k) :: rest)) := lv_lor hexec hb hdg (by rw [pn_L_or_comm, pn_L_or hx0 hx hc0 hc]; exact kk)
end PnOr
theorem pn_up_carry {x c P : Int} (hx0 : 0 ≤ x) (hx : x < 4294967296) (hc0 : 0 ≤ c) (hc : c < P) (hP : P ≤ 2147483648) : 0 ≤ x * P + c ∧ x * P + c < 9223372036854775808 ∧ 0 ≤ (x * P + c) / 4294967296 ∧ (x * P + c) / 4294967296 < P ∧ x * P < 18446744073709551616 := by
  have h1 := pn_mul_nonneg hx0 (show 0 ≤ P by omega)
  have h2 := pn_mul_le (show x ≤ 4294967295 by omega) (show 0 ≤ P by omega)
  refine ⟨by omega, by omega, Int.ediv_nonneg (by omega) (by decide), Int.ediv_lt_of_lt_mul (by decide) (by omega), by omega⟩
theorem pn_down_q {ab x P : Int} (hP : 0 < P) (hd : P ∣ 4294967296) (h0 : 0 ≤ ab) (hx0 : 0 ≤ x) (hx : x < 4294967296) : pn_I ((ab * 4294967296 + x) / P) = pn_I ((ab % P * 4294967296 + x) / P) ∧ (ab % P * 4294967296 + x) / P * P + x % P = ab % P * 4294967296 + x ∧ 0 ≤ (ab % P * 4294967296 + x) / P ∧ (ab % P * 4294967296 + x) / P < 4294967296 := by
  have m0 := Int.emod_nonneg ab (show P ≠ 0 by omega)
  have m1 := Int.emod_lt_of_pos ab hP
  have e1 : ab * 4294967296 + x = ab % P * 4294967296 + x + P * (ab / P * 4294967296) := by
    have := Int.emod_add_mul_ediv ab P
    conv => lhs; rw [← this]
    grind
  refine ⟨?_, ?_, Int.ediv_nonneg (by omega) (by omega), Int.ediv_lt_of_lt_mul hP ?_⟩
  · rw [e1, Int.add_mul_ediv_left _ _ (by omega)]
    apply pn_I_eqm
    omega
  · obtain ⟨k, hk⟩ := hd
    have e2 : (ab % P * 4294967296 + x) % P = x % P := by
      rw [hk, show ab % P * (P * k) + x = x + P * (ab % P * k) by grind, Int.add_mul_emod_self_left]
    have := Int.emod_add_mul_ediv (ab % P * 4294967296 + x) P
    rw [e2] at this
    rw [Int.mul_comm _ P]
    omega
  · have := pn_mul_le (show ab % P + 1 ≤ P by omega) (show (0:Int) ≤ 4294967296 by decide)
    rw [Int.add_mul] at this
    rw [Int.mul_comm 4294967296 P]
    omega
theorem pn_two_dvd {y : Nat} (h : y ≤ 32) : (2 : Int) ^ y ∣ 4294967296 := ⟨2 ^ (32 - y), by rw [← Int.pow_add, show y + (32 - y) = 32 by omega]; rfl⟩
def pn_sg (b : Bool) (v : Int) : Int := if b = true then -v else v
theorem pn_sg_f (v : Int) : pn_sg false v = v := rfl
theorem pn_sg_t (v : Int) : pn_sg true v = -v := rfl
theorem pn_sg_fix {b X : Bool} {f : Nat → Int32} {j : Nat} (h : b = (X && decide (0 < j))) : pn_sg b (pn_V f j) = pn_sg X (pn_V f j) ∧ (b = true → 0 < j) := by
  cases j with
  | zero => cases X <;> cases b <;> simp_all [pn_sg, pn_V_0]
  | succ j => cases X <;> cases b <;> simp_all [pn_sg]
theorem pn_cmp_neg {x y : Int} : pn_cmp x y < 0 ↔ x < y := by
  unfold pn_cmp
  split
  · exact ⟨fun _ => by omega, fun _ => by decide⟩
  · split
    · exact ⟨fun h => absurd h (by decide), fun h => by omega⟩
    · exact ⟨fun h => absurd h (by decide), fun h => by omega⟩

set_option maxHeartbeats 4000000 in
set_option maxRecDepth 100000 in
theorem c_R_shrink (l : Launch) (D : va_G) (cI cZ cB cJ : ClassId) (sz : Nat) (ot qt : Nat) (ft : Nat → Int32) (nt : Nat) (bt : Bool) (d : Int) (hnt : nt ≤ 632) (hd0 : 0 < d) (hd : d < 4294967296) : pn_Cl l D (pn_ty cI cZ cB cJ) y_R_shrink w_R_shrink ({ frames := 1, cells := 0, slots := 0, locals := 40 } : Room) [.ref ot, .long (pn_L d)] [(ot, .inr (1, [.ref qt, .int (nI nt), .int (pn_b bt)])), (qt, .inl (cI, 632, .inl ft))] sz (S := (Nat → Int32) × Nat) (fun r u => r = pn_L (pn_V ft nt % d) ∧ u.2 ≤ nt ∧ pn_V u.1 u.2 = pn_V ft nt / d ∧ pn_nz u.1 u.2) (fun u => [(ot, .inr (1, [.ref qt, .int (nI u.2), .int (pn_b false)])), (qt, .inl (cI, 632, .inl u.1))]) := by
  refine pn_start (by decide) (Nat.le_of_ble_eq_true rfl) ?_
  intro p e s m below meth c A Q ls hQ hAe Fx hr hlocks hN hK hP hD hS hA hl
  have hx := Fx.1
  have hb := Fx.2.1
  have hl : lv_has ls 10 [(0, .ref ot), (1, .long (pn_L d))] := hl
  refine lv_lconst (v := pn_L 0) hx hb d_R_shrink_0 (by decide) ?_
  refine lv_lstore_n (lv' := [(3, .long (pn_L 0)), (0, .ref ot), (1, .long (pn_L d))]) hx hb d_R_shrink_1 rfl hl (by decide) rfl (fun ls hl => ?_)
  refine lv_aload_n hx hb d_R_shrink_2 rfl (lv_at hl 1 rfl) ?_
  refine pw_get Fx hK hP fld_R 0 rfl 1 (by decide) kw_93 (v := .int (nI nt)) rfl d_R_shrink_3 ?_
  refine lv_iconst (v := nI 1) hx hb d_R_shrink_6 (by decide) ?_
  refine lv_isub hx hb d_R_shrink_7 ?_
  refine pn_topi (pn_I ((nt : Int) - 1)) (pn_dec _) ?_
  refine lv_istore (lv' := [(5, .int (pn_I ((nt : Int) - 1))), (3, .long (pn_L 0)), (0, .ref ot), (1, .long (pn_L d))]) hx hb d_R_shrink_8 hl (by decide) rfl (fun ls hl => ?_)
  have loop10 : ∀ (N : Nat) (k : Nat) (g : Nat → Int32) (left : Int), k < N → (k ≤ nt) → (∀ i, i < k → g i = ft i) → (0 ≤ left) → (left < d) → ((pn_V g nt - pn_V ft k) * d + left * pn_E k = pn_V ft nt - pn_V ft k) → ∀ (H : Heap) (locs : List Loc) (ls : Array Slot), lv_has ls 10 [(5, .int (pn_I ((k : Int) - 1))), (3, .long (pn_L left)), (0, .ref ot), (1, .long (pn_L d))] → va_P D pn_cl [(ot, .inr (1, [.ref qt, .int (nI nt), .int (pn_b bt)])), (qt, .inl (cI, 632, .inl g))] H → va_D A [(ot, .inr (1, [.ref qt, .int (nI nt), .int (pn_b bt)])), (qt, .inl (cI, 632, .inl g))] → va_S A s.heap H locs → W p l e ({ frames := 1, cells := 0, slots := 0, locals := 40 } : Room) s m ([.ref ot, .long (pn_L d)] : List Value).toArray below meth c H locs 0 0 Q (F0 m 10 ls []) := by
    intro N
    induction N with
    | zero => intro k g left hM; exact absurd hM (Nat.not_lt_zero _)
    | succ N ih10 =>
      intro k g left hM10 hk hlow hl0 hl1 hV H locs ls hl hP hD hS
      refine lv_iload hx hb d_R_shrink_10 (lv_at hl 0 rfl) ?_
      refine lv_if_lt (tgt := 66) hx hb d_R_shrink_12 (by decide) (fun h_12 => ?_) (fun h_12 => ?_)
      · skip
        have hk0 := pn_dec_0 (by omega) h_12
        subst hk0
        refine lv_aload_n hx hb d_R_shrink_66 rfl (lv_at hl 2 rfl) ?_
        refine lv_aload_n hx hb d_R_shrink_67 rfl (lv_at hl 2 rfl) ?_
        refine pw_get Fx hK hP fld_R 0 rfl 1 (by decide) kw_93 (v := .int (nI nt)) rfl d_R_shrink_68 ?_
        refine pn_bv (wr := []) [0, 1] [] hP hD hS hA (pn_rV [.int (nI nt)] [] Fx hK hN hP hD [0, 1] rfl rfl (c_R_fit l D cI cZ cB cJ _ ot qt g nt nt bt (by omega)) kw_226 cal_R_fit inst_R_fit sel_R_fit ⟨by decide, by decide⟩ ⟨rfl, rfl⟩ 0 rfl rfl rfl rfl hl.1 (Nat.le_of_ble_eq_true rfl) d_R_shrink_71 ⟨Nat.zero_le _, Nat.zero_le _⟩) rfl rfl rfl (by decide) (fun u_71 H locs hw hP hD hS => ?_)
        obtain ⟨hj, hVj, hzj⟩ := hw
        have hP : va_P D pn_cl [(ot, .inr (1, [.ref qt, .int (nI u_71), .int (pn_b false)])), (qt, .inl (cI, 632, .inl g))] H := hP
        have hD : va_D A [(ot, .inr (1, [.ref qt, .int (nI u_71), .int (pn_b false)])), (qt, .inl (cI, 632, .inl g))] := hD
        refine lv_lload_n hx hb d_R_shrink_74 rfl (lv_at hl 1 rfl) ?_
        exact pn_retl ((g, u_71)) Fx hr hlocks hQ hAe hP hD hS (by (try dsimp only); first | done | exact (⟨(pn_shrink_end hd0 hl0 hl1 hV hVj).1, hj, (pn_shrink_end hd0 hl0 hl1 hV hVj).2, hzj⟩)) d_R_shrink_75
      · skip
        obtain ⟨j, rfl⟩ := pn_dec_s h_12
        rw [pn_dec_n] at hl
        refine lv_lload_n hx hb d_R_shrink_15 rfl (lv_at hl 1 rfl) ?_
        refine lv_bipush (v := 32) hx hb d_R_shrink_16 (by decide) ?_
        refine pw_lshl32 hx hb d_R_shrink_18 ?_
        refine lv_aload_n hx hb d_R_shrink_19 rfl (lv_at hl 2 rfl) ?_
        refine pw_get Fx hK hP fld_R 0 rfl 0 (by decide) kw_89 (v := .ref qt) rfl d_R_shrink_20 ?_
        refine lv_iload hx hb d_R_shrink_23 (lv_at hl 0 rfl) ?_
        refine pw_iald Fx hK hP 1 0 (f := g) rfl rfl (k := j) (by omega) (by decide) d_R_shrink_25 ?_
        refine pw_i2l hx hb d_R_shrink_26 ?_
        refine lv_ldc2 hx hb Fx.2.2.2.1 (Fx.2.2.2.2 _ kw_365) d_R_shrink_27 ?_
        refine pw_limb hx hb d_R_shrink_30 ?_
        have u1 := pn_u_lt (g j)
        have u2 := pn_u_nonneg (g j)
        obtain ⟨pt, hpt⟩ : ∃ pt, pt = left * 4294967296 + pn_u (g j) := ⟨_, rfl⟩
        refine pw_lor hx hb d_R_shrink_31 hl0 (by omega) u2 u1 ?_
        refine pn_topl (pn_L pt) (by rw [hpt]) ?_
        refine lv_lstore (lv' := [(6, .long (pn_L pt)), (5, .int (nI j)), (3, .long (pn_L left)), (0, .ref ot), (1, .long (pn_L d))]) hx hb d_R_shrink_32 hl (by decide) rfl (fun ls hl => ?_)
        refine lv_lload hx hb d_R_shrink_34 (lv_at hl 0 rfl) ?_
        refine lv_lload_n hx hb d_R_shrink_36 rfl (lv_at hl 4 rfl) ?_
        refine pn_bl (wr := [(ot, .inr (1, [.ref qt, .int (nI nt), .int (pn_b bt)])), (qt, .inl (cI, 632, .inl g))]) [] [0, 1] hP hD hS hA (pn_rSN [.long (pn_L pt), .long (pn_L d)] [] Fx hK hN hP hD [] rfl rfl (c_D_unsigned l D cI cZ cB cJ _ pt d (by omega) (by omega) hd0 hd) kn_474 cal_D_unsigned stat_D_unsigned ⟨by decide, by decide⟩ ⟨rfl, rfl⟩ rfl hl.1 (Nat.le_of_ble_eq_true rfl) d_R_shrink_37 ⟨Nat.zero_le _, Nat.zero_le _⟩) rfl rfl rfl (by decide) (fun r_37 u_37 H locs hw hP hD hS => ?_)
        obtain ⟨⟩ := u_37
        obtain rfl := hw
        have hP : va_P D pn_cl [(ot, .inr (1, [.ref qt, .int (nI nt), .int (pn_b bt)])), (qt, .inl (cI, 632, .inl g))] H := hP
        have hD : va_D A [(ot, .inr (1, [.ref qt, .int (nI nt), .int (pn_b bt)])), (qt, .inl (cI, 632, .inl g))] := hD
        refine lv_lstore (lv' := [(8, .long (pn_L (pt / d))), (6, .long (pn_L pt)), (5, .int (nI j)), (3, .long (pn_L left)), (0, .ref ot), (1, .long (pn_L d))]) hx hb d_R_shrink_40 hl (by decide) rfl (fun ls hl => ?_)
        refine lv_aload_n hx hb d_R_shrink_42 rfl (lv_at hl 4 rfl) ?_
        refine pw_get Fx hK hP fld_R 0 rfl 0 (by decide) kw_89 (v := .ref qt) rfl d_R_shrink_43 ?_
        refine lv_iload hx hb d_R_shrink_46 (lv_at hl 2 rfl) ?_
        refine lv_lload hx hb d_R_shrink_48 (lv_at hl 0 rfl) ?_
        refine pw_l2i hx hb d_R_shrink_50 ?_
        refine pw_iast Fx hK hP hD hS 1 0 (f := g) rfl rfl (k := j) (by omega) (by decide) (w' := [(ot, .inr (1, [.ref qt, .int (nI nt), .int (pn_b bt)])), (qt, .inl (cI, 632, .inl (upd g j (pn_I (pt / d)))))]) rfl d_R_shrink_51 (fun H locs hP hD hS => ?_)
        refine lv_lload hx hb d_R_shrink_52 (lv_at hl 1 rfl) ?_
        refine lv_lload hx hb d_R_shrink_54 (lv_at hl 0 rfl) ?_
        refine lv_lload_n hx hb d_R_shrink_56 rfl (lv_at hl 5 rfl) ?_
        refine pw_lmul hx hb d_R_shrink_57 ?_
        refine pw_lsub hx hb d_R_shrink_58 ?_
        refine lv_lstore_n (lv' := [(3, .long (pn_L (pt - ((pt / d) * d)))), (8, .long (pn_L (pt / d))), (6, .long (pn_L pt)), (5, .int (nI j)), (0, .ref ot), (1, .long (pn_L d))]) hx hb d_R_shrink_59 rfl hl (by decide) rfl (fun ls hl => ?_)
        refine lv_iinc (v := pn_I ((j : Int) - 1)) (lv' := [(5, .int (pn_I ((j : Int) - 1))), (3, .long (pn_L (pt - ((pt / d) * d)))), (8, .long (pn_L (pt / d))), (6, .long (pn_L pt)), (0, .ref ot), (1, .long (pn_L d))]) hx hb d_R_shrink_60 hl (k := 3) rfl (pn_dec' _) (by decide) rfl (fun ls hl => ?_)
        refine lv_goto (tgt := 10) hx hb d_R_shrink_63 (by decide) ?_
        exact ih10 j _ (pt - pt / d * d) (by omega) (by omega) (fun i hi => by rw [pk_un (by omega)]; exact hlow i (by omega)) ((pn_mod hd0).1) ((pn_mod hd0).2) (pn_shrink_q hd0 (by omega) hlow hl0 hl1 hV hpt) _ _ _ (lv_sub hl [0, 1, 4, 5] rfl) hP hD hS
  exact loop10 _ nt ft 0 (Nat.lt_succ_self _) (Nat.le_refl _) (fun i _ => rfl) (by decide) (by omega) (by omega) _ _ _ hl hP hD hS

set_option maxHeartbeats 4000000 in
set_option maxRecDepth 100000 in
theorem c_R_shiftUp (l : Launch) (D : va_G) (cI cZ cB cJ : ClassId) (sz : Nat) (ot qt : Nat) (ft : Nat → Int32) (nt : Nat) (bt : Bool) (y : Nat) (hnt : nt ≤ 631) (hy : y ≤ 31) : pn_Cv l D (pn_ty cI cZ cB cJ) y_R_shiftUp w_R_shiftUp ({ frames := 0, cells := 0, slots := 0, locals := 0 } : Room) [.ref ot, .int (nI y)] [(ot, .inr (1, [.ref qt, .int (nI nt), .int (pn_b bt)])), (qt, .inl (cI, 632, .inl ft))] sz (S := Nat → Int32) (fun g => pn_V g (nt + 1) = pn_V ft nt * 2 ^ y ∧ pn_u (g nt) < 2 ^ y) (fun g => [(ot, .inr (1, [.ref qt, .int (nI nt), .int (pn_b bt)])), (qt, .inl (cI, 632, .inl g))]) := by
  refine pn_start (by decide) (Nat.le_of_ble_eq_true rfl) ?_
  intro p e s m below meth c A Q ls hQ hAe Fx hr hlocks hN hK hP hD hS hA hl
  have hx := Fx.1
  have hb := Fx.2.1
  have hl : lv_has ls 7 [(0, .ref ot), (1, .int (nI y))] := hl
  have hPb := pn_pow_bd hy
  refine lv_lconst (v := pn_L 0) hx hb d_R_shiftUp_0 (by decide) ?_
  refine lv_lstore_n (lv' := [(2, .long (pn_L 0)), (0, .ref ot), (1, .int (nI y))]) hx hb d_R_shiftUp_1 rfl hl (by decide) rfl (fun ls hl => ?_)
  refine lv_iconst (v := nI 0) hx hb d_R_shiftUp_2 (by decide) ?_
  refine lv_istore (lv' := [(4, .int (nI 0)), (2, .long (pn_L 0)), (0, .ref ot), (1, .int (nI y))]) hx hb d_R_shiftUp_3 hl (by decide) rfl (fun ls hl => ?_)
  have loop5 : ∀ (N : Nat) (i : Nat) (g : Nat → Int32) (c0 : Int), nt - i < N → (i ≤ nt) → (0 ≤ c0 ∧ c0 < 2 ^ y) → (∀ j, i ≤ j → g j = ft j) → (pn_V g i + c0 * pn_E i = pn_V ft i * 2 ^ y) → ∀ (H : Heap) (locs : List Loc) (ls : Array Slot), lv_has ls 7 [(4, .int (nI i)), (2, .long (pn_L c0)), (0, .ref ot), (1, .int (nI y))] → va_P D pn_cl [(ot, .inr (1, [.ref qt, .int (nI nt), .int (pn_b bt)])), (qt, .inl (cI, 632, .inl g))] H → va_D A [(ot, .inr (1, [.ref qt, .int (nI nt), .int (pn_b bt)])), (qt, .inl (cI, 632, .inl g))] → va_S A s.heap H locs → W p l e ({ frames := 0, cells := 0, slots := 0, locals := 0 } : Room) s m ([.ref ot, .int (nI y)] : List Value).toArray below meth c H locs 0 0 Q (F0 m 5 ls []) := by
    intro N
    induction N with
    | zero => intro i g c0 hM; exact absurd hM (Nat.not_lt_zero _)
    | succ N ih5 =>
      intro i g c0 hM5 hi hc hg hV H locs ls hl hP hD hS
      refine lv_iload hx hb d_R_shiftUp_5 (lv_at hl 0 rfl) ?_
      refine lv_aload_n hx hb d_R_shiftUp_7 rfl (lv_at hl 2 rfl) ?_
      refine pw_get Fx hK hP fld_R 0 rfl 1 (by decide) kw_93 (v := .int (nI nt)) rfl d_R_shiftUp_8 ?_
      refine pw_icmp_ge (a := i) (b := nt) (tgt := 54) hx hb d_R_shiftUp_11 (by decide) (by omega) (by omega) (fun h_11 => ?_) (fun h_11 => ?_)
      · skip
        obtain rfl : nt = i := by omega
        refine lv_aload_n hx hb d_R_shiftUp_54 rfl (lv_at hl 2 rfl) ?_
        refine pw_get Fx hK hP fld_R 0 rfl 0 (by decide) kw_89 (v := .ref qt) rfl d_R_shiftUp_55 ?_
        refine lv_aload_n hx hb d_R_shiftUp_58 rfl (lv_at hl 2 rfl) ?_
        refine pw_get Fx hK hP fld_R 0 rfl 1 (by decide) kw_93 (v := .int (nI nt)) rfl d_R_shiftUp_59 ?_
        refine lv_lload_n hx hb d_R_shiftUp_62 rfl (lv_at hl 1 rfl) ?_
        refine pw_l2i hx hb d_R_shiftUp_63 ?_
        refine pw_iast Fx hK hP hD hS 1 0 (f := g) rfl rfl (k := nt) (by omega) (by decide) (w' := [(ot, .inr (1, [.ref qt, .int (nI nt), .int (pn_b bt)])), (qt, .inl (cI, 632, .inl (upd g nt (pn_I c0))))]) rfl d_R_shiftUp_64 (fun H locs hP hD hS => ?_)
        exact pn_retv (upd g nt (pn_I c0)) Fx hr hlocks hQ hAe hP hD hS (by (try dsimp only); first | done | exact (⟨by rw [pn_V_upS, pn_u_Ilt hc.1 (by omega)]; exact hV, by rw [pk_us, pn_u_Ilt hc.1 (by omega)]; exact hc.2⟩)) d_R_shiftUp_65
      · skip
        refine lv_aload_n hx hb d_R_shiftUp_14 rfl (lv_at hl 2 rfl) ?_
        refine pw_get Fx hK hP fld_R 0 rfl 0 (by decide) kw_89 (v := .ref qt) rfl d_R_shiftUp_15 ?_
        refine lv_iload hx hb d_R_shiftUp_18 (lv_at hl 0 rfl) ?_
        refine pw_iald Fx hK hP 1 0 (f := g) rfl rfl (k := i) (by omega) (by decide) d_R_shiftUp_20 ?_
        refine pw_i2l hx hb d_R_shiftUp_21 ?_
        refine lv_ldc2 hx hb Fx.2.2.2.1 (Fx.2.2.2.2 _ kw_365) d_R_shiftUp_22 ?_
        refine pw_limb hx hb d_R_shiftUp_25 ?_
        refine lv_iload_n hx hb d_R_shiftUp_26 rfl (lv_at hl 3 rfl) ?_
        refine pw_lshl hx hb d_R_shiftUp_27 y (by omega) ?_
        refine lv_lload_n hx hb d_R_shiftUp_28 rfl (lv_at hl 1 rfl) ?_
        have u1 := pn_u_lt (g i)
        have u2 := pn_u_nonneg (g i)
        have uc := pn_up_carry u2 u1 hc.1 hc.2 hPb.2
        obtain ⟨t, ht⟩ : ∃ t, t = pn_u (g i) * 2 ^ y + c0 := ⟨_, rfl⟩
        refine pw_lorS hx hb d_R_shiftUp_29 (by omega) u2 uc.2.2.2.2 hc.1 hc.2 ?_
        refine pn_topl (pn_L t) (by rw [ht]) ?_
        refine lv_lstore (lv' := [(5, .long (pn_L t)), (4, .int (nI i)), (2, .long (pn_L c0)), (0, .ref ot), (1, .int (nI y))]) hx hb d_R_shiftUp_30 hl (by decide) rfl (fun ls hl => ?_)
        refine lv_aload_n hx hb d_R_shiftUp_32 rfl (lv_at hl 3 rfl) ?_
        refine pw_get Fx hK hP fld_R 0 rfl 0 (by decide) kw_89 (v := .ref qt) rfl d_R_shiftUp_33 ?_
        refine lv_iload hx hb d_R_shiftUp_36 (lv_at hl 1 rfl) ?_
        refine lv_lload hx hb d_R_shiftUp_38 (lv_at hl 0 rfl) ?_
        refine pw_l2i hx hb d_R_shiftUp_40 ?_
        refine pw_iast Fx hK hP hD hS 1 0 (f := g) rfl rfl (k := i) (by omega) (by decide) (w' := [(ot, .inr (1, [.ref qt, .int (nI nt), .int (pn_b bt)])), (qt, .inl (cI, 632, .inl (upd g i (pn_I t))))]) rfl d_R_shiftUp_41 (fun H locs hP hD hS => ?_)
        refine lv_lload hx hb d_R_shiftUp_42 (lv_at hl 0 rfl) ?_
        refine lv_bipush (v := 32) hx hb d_R_shiftUp_44 (by decide) ?_
        refine pw_lushr32 hx hb d_R_shiftUp_46 (by rw [ht]; exact uc.1) (by rw [ht]; have := uc.2.1; omega) ?_
        refine lv_lstore_n (lv' := [(2, .long (pn_L (t / 4294967296))), (5, .long (pn_L t)), (4, .int (nI i)), (0, .ref ot), (1, .int (nI y))]) hx hb d_R_shiftUp_47 rfl hl (by decide) rfl (fun ls hl => ?_)
        refine lv_iinc (v := nI (i + 1)) (lv' := [(4, .int (nI (i + 1))), (2, .long (pn_L (t / 4294967296))), (5, .long (pn_L t)), (0, .ref ot), (1, .int (nI y))]) hx hb d_R_shiftUp_48 hl (k := 2) rfl (nI_add _ 1) (by decide) rfl (fun ls hl => ?_)
        refine lv_goto (tgt := 5) hx hb d_R_shiftUp_51 (by decide) ?_
        exact ih5 (i + 1) _ (t / 4294967296) (by omega) (by omega) (by rw [ht]; exact ⟨uc.2.2.1, uc.2.2.2.1⟩) (fun j h => by rw [pk_un (by omega)]; exact hg j (by omega)) (by rw [pn_put hV, pn_V_s, ht, hg i (Nat.le_refl i)]; grind) _ _ _ (lv_sub hl [0, 1, 3, 4] rfl) hP hD hS
  exact loop5 _ 0 ft 0 (Nat.lt_succ_self _) (Nat.zero_le _) (⟨by decide, by omega⟩) (fun j _ => rfl) (by simp [pn_V_0]) _ _ _ hl hP hD hS

set_option maxHeartbeats 4000000 in
set_option maxRecDepth 100000 in
theorem c_R_shiftDown (l : Launch) (D : va_G) (cI cZ cB cJ : ClassId) (sz : Nat) (ot qt : Nat) (ft : Nat → Int32) (nt : Nat) (bt : Bool) (y : Nat) (hnt : nt ≤ 632) (hy : y ≤ 31) : pn_Cv l D (pn_ty cI cZ cB cJ) y_R_shiftDown w_R_shiftDown ({ frames := 1, cells := 0, slots := 0, locals := 40 } : Room) [.ref ot, .int (nI y)] [(ot, .inr (1, [.ref qt, .int (nI nt), .int (pn_b bt)])), (qt, .inl (cI, 632, .inl ft))] sz (S := (Nat → Int32) × Nat) (fun u => u.2 ≤ nt ∧ pn_V u.1 u.2 = pn_V ft nt / 2 ^ y ∧ pn_nz u.1 u.2) (fun u => [(ot, .inr (1, [.ref qt, .int (nI u.2), .int (pn_b false)])), (qt, .inl (cI, 632, .inl u.1))]) := by
  refine pn_start (by decide) (Nat.le_of_ble_eq_true rfl) ?_
  intro p e s m below meth c A Q ls hQ hAe Fx hr hlocks hN hK hP hD hS hA hl
  have hx := Fx.1
  have hb := Fx.2.1
  have hl : lv_has ls 7 [(0, .ref ot), (1, .int (nI y))] := hl
  have hPb := pn_pow_bd hy
  have hPp : (0 : Int) < 2 ^ y := by omega
  have hdv := pn_two_dvd (y := y) (by omega)
  refine lv_lconst (v := pn_L 0) hx hb d_R_shiftDown_0 (by decide) ?_
  refine lv_lstore_n (lv' := [(2, .long (pn_L 0)), (0, .ref ot), (1, .int (nI y))]) hx hb d_R_shiftDown_1 rfl hl (by decide) rfl (fun ls hl => ?_)
  refine lv_aload_n hx hb d_R_shiftDown_2 rfl (lv_at hl 1 rfl) ?_
  refine pw_get Fx hK hP fld_R 0 rfl 1 (by decide) kw_93 (v := .int (nI nt)) rfl d_R_shiftDown_3 ?_
  refine lv_iconst (v := nI 1) hx hb d_R_shiftDown_6 (by decide) ?_
  refine lv_isub hx hb d_R_shiftDown_7 ?_
  refine pn_topi (pn_I ((nt : Int) - 1)) (pn_dec _) ?_
  refine lv_istore (lv' := [(4, .int (pn_I ((nt : Int) - 1))), (2, .long (pn_L 0)), (0, .ref ot), (1, .int (nI y))]) hx hb d_R_shiftDown_8 hl (by decide) rfl (fun ls hl => ?_)
  have loop10 : ∀ (N : Nat) (k : Nat) (g : Nat → Int32) (ab : Int), k < N → (k ≤ nt) → (∀ i, i < k → g i = ft i) → (0 ≤ ab) → (ab < 4294967296) → ((pn_V g nt - pn_V ft k) * 2 ^ y + ab % 2 ^ y * pn_E k = pn_V ft nt - pn_V ft k) → ∀ (H : Heap) (locs : List Loc) (ls : Array Slot), lv_has ls 7 [(4, .int (pn_I ((k : Int) - 1))), (2, .long (pn_L ab)), (0, .ref ot), (1, .int (nI y))] → va_P D pn_cl [(ot, .inr (1, [.ref qt, .int (nI nt), .int (pn_b bt)])), (qt, .inl (cI, 632, .inl g))] H → va_D A [(ot, .inr (1, [.ref qt, .int (nI nt), .int (pn_b bt)])), (qt, .inl (cI, 632, .inl g))] → va_S A s.heap H locs → W p l e ({ frames := 1, cells := 0, slots := 0, locals := 40 } : Room) s m ([.ref ot, .int (nI y)] : List Value).toArray below meth c H locs 0 0 Q (F0 m 10 ls []) := by
    intro N
    induction N with
    | zero => intro k g ab hM; exact absurd hM (Nat.not_lt_zero _)
    | succ N ih10 =>
      intro k g ab hM10 hk hlow ha0 ha1 hV H locs ls hl hP hD hS
      refine lv_iload hx hb d_R_shiftDown_10 (lv_at hl 0 rfl) ?_
      refine lv_if_lt (tgt := 55) hx hb d_R_shiftDown_12 (by decide) (fun h_12 => ?_) (fun h_12 => ?_)
      · skip
        have hk0 := pn_dec_0 (by omega) h_12
        subst hk0
        refine lv_aload_n hx hb d_R_shiftDown_55 rfl (lv_at hl 2 rfl) ?_
        refine lv_aload_n hx hb d_R_shiftDown_56 rfl (lv_at hl 2 rfl) ?_
        refine pw_get Fx hK hP fld_R 0 rfl 1 (by decide) kw_93 (v := .int (nI nt)) rfl d_R_shiftDown_57 ?_
        refine pn_bv (wr := []) [0, 1] [] hP hD hS hA (pn_rV [.int (nI nt)] [] Fx hK hN hP hD [0, 1] rfl rfl (c_R_fit l D cI cZ cB cJ _ ot qt g nt nt bt (by omega)) kw_226 cal_R_fit inst_R_fit sel_R_fit ⟨by decide, by decide⟩ ⟨rfl, rfl⟩ 0 rfl rfl rfl rfl hl.1 (Nat.le_of_ble_eq_true rfl) d_R_shiftDown_60 ⟨Nat.zero_le _, Nat.zero_le _⟩) rfl rfl rfl (by decide) (fun u_60 H locs hw hP hD hS => ?_)
        obtain ⟨hj, hVj, hzj⟩ := hw
        have hP : va_P D pn_cl [(ot, .inr (1, [.ref qt, .int (nI u_60), .int (pn_b false)])), (qt, .inl (cI, 632, .inl g))] H := hP
        have hD : va_D A [(ot, .inr (1, [.ref qt, .int (nI u_60), .int (pn_b false)])), (qt, .inl (cI, 632, .inl g))] := hD
        exact pn_retv ((g, u_60)) Fx hr hlocks hQ hAe hP hD hS (by (try dsimp only); first | done | exact (⟨hj, (pn_shrink_end hPp (Int.emod_nonneg _ (by omega)) (Int.emod_lt_of_pos _ hPp) hV hVj).2, hzj⟩)) d_R_shiftDown_63
      · skip
        obtain ⟨j, rfl⟩ := pn_dec_s h_12
        rw [pn_dec_n] at hl
        refine lv_aload_n hx hb d_R_shiftDown_15 rfl (lv_at hl 2 rfl) ?_
        refine pw_get Fx hK hP fld_R 0 rfl 0 (by decide) kw_89 (v := .ref qt) rfl d_R_shiftDown_16 ?_
        refine lv_iload hx hb d_R_shiftDown_19 (lv_at hl 0 rfl) ?_
        refine pw_iald Fx hK hP 1 0 (f := g) rfl rfl (k := j) (by omega) (by decide) d_R_shiftDown_21 ?_
        refine pw_i2l hx hb d_R_shiftDown_22 ?_
        refine lv_ldc2 hx hb Fx.2.2.2.1 (Fx.2.2.2.2 _ kw_365) d_R_shiftDown_23 ?_
        refine pw_limb hx hb d_R_shiftDown_26 ?_
        have u1 := pn_u_lt (g j)
        have u2 := pn_u_nonneg (g j)
        have dq := pn_down_q (ab := ab) (x := pn_u (g j)) hPp hdv ha0 u2 u1
        refine lv_lstore (lv' := [(5, .long (pn_L (pn_u (g j)))), (4, .int (nI j)), (2, .long (pn_L ab)), (0, .ref ot), (1, .int (nI y))]) hx hb d_R_shiftDown_27 hl (by decide) rfl (fun ls hl => ?_)
        refine lv_aload_n hx hb d_R_shiftDown_29 rfl (lv_at hl 3 rfl) ?_
        refine pw_get Fx hK hP fld_R 0 rfl 0 (by decide) kw_89 (v := .ref qt) rfl d_R_shiftDown_30 ?_
        refine lv_iload hx hb d_R_shiftDown_33 (lv_at hl 1 rfl) ?_
        refine lv_lload_n hx hb d_R_shiftDown_35 rfl (lv_at hl 2 rfl) ?_
        refine lv_bipush (v := 32) hx hb d_R_shiftDown_36 (by decide) ?_
        refine pw_lshl32 hx hb d_R_shiftDown_38 ?_
        refine lv_lload hx hb d_R_shiftDown_39 (lv_at hl 0 rfl) ?_
        refine pw_lor hx hb d_R_shiftDown_41 ha0 ha1 u2 u1 ?_
        refine lv_iload_n hx hb d_R_shiftDown_42 rfl (lv_at hl 4 rfl) ?_
        refine pw_lushr hx hb d_R_shiftDown_43 (by omega) (by omega) y (by omega) ?_
        refine pw_l2i hx hb d_R_shiftDown_44 ?_
        refine pw_iast Fx hK hP hD hS 1 0 (f := g) rfl rfl (k := j) (by omega) (by decide) (w' := [(ot, .inr (1, [.ref qt, .int (nI nt), .int (pn_b bt)])), (qt, .inl (cI, 632, .inl (upd g j (pn_I ((ab * 4294967296 + pn_u (g j)) / 2 ^ y)))))]) rfl d_R_shiftDown_45 (fun H locs hP hD hS => ?_)
        refine lv_lload hx hb d_R_shiftDown_46 (lv_at hl 0 rfl) ?_
        refine lv_lstore_n (lv' := [(2, .long (pn_L (pn_u (g j)))), (5, .long (pn_L (pn_u (g j)))), (4, .int (nI j)), (0, .ref ot), (1, .int (nI y))]) hx hb d_R_shiftDown_48 rfl hl (by decide) rfl (fun ls hl => ?_)
        refine lv_iinc (v := pn_I ((j : Int) - 1)) (lv' := [(4, .int (pn_I ((j : Int) - 1))), (2, .long (pn_L (pn_u (g j)))), (5, .long (pn_L (pn_u (g j)))), (0, .ref ot), (1, .int (nI y))]) hx hb d_R_shiftDown_49 hl (k := 2) rfl (pn_dec' _) (by decide) rfl (fun ls hl => ?_)
        refine lv_goto (tgt := 10) hx hb d_R_shiftDown_52 (by decide) ?_
        exact ih10 j _ (pn_u (g j)) (by omega) (by omega) (fun i hi => by rw [pk_un (by omega)]; exact hlow i (by omega)) u2 u1 (by rw [dq.1]; exact pn_shrink (by omega) (fun i hi => hlow i (by omega)) hV dq.2.2.1 dq.2.2.2 (by rw [← hlow j (by omega)]; exact dq.2.1)) _ _ _ (lv_sub hl [0, 1, 3, 4] rfl) hP hD hS
  exact loop10 _ nt ft 0 (Nat.lt_succ_self _) (Nat.le_refl _) (fun i _ => rfl) (by decide) (by decide) (by rw [Int.zero_emod]; omega) _ _ _ hl hP hD hS
