theorem pn_i2b {v : Nat} (h : v < 128) : (nI v).toInt8.toInt32 = nI v := by
  have : ∀ j : Fin 128, (nI j.val).toInt8.toInt32 = nI j.val := by decide +kernel
  exact this ⟨v, h⟩
section PnB
variable {p : Program} {l : Launch} {e : Env} {R : Room} {s : State} {m : MethodId} {args : Array Value} {below : List Frame} {meth : Method} {c : Code} {H : Heap} {locs : List Loc} {cells slots : Nat} {Q : State → Prop}
variable {cc : ByteArray} {pc nL : Nat} {ls : Array Slot} {rest : List Value} {own : String} {a : Nat} {D : va_G} {tys : List (ClassId × FieldType)} {w w' : va_W} {A : Nat → Prop} {H0 : Heap}
theorem pw_bastN (Fx : CallFix p m c cc nL s args pn_all own) (hK : va_K D pn_cl tys s) (hP : va_P D pn_cl w H) (hD : va_D A w) (hS : va_S A H0 H locs) (q0 t0 : Nat) {cA : ClassId} {n : Nat} {g : Nat → Nat} (ha : w[q0]? = some (a, .inl (cA, n, .inl (fun i => nI (g i))))) (ht : tys[t0]? = some (cA, .byte)) {k v : Nat} (hk : k < n) (hn : n < 2 ^ 31) (hv : v < 128) (hw : w.set q0 (a, .inl (cA, n, .inl (fun i => nI (pn_up g k v i)))) = w') (hdg : decode cc pc = .ok (.bastore, 1))
    (kk : ∀ (H1 : Heap) (locs1 : List Loc), va_P D pn_cl w' H1 → va_D A w' → va_S A H0 H1 locs1 → W p l e R s m args below meth c H1 locs1 cells slots Q (F0 m (pc + 1) ls rest)) : W p l e R s m args below meth c H locs cells slots Q (F0 m pc ls (.int (nI v) :: .int (nI k) :: .ref a :: rest)) :=
  pw_bast Fx hK hP hD hS q0 t0 ha ht hk hn (by rw [vp_nar_byte, pn_i2b hv, pn_upd_nI]; exact hw) hdg kk
end PnB
theorem pn_dd (v a b : Nat) : v / 10 ^ a / 10 ^ b = v / 10 ^ (a + b) := by rw [Nat.div_div_eq_div_mul, Nat.pow_add]
theorem pn_d1 (v i : Nat) : v / 10 ^ i / 10 = v / 10 ^ (i + 1) := by rw [Nat.div_div_eq_div_mul, Nat.pow_succ]
theorem pn_lt10 {v i : Nat} (h : v / 10 ^ i = 0) : v < 10 ^ i := by
  rcases Nat.lt_or_ge v (10 ^ i) with z | z
  · exact z
  · have := Nat.div_pos z (Nat.pow_pos (by decide)); omega
theorem pn_ge10 {v i : Nat} (h : 0 < v / 10 ^ i) : 10 ^ i ≤ v := by
  rcases Nat.lt_or_ge v (10 ^ i) with z | z
  · rw [Nat.div_eq_of_lt z] at h; omega
  · exact z
/-- a chunk's digit is the number's -/
theorem pn_chunk_dig {w j : Nat} (hj : j < 9) : w % 1000000000 / 10 ^ j % 10 = w / 10 ^ j % 10 := by
  have e : (1000000000 : Nat) = 10 ^ j * 10 ^ (9 - j) := by rw [← Nat.pow_add, show j + (9 - j) = 9 by omega]
  have e2 : 10 ^ (9 - j) = 10 * 10 ^ (8 - j) := by rw [← Nat.pow_succ', Nat.succ_eq_add_one, show 8 - j + 1 = 9 - j by omega]
  rw [e, Nat.mod_mul_right_div_self, e2, Nat.mod_mul_right_mod]

set_option maxHeartbeats 4000000 in
set_option maxRecDepth 100000 in
theorem c_T_putBefore (l : Launch) (D : va_G) (cI cZ cB cJ : ClassId) (sz : Nat) (oT qT : Nat) (tc : Nat → Nat) (s0 : Nat) (ch : Nat) (hch : ch < 128) (hs0 : 0 < s0) (hs1 : s0 ≤ 6031) : pn_Cv l D (pn_ty cI cZ cB cJ) y_T_putBefore w_T_putBefore ({ frames := 0, cells := 0, slots := 0, locals := 0 } : Room) [.ref oT, .int (nI ch)] [(oT, .inr (3, [.ref qT, .int (nI s0)])), (qT, .inl (cB, 6031, .inl (fun z9 => nI (tc z9))))] sz (S := Unit) (fun _ => True) (fun _ => [(oT, .inr (3, [.ref qT, .int (nI (s0 - 1))])), (qT, .inl (cB, 6031, .inl (fun z9 => nI ((pn_up tc (s0 - 1) ch) z9))))]) := by
  refine pn_start (by decide) (Nat.le_of_ble_eq_true rfl) ?_
  intro p e s m below meth c A Q ls hQ hAe Fx hr hlocks hN hK hP hD hS hA hl
  have hx := Fx.1
  have hb := Fx.2.1
  have hl : lv_has ls 2 [(0, .ref oT), (1, .int (nI ch))] := hl
  refine lv_aload_n hx hb d_T_putBefore_0 rfl (lv_at hl 0 rfl) ?_
  refine pw_get Fx hK hP fld_T 0 rfl 1 (by decide) kw_76 (v := .int (nI s0)) rfl d_T_putBefore_1 ?_
  refine pw_if_le (a := s0) (tgt := 28) hx hb d_T_putBefore_4 (by decide) (by omega) (fun h_4 => ?_) (fun h_4 => ?_)
  · skip
    exact absurd h_4 (by omega)
  · skip
    refine lv_aload_n hx hb d_T_putBefore_7 rfl (lv_at hl 0 rfl) ?_
    refine lv_dup hx hb d_T_putBefore_8 rfl ?_
    refine pw_get Fx hK hP fld_T 0 rfl 1 (by decide) kw_76 (v := .int (nI s0)) rfl d_T_putBefore_9 ?_
    refine lv_iconst (v := nI 1) hx hb d_T_putBefore_12 (by decide) ?_
    refine pw_isub hx hb d_T_putBefore_13 (by omega) ?_
    refine pw_put Fx hK hP hD hS fld_T 0 rfl 1 (by decide) kw_76 rfl rfl rfl (Nat.le_of_ble_eq_true rfl) (w' := [(oT, .inr (3, [.ref qT, .int (nI (s0 - 1))])), (qT, .inl (cB, 6031, .inl (fun z9 => nI (tc z9))))]) rfl d_T_putBefore_14 (fun H locs hP hD hS => ?_)
    refine lv_aload_n hx hb d_T_putBefore_17 rfl (lv_at hl 0 rfl) ?_
    refine pw_get Fx hK hP fld_T 0 rfl 0 (by decide) kw_75 (v := .ref qT) rfl d_T_putBefore_18 ?_
    refine lv_aload_n hx hb d_T_putBefore_21 rfl (lv_at hl 0 rfl) ?_
    refine pw_get Fx hK hP fld_T 0 rfl 1 (by decide) kw_76 (v := .int (nI (s0 - 1))) rfl d_T_putBefore_22 ?_
    refine lv_iload_n hx hb d_T_putBefore_25 rfl (lv_at hl 1 rfl) ?_
    refine lv_i2b (v := nI ch) hx hb d_T_putBefore_26 (pn_i2b (by omega)) ?_
    refine pw_bastN Fx hK hP hD hS 1 2 (g := tc) rfl rfl (k := s0 - 1) (by omega) (by decide) (by omega) (w' := [(oT, .inr (3, [.ref qT, .int (nI (s0 - 1))])), (qT, .inl (cB, 6031, .inl (fun z9 => nI ((pn_up tc (s0 - 1) ch) z9))))]) rfl d_T_putBefore_27 (fun H locs hP hD hS => ?_)
    exact pn_retv (()) Fx hr hlocks hQ hAe hP hD hS (by (try dsimp only); first | done | exact (trivial)) d_T_putBefore_28

set_option maxHeartbeats 4000000 in
set_option maxRecDepth 100000 in
theorem c_T_writeChunk (l : Launch) (D : va_G) (cI cZ cB cJ : ClassId) (sz : Nat) (oT qT : Nat) (tc : Nat → Nat) (s0 : Nat) (v : Nat) (b : Bool) (hv : v < 1000000000) (hs9 : 9 ≤ s0) (hs1 : s0 ≤ 6031) : pn_Cv l D (pn_ty cI cZ cB cJ) y_T_writeChunk w_T_writeChunk ({ frames := 1, cells := 0, slots := 0, locals := 40 } : Room) [.ref oT, .int (nI v), .int (pn_b b)] [(oT, .inr (3, [.ref qT, .int (nI s0)])), (qT, .inl (cB, 6031, .inl (fun z9 => nI (tc z9))))] sz (S := (Nat → Nat) × Nat) (fun u => u.2 ≤ 9 ∧ (b = true → u.2 = 9) ∧ (b = false → v < 10 ^ u.2 ∧ (u.2 = 0 ∨ 10 ^ (u.2 - 1) ≤ v)) ∧ (∀ x, s0 - u.2 ≤ x → x < s0 → u.1 x = 48 + v / 10 ^ (s0 - 1 - x) % 10) ∧ (∀ x, s0 ≤ x → u.1 x = tc x)) (fun u => [(oT, .inr (3, [.ref qT, .int (nI (s0 - u.2))])), (qT, .inl (cB, 6031, .inl (fun z9 => nI (u.1 z9))))]) := by
  refine pn_start (by decide) (Nat.le_of_ble_eq_true rfl) ?_
  intro p e s m below meth c A Q ls hQ hAe Fx hr hlocks hN hK hP hD hS hA hl
  have hx := Fx.1
  have hb := Fx.2.1
  have hl : lv_has ls 5 [(0, .ref oT), (1, .int (nI v)), (2, .int (pn_b b))] := hl
  refine lv_iload_n hx hb d_T_writeChunk_0 rfl (lv_at hl 1 rfl) ?_
  refine lv_istore_n (lv' := [(3, .int (nI v)), (0, .ref oT), (1, .int (nI v)), (2, .int (pn_b b))]) hx hb d_T_writeChunk_1 rfl hl (by decide) rfl (fun ls hl => ?_)
  refine lv_iconst (v := nI 0) hx hb d_T_writeChunk_2 (by decide) ?_
  refine lv_istore (lv' := [(4, .int (nI 0)), (3, .int (nI v)), (0, .ref oT), (1, .int (nI v)), (2, .int (pn_b b))]) hx hb d_T_writeChunk_3 hl (by decide) rfl (fun ls hl => ?_)
  have loop5 : ∀ (N : Nat) (i : Nat) (lf : Nat) (t1 : Nat → Nat), 9 - i < N → (i ≤ 9) → (lf = v / 10 ^ i) → (lf < 1000000000) → (b = false → i = 0 ∨ 0 < v / 10 ^ (i - 1)) → (∀ x, s0 - i ≤ x → x < s0 → t1 x = 48 + v / 10 ^ (s0 - 1 - x) % 10) → (∀ x, s0 ≤ x → t1 x = tc x) → ∀ (H : Heap) (locs : List Loc) (ls : Array Slot), lv_has ls 5 [(4, .int (nI i)), (3, .int (nI lf)), (0, .ref oT), (1, .int (nI v)), (2, .int (pn_b b))] → va_P D pn_cl [(oT, .inr (3, [.ref qT, .int (nI (s0 - i))])), (qT, .inl (cB, 6031, .inl (fun z9 => nI (t1 z9))))] H → va_D A [(oT, .inr (3, [.ref qT, .int (nI (s0 - i))])), (qT, .inl (cB, 6031, .inl (fun z9 => nI (t1 z9))))] → va_S A s.heap H locs → W p l e ({ frames := 1, cells := 0, slots := 0, locals := 40 } : Room) s m ([.ref oT, .int (nI v), .int (pn_b b)] : List Value).toArray below meth c H locs 0 0 Q (F0 m 5 ls []) := by
    intro N
    induction N with
    | zero => intro i lf t1 hM; exact absurd hM (Nat.not_lt_zero _)
    | succ N ih5 =>
      intro i lf t1 hM5 hi hlf hlb hp hd1 hd2 H locs ls hl hP hD hS
      refine lv_iload hx hb d_T_writeChunk_5 (lv_at hl 0 rfl) ?_
      refine lv_bipush (v := nI 9) hx hb d_T_writeChunk_7 (by decide) ?_
      refine pw_icmp_ge (a := i) (b := 9) (tgt := 42) hx hb d_T_writeChunk_9 (by decide) (by omega) (by omega) (fun h_9 => ?_) (fun h_9 => ?_)
      · skip
        have hfin : (b = true → i = 9) ∧ (b = false → v < 10 ^ i ∧ (i = 0 ∨ 10 ^ (i - 1) ≤ v)) := ⟨fun _ => by omega, fun hb9 => ⟨by rw [show i = 9 by omega]; exact hv, (hp hb9).imp id pn_ge10⟩⟩
        exact pn_retv ((t1, i)) Fx hr hlocks hQ hAe hP hD hS (by (try dsimp only); first | done | exact (⟨hi, hfin.1, hfin.2, hd1, hd2⟩)) d_T_writeChunk_42
      · skip
        refine lv_iload_n hx hb d_T_writeChunk_12 rfl (lv_at hl 4 rfl) ?_
        refine pw_ifb_ne (tgt := 20) hx hb d_T_writeChunk_13 (by decide) (fun h_13 => ?_) (fun h_13 => ?_)
        · skip
          have hpos : b = false → 0 < lf := fun hb9 => absurd hb9 (by rw [h_13]; decide)
          refine lv_aload_n hx hb d_T_writeChunk_20 rfl (lv_at hl 2 rfl) ?_
          refine lv_bipush (v := nI 48) hx hb d_T_writeChunk_21 (by decide) ?_
          refine lv_iload_n hx hb d_T_writeChunk_23 rfl (lv_at hl 1 rfl) ?_
          refine lv_bipush (v := nI 10) hx hb d_T_writeChunk_24 (by decide) ?_
          refine lv_irem hx hb d_T_writeChunk_26 (by decide) ?_
          refine pn_topi (nI (lf % 10)) (pk_rem (by omega) (by decide) (by decide)) ?_
          refine pw_iadd hx hb d_T_writeChunk_27 ?_
          refine pn_bv (wr := []) [0, 1] [] hP hD hS hA (pn_rV [.int (nI (48 + (lf % 10)))] [] Fx hK hN hP hD [0, 1] rfl rfl (c_T_putBefore l D cI cZ cB cJ _ oT qT t1 (s0 - i) (48 + lf % 10) (by omega) (by omega) (by omega)) kw_613 cal_T_putBefore inst_T_putBefore sel_T_putBefore ⟨by decide, by decide⟩ ⟨rfl, rfl⟩ 0 rfl rfl rfl rfl hl.1 (Nat.le_of_ble_eq_true rfl) d_T_writeChunk_28 ⟨Nat.zero_le _, Nat.zero_le _⟩) rfl rfl rfl (by decide) (fun u_28 H locs hw hP hD hS => ?_)
          obtain ⟨⟩ := u_28
          have hP : va_P D pn_cl [(oT, .inr (3, [.ref qT, .int (nI (s0 - i - 1))])), (qT, .inl (cB, 6031, .inl (fun z9 => nI ((pn_up t1 (s0 - i - 1) (48 + lf % 10)) z9))))] H := hP
          have hD : va_D A [(oT, .inr (3, [.ref qT, .int (nI (s0 - i - 1))])), (qT, .inl (cB, 6031, .inl (fun z9 => nI ((pn_up t1 (s0 - i - 1) (48 + lf % 10)) z9))))] := hD
          refine lv_iload_n hx hb d_T_writeChunk_31 rfl (lv_at hl 1 rfl) ?_
          refine lv_bipush (v := nI 10) hx hb d_T_writeChunk_32 (by decide) ?_
          refine lv_idiv hx hb d_T_writeChunk_34 (by decide) ?_
          refine pn_topi (nI (lf / 10)) (pk_div (by omega) (by decide) (by decide)) ?_
          refine lv_istore_n (lv' := [(3, .int (nI (lf / 10))), (4, .int (nI i)), (0, .ref oT), (1, .int (nI v)), (2, .int (pn_b b))]) hx hb d_T_writeChunk_35 rfl hl (by decide) rfl (fun ls hl => ?_)
          refine lv_iinc (v := nI (i + 1)) (lv' := [(4, .int (nI (i + 1))), (3, .int (nI (lf / 10))), (0, .ref oT), (1, .int (nI v)), (2, .int (pn_b b))]) hx hb d_T_writeChunk_36 hl (k := 1) rfl (nI_add _ 1) (by decide) rfl (fun ls hl => ?_)
          refine lv_goto (tgt := 5) hx hb d_T_writeChunk_39 (by decide) ?_
          exact ih5 (i + 1) (lf / 10) _ (by omega) (by omega) (by rw [hlf, pn_d1]) (by omega) (fun hb9 => Or.inr (by show 0 < v / 10 ^ i; rw [← hlf]; exact hpos hb9)) (fun x h1 h2 => by rcases (show x = s0 - i - 1 ∨ s0 - i ≤ x by omega) with z | z; (· rw [z, pn_up_s, hlf]; congr 4; omega); (· rw [pn_up_n (by omega)]; exact hd1 x z h2)) (fun x h => by rw [pn_up_n (by omega)]; exact hd2 x h) _ _ _ hl hP hD hS
        · skip
          refine lv_iload_n hx hb d_T_writeChunk_16 rfl (lv_at hl 1 rfl) ?_
          refine pw_if_le (a := lf) (tgt := 42) hx hb d_T_writeChunk_17 (by decide) (by omega) (fun h_17 => ?_) (fun h_17 => ?_)
          · skip
            have hfin : (b = true → i = 9) ∧ (b = false → v < 10 ^ i ∧ (i = 0 ∨ 10 ^ (i - 1) ≤ v)) := ⟨fun hb9 => absurd hb9 (by rw [h_13]; decide), fun hb9 => ⟨pn_lt10 (by rw [← hlf]; exact h_17), (hp hb9).imp id pn_ge10⟩⟩
            exact pn_retv ((t1, i)) Fx hr hlocks hQ hAe hP hD hS (by (try dsimp only); first | done | exact (⟨hi, hfin.1, hfin.2, hd1, hd2⟩)) d_T_writeChunk_42
          · skip
            have hpos : b = false → 0 < lf := fun _ => h_17
            refine lv_aload_n hx hb d_T_writeChunk_20 rfl (lv_at hl 2 rfl) ?_
            refine lv_bipush (v := nI 48) hx hb d_T_writeChunk_21 (by decide) ?_
            refine lv_iload_n hx hb d_T_writeChunk_23 rfl (lv_at hl 1 rfl) ?_
            refine lv_bipush (v := nI 10) hx hb d_T_writeChunk_24 (by decide) ?_
            refine lv_irem hx hb d_T_writeChunk_26 (by decide) ?_
            refine pn_topi (nI (lf % 10)) (pk_rem (by omega) (by decide) (by decide)) ?_
            refine pw_iadd hx hb d_T_writeChunk_27 ?_
            refine pn_bv (wr := []) [0, 1] [] hP hD hS hA (pn_rV [.int (nI (48 + (lf % 10)))] [] Fx hK hN hP hD [0, 1] rfl rfl (c_T_putBefore l D cI cZ cB cJ _ oT qT t1 (s0 - i) (48 + lf % 10) (by omega) (by omega) (by omega)) kw_613 cal_T_putBefore inst_T_putBefore sel_T_putBefore ⟨by decide, by decide⟩ ⟨rfl, rfl⟩ 0 rfl rfl rfl rfl hl.1 (Nat.le_of_ble_eq_true rfl) d_T_writeChunk_28 ⟨Nat.zero_le _, Nat.zero_le _⟩) rfl rfl rfl (by decide) (fun u_28 H locs hw hP hD hS => ?_)
            obtain ⟨⟩ := u_28
            have hP : va_P D pn_cl [(oT, .inr (3, [.ref qT, .int (nI (s0 - i - 1))])), (qT, .inl (cB, 6031, .inl (fun z9 => nI ((pn_up t1 (s0 - i - 1) (48 + lf % 10)) z9))))] H := hP
            have hD : va_D A [(oT, .inr (3, [.ref qT, .int (nI (s0 - i - 1))])), (qT, .inl (cB, 6031, .inl (fun z9 => nI ((pn_up t1 (s0 - i - 1) (48 + lf % 10)) z9))))] := hD
            refine lv_iload_n hx hb d_T_writeChunk_31 rfl (lv_at hl 1 rfl) ?_
            refine lv_bipush (v := nI 10) hx hb d_T_writeChunk_32 (by decide) ?_
            refine lv_idiv hx hb d_T_writeChunk_34 (by decide) ?_
            refine pn_topi (nI (lf / 10)) (pk_div (by omega) (by decide) (by decide)) ?_
            refine lv_istore_n (lv' := [(3, .int (nI (lf / 10))), (4, .int (nI i)), (0, .ref oT), (1, .int (nI v)), (2, .int (pn_b b))]) hx hb d_T_writeChunk_35 rfl hl (by decide) rfl (fun ls hl => ?_)
            refine lv_iinc (v := nI (i + 1)) (lv' := [(4, .int (nI (i + 1))), (3, .int (nI (lf / 10))), (0, .ref oT), (1, .int (nI v)), (2, .int (pn_b b))]) hx hb d_T_writeChunk_36 hl (k := 1) rfl (nI_add _ 1) (by decide) rfl (fun ls hl => ?_)
            refine lv_goto (tgt := 5) hx hb d_T_writeChunk_39 (by decide) ?_
            exact ih5 (i + 1) (lf / 10) _ (by omega) (by omega) (by rw [hlf, pn_d1]) (by omega) (fun hb9 => Or.inr (by show 0 < v / 10 ^ i; rw [← hlf]; exact hpos hb9)) (fun x h1 h2 => by rcases (show x = s0 - i - 1 ∨ s0 - i ≤ x by omega) with z | z; (· rw [z, pn_up_s, hlf]; congr 4; omega); (· rw [pn_up_n (by omega)]; exact hd1 x z h2)) (fun x h => by rw [pn_up_n (by omega)]; exact hd2 x h) _ _ _ hl hP hD hS
  exact loop5 _ 0 v tc (Nat.lt_succ_self _) (by decide) (by rw [Nat.pow_zero, Nat.div_one]) hv (fun _ => Or.inl rfl) (fun x h1 h2 => by omega) (fun x _ => rfl) _ _ _ hl hP hD hS

set_option maxHeartbeats 4000000 in
set_option maxRecDepth 100000 in
theorem c_T_at (l : Launch) (D : va_G) (cI cZ cB cJ : ClassId) (sz : Nat) (oT qT : Nat) (tc : Nat → Nat) (s0 : Nat) (x : Int32) (hs1 : s0 ≤ 6031) : pn_Ci l D (pn_ty cI cZ cB cJ) y_T_at w_T_at ({ frames := 0, cells := 0, slots := 0, locals := 0 } : Room) [.ref oT, .int x] [(oT, .inr (3, [.ref qT, .int (nI s0)])), (qT, .inl (cB, 6031, .inl (fun z9 => nI (tc z9))))] sz (S := Unit) (fun r _ => (∀ i : Nat, i < 6031 - s0 → x = nI i → r = nI (tc (s0 + i))) ∧ ((∀ i : Nat, i < 6031 - s0 → x ≠ nI i) → r = -1)) (fun _ => [(oT, .inr (3, [.ref qT, .int (nI s0)])), (qT, .inl (cB, 6031, .inl (fun z9 => nI (tc z9))))]) := by
  refine pn_start (by decide) (Nat.le_of_ble_eq_true rfl) ?_
  intro p e s m below meth c A Q ls hQ hAe Fx hr hlocks hN hK hP hD hS hA hl
  have hx := Fx.1
  have hb := Fx.2.1
  have hl : lv_has ls 2 [(0, .ref oT), (1, .int x)] := hl
  refine lv_iload_n hx hb d_T_at_0 rfl (lv_at hl 1 rfl) ?_
  refine lv_if_lt (tgt := 16) hx hb d_T_at_1 (by decide) (fun h_1 => ?_) (fun h_1 => ?_)
  · skip
    have hz : (∀ i : Nat, i < 6031 - s0 → x = nI i → (-1 : Int32) = nI (tc (s0 + i))) ∧ ((∀ i : Nat, i < 6031 - s0 → x ≠ nI i) → (-1 : Int32) = -1) := ⟨fun i hi he => absurd h_1 (by rw [he]; exact nI_pos (by omega)), fun _ => rfl⟩
    refine lv_iconst (v := (-1)) hx hb d_T_at_16 (by decide) ?_
    refine lv_goto (tgt := 31) hx hb d_T_at_17 (by decide) ?_
    exact pn_reti (()) Fx hr hlocks hQ hAe hP hD hS (by (try dsimp only); first | done | exact (hz)) d_T_at_31
  · skip
    obtain ⟨i, hi, rfl⟩ := nI_of h_1
    refine lv_iload_n hx hb d_T_at_4 rfl (lv_at hl 1 rfl) ?_
    refine lv_sipush (v := nI 6031) hx hb d_T_at_5 (by decide) ?_
    refine lv_aload_n hx hb d_T_at_8 rfl (lv_at hl 0 rfl) ?_
    refine pw_get Fx hK hP fld_T 0 rfl 1 (by decide) kw_76 (v := .int (nI s0)) rfl d_T_at_9 ?_
    refine pw_isub hx hb d_T_at_12 (by omega) ?_
    refine pw_icmp_lt (a := i) (b := 6031 - s0) (tgt := 20) hx hb d_T_at_13 (by decide) (by omega) (by omega) (fun h_13 => ?_) (fun h_13 => ?_)
    · skip
      have hz : (∀ i9 : Nat, i9 < 6031 - s0 → nI i = nI i9 → nI (tc (s0 + i)) = nI (tc (s0 + i9))) ∧ ((∀ i9 : Nat, i9 < 6031 - s0 → nI i ≠ nI i9) → nI (tc (s0 + i)) = -1) := ⟨fun i9 hi9 he => by have := (nI_eq hi (by omega)).mp he; rw [this], fun z => absurd rfl (z i h_13)⟩
      refine lv_aload_n hx hb d_T_at_20 rfl (lv_at hl 0 rfl) ?_
      refine pw_get Fx hK hP fld_T 0 rfl 0 (by decide) kw_75 (v := .ref qT) rfl d_T_at_21 ?_
      refine lv_aload_n hx hb d_T_at_24 rfl (lv_at hl 0 rfl) ?_
      refine pw_get Fx hK hP fld_T 0 rfl 1 (by decide) kw_76 (v := .int (nI s0)) rfl d_T_at_25 ?_
      refine lv_iload_n hx hb d_T_at_28 rfl (lv_at hl 1 rfl) ?_
      refine pw_iadd hx hb d_T_at_29 ?_
      refine pw_bald Fx hK hP 1 2 (f := fun z9 => nI (tc z9)) rfl rfl (k := s0 + i) (by omega) (by decide) d_T_at_30 ?_
      refine pn_topi (nI (tc (s0 + i))) rfl ?_
      exact pn_reti (()) Fx hr hlocks hQ hAe hP hD hS (by (try dsimp only); first | done | exact (hz)) d_T_at_31
    · skip
      have hz : (∀ i9 : Nat, i9 < 6031 - s0 → nI i = nI i9 → (-1 : Int32) = nI (tc (s0 + i9))) ∧ ((∀ i9 : Nat, i9 < 6031 - s0 → nI i ≠ nI i9) → (-1 : Int32) = -1) := ⟨fun i9 hi9 he => by have := (nI_eq hi (by omega)).mp he; omega, fun _ => rfl⟩
      refine lv_iconst (v := (-1)) hx hb d_T_at_16 (by decide) ?_
      refine lv_goto (tgt := 31) hx hb d_T_at_17 (by decide) ?_
      exact pn_reti (()) Fx hr hlocks hQ hAe hP hD hS (by (try dsimp only); first | done | exact (hz)) d_T_at_31
