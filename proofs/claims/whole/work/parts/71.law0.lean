/-! the law's own body: rows, the head of its loop -/
section PnLaw
variable {p : Program} {l : Launch} {e : Env} {R : Room} {s : State} {m : MethodId} {args : Array Value} {below : List Frame} {meth : Method} {c : Code} {H : Heap} {locs : List Loc} {cells slots : Nat} {Q : State → Prop}
variable {cc : ByteArray} {nL : Nat} {own : String} {A : Nat → Prop} {H0 : Heap} {pc : Nat} {ls : Array Slot} {rest : List Value}
theorem pw_sld (Fx : CallFix p m c cc nL s args pn_all own) {b L : Nat} {xs : Nat → Int32} (hX : va_X b L xs s H0) (hbl : b < H0.size) (hbA : ¬ A b) (hS : va_S A H0 H locs) {k : Nat} (hk : k < L) (hL : L < 2 ^ 31) (hdg : decode cc pc = .ok (.iaload, 1))
    (kk : W p l e R s m args below meth c H locs cells slots Q (F0 m (pc + 1) ls (.int (xs k) :: rest))) : W p l e R s m args below meth c H locs cells slots Q (F0 m pc ls (.int (nI k) :: .ref b :: rest)) :=
  va_sld Fx.1 Fx.2.1 hX hbl hbA hS (vp_in_nI hk hL) hdg (by rw [nI_clamp (by omega)]; exact kk)
theorem pw_slen (Fx : CallFix p m c cc nL s args pn_all own) {b L : Nat} {xs : Nat → Int32} (hX : va_X b L xs s H0) (hbl : b < H0.size) (hbA : ¬ A b) (hS : va_S A H0 H locs) (hdg : decode cc pc = .ok (.arraylength, 1))
    (kk : W p l e R s m args below meth c H locs cells slots Q (F0 m (pc + 1) ls (.int (nI L) :: rest))) : W p l e R s m args below meth c H locs cells slots Q (F0 m pc ls (.ref b :: rest)) :=
  va_slen Fx.1 Fx.2.1 hX hbl hbA hS hdg kk
theorem pn_L_or_s {a k : Int} (h0 : 0 ≤ k) (h1 : k < 4294967296) : pn_L (a * 4294967296) ||| pn_L k = pn_L (a * 4294967296 + k) := by
  have e1 : pn_L (a * 4294967296) = pn_L (a % 4294967296 * 4294967296) := pn_L_eqm (by omega)
  have e2 : pn_L (a * 4294967296 + k) = pn_L (a % 4294967296 * 4294967296 + k) := pn_L_eqm (by omega)
  rw [e1, e2]
  exact pn_L_or (Int.emod_nonneg _ (by decide)) (Int.emod_lt_of_pos _ (by decide)) h0 h1
theorem pw_lor_s (hexec : p.tables.exec = Jvm.exec) (hb : c.code = cc) {a k : Int} (hdg : decode cc pc = .ok (.lor, 1)) (h0 : 0 ≤ k) (h1 : k < 4294967296)
    (kk : W p l e R s m args below meth c H locs cells slots Q (F0 m (pc + 1) ls (.long (pn_L (a * 4294967296 + k)) :: rest))) : W p l e R s m args below meth c H locs cells slots Q (F0 m pc ls (.long (pn_L k) :: .long (pn_L (a * 4294967296)) :: rest)) :=
  lv_lor hexec hb hdg (by rw [pn_L_or_s h0 h1]; exact kk)
theorem lg_cmp_self (x : Int64) : lg_cmp x x = nI 0 := by
  unfold lg_cmp
  simp [nI]
theorem pn_long_lo (x y : Int32) : -9223372036854775808 ≤ x.toInt * 4294967296 + pn_u y := by
  have h1 := x.minValue_le_toInt
  have h2 : 0 ≤ pn_u y := Int.natCast_nonneg _
  have h3 : Int32.minValue.toInt = -2147483648 := by decide
  omega
theorem pn_long_hi (x y : Int32) : x.toInt * 4294967296 + pn_u y < 9223372036854775808 := by
  have h1 := x.toInt_le
  have h3 : Int32.maxValue.toInt = 2147483647 := by decide
  have h2 : pn_u y < 4294967296 := by
    have := y.toBitVec.isLt
    unfold pn_u; omega
  omega
end PnLaw
def lw_at (p : Program) (l : Launch) (e : Env) (s : State) (m : MethodId) (below : List Frame) (meth : Method) (c : Code) (Q : State → Prop) (A : Nat → Prop) (D : va_G) (cI cZ cB cJ : ClassId) (b oP oS oe oT o1 o2 o3 o4 qC qS qN qB q1 q2 q3 q4 qT oM qW qM qK qJ qG qH qP qO : Nat) (pc k cl sl : Nat) : Prop :=
  ∀ (C : Nat → Int32) (st ct : Nat → Nat) (bl : Nat → Bool) (us : Nat) (f1 : Nat → Int32) (n1 : Nat) (b1 : Bool) (f2 : Nat → Int32) (n2 : Nat) (b2 : Bool) (f3 : Nat → Int32) (n3 : Nat) (b3 : Bool) (f4 : Nat → Int32) (n4 : Nat) (b4 : Bool) (a0 b0 c0 d0 : Int) (tc : Nat → Nat) (s0 cd pl : Nat) (wk mn hv kp km : Nat → Nat) (sg : Nat → Int32) (pr : Nat → Nat) (fo : Nat → Int64) (ρ : Nat → Int), pn_reg C st ct bl us ρ → pm_regs kp km sg ρ → lw_T tc s0 pl pr → ∀ (H : Heap) (locs : List Loc) (ls : Array Slot), lv_has ls 7 [(4, .int (nI k)), (3, .ref qO), (2, .ref oM), (1, .ref oP), (0, .ref b)] → va_P D pn_cl [(oP, .inr (4, [.ref oS, .ref oe, .ref oT, .ref o1, .ref o2, .ref o3, .ref o4])), (oS, .inr (2, [.ref qC, .ref qS, .ref qN, .ref qB, .int (nI us)])), (qC, .inl (cI, 17500, .inl C)), (qS, .inl (cI, 24, .inl (fun z9 => nI (st z9)))), (qN, .inl (cI, 24, .inl (fun z9 => nI (ct z9)))), (qB, .inl (cZ, 24, .inl (fun z9 => pn_b (bl z9)))), (o1, .inr (1, [.ref q1, .int (nI n1), .int (pn_b b1)])), (q1, .inl (cI, 632, .inl f1)), (o2, .inr (1, [.ref q2, .int (nI n2), .int (pn_b b2)])), (q2, .inl (cI, 632, .inl f2)), (o3, .inr (1, [.ref q3, .int (nI n3), .int (pn_b b3)])), (q3, .inl (cI, 632, .inl f3)), (o4, .inr (1, [.ref q4, .int (nI n4), .int (pn_b b4)])), (q4, .inl (cI, 632, .inl f4)), (oe, .inr (0, [.long (pn_L a0), .long (pn_L b0), .long (pn_L c0), .long (pn_L d0)])), (oT, .inr (3, [.ref qT, .int (nI s0)])), (qT, .inl (cB, 6031, .inl (fun z9 => nI (tc z9)))), (oM, .inr (5, [.int (nI cd), .ref qW, .ref qM, .ref qK, .ref qJ, .ref qG, .ref qH, .ref qP, .int (nI pl)])), (qW, .inl (cI, 22400, .inl (fun z9 => nI (wk z9)))), (qM, .inl (cI, 7, .inl (fun z9 => nI (mn z9)))), (qH, .inl (cI, 2700, .inl (fun z9 => nI (hv z9)))), (qK, .inl (cI, 36480, .inl (fun z9 => nI (kp z9)))), (qJ, .inl (cI, 24, .inl (fun z9 => nI (km z9)))), (qG, .inl (cI, 24, .inl sg)), (qP, .inl (cI, 6100, .inl (fun z9 => nI (pr z9)))), (qO, .inl (cJ, 1, .inr (.inl fo)))] H → va_D A [(oP, .inr (4, [.ref oS, .ref oe, .ref oT, .ref o1, .ref o2, .ref o3, .ref o4])), (oS, .inr (2, [.ref qC, .ref qS, .ref qN, .ref qB, .int (nI us)])), (qC, .inl (cI, 17500, .inl C)), (qS, .inl (cI, 24, .inl (fun z9 => nI (st z9)))), (qN, .inl (cI, 24, .inl (fun z9 => nI (ct z9)))), (qB, .inl (cZ, 24, .inl (fun z9 => pn_b (bl z9)))), (o1, .inr (1, [.ref q1, .int (nI n1), .int (pn_b b1)])), (q1, .inl (cI, 632, .inl f1)), (o2, .inr (1, [.ref q2, .int (nI n2), .int (pn_b b2)])), (q2, .inl (cI, 632, .inl f2)), (o3, .inr (1, [.ref q3, .int (nI n3), .int (pn_b b3)])), (q3, .inl (cI, 632, .inl f3)), (o4, .inr (1, [.ref q4, .int (nI n4), .int (pn_b b4)])), (q4, .inl (cI, 632, .inl f4)), (oe, .inr (0, [.long (pn_L a0), .long (pn_L b0), .long (pn_L c0), .long (pn_L d0)])), (oT, .inr (3, [.ref qT, .int (nI s0)])), (qT, .inl (cB, 6031, .inl (fun z9 => nI (tc z9)))), (oM, .inr (5, [.int (nI cd), .ref qW, .ref qM, .ref qK, .ref qJ, .ref qG, .ref qH, .ref qP, .int (nI pl)])), (qW, .inl (cI, 22400, .inl (fun z9 => nI (wk z9)))), (qM, .inl (cI, 7, .inl (fun z9 => nI (mn z9)))), (qH, .inl (cI, 2700, .inl (fun z9 => nI (hv z9)))), (qK, .inl (cI, 36480, .inl (fun z9 => nI (kp z9)))), (qJ, .inl (cI, 24, .inl (fun z9 => nI (km z9)))), (qG, .inl (cI, 24, .inl sg)), (qP, .inl (cI, 6100, .inl (fun z9 => nI (pr z9)))), (qO, .inl (cJ, 1, .inr (.inl fo)))] → va_S A s.heap H locs →
    W p l e ({ frames := 13, cells := 601024, slots := 7293034, locals := 482 } : Room) s m #[Value.ref b] below meth c H locs cl sl Q (F0 m pc ls [])
