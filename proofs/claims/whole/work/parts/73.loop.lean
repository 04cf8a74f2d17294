/-! THE CLAIM OUT OF ONE WALK OF THE LAW'S BODY. Your part is whole_start (and what it stands on); all else here is the same for every law, but numbers. -/
def R_law : String := "PackedNumbersLaw"
def lw_P (b : Addr) (xs : List Int32) (args : Array Value) (s : State) : Prop := args = #[.ref b] ∧ s.IntsAt b xs ∧ xs.length ≤ 2560 ∧ (Jvm.Cond.and given_1 narrow_1).before args s = true
def lw_Q (_ : Array Value) (s : State) (o : Outcome) (t : State) : Prop := o = .returned (some (.int 1)) ∧ Framed s o t [] 601024 7293034
def lw_Z (below : List Frame) (a : Array Value) (s : State) : State → Prop := fun t => ∃ o, t.status = .running ∧ Ended t below o ∧ lw_Q a s o t
/-- the law's own end, with 1 on the stack, nothing written that was there before, its room as the claim has it -/
theorem lw_ret {p : Program} {l : Launch} {e : Env} {s : State} {m : MethodId} {below : List Frame} {meth : Method} {c : Code} {b : Nat} (hx : p.tables.exec = Jvm.exec) (hb : c.code = code) (hr : meth.sig.returnType = ret) (hlocks : meth.locks = false) {pc : Nat} {H : Heap} {ls : Array Slot} (hdg : decode code pc = .ok (.ireturn, 1)) : W p l e room_1 s m #[Value.ref b] below meth c H [] 601024 7293034 (lw_Z below #[Value.ref b] s) (F0 m pc ls [.int 1]) := by
  intro T hT X
  obtain ⟨fs, hret, hrun, hended, hW, hframe⟩ := X.leave (v := some (.int 1)) (hlocks := hlocks) (fun h => by rw [hr] at h; cases h)
  have hmeth' : T.vm.method? m = some meth := X.method'
  refine ⟨T.setFrames fs, ?_, .returned (some (.int 1)), hrun, hended, rfl, ⟨_, rfl⟩, hW, hframe⟩
  jvm_step X.here [X.here.top, hx, hb, hdg, hmeth', hr, ret, narrow_b1]
  (try refine ⟨rfl, ?_⟩); (try refine ⟨rfl, ?_⟩)
  first | (intro acts; rw [hret _ acts rfl rfl rfl]) | rw [hret _ _ rfl rfl rfl]
  exact Steps.refl _
/-- what holds at the law's entry: the machine, the code, the tables' words (any of lw_tbl by 'hts w (by decide +kernel)'), the script of L ints xs at the cell b, what the Statement gives of the start (any of its parts by flat_of_before) -/
def lw_At (p : Program) (s : State) (m : MethodId) (meth : Method) (c : Code) (b L : Nat) (xs : Nat → Int32) : Prop :=
  p.tables.exec = Jvm.exec ∧ c.code = code ∧ meth.sig.returnType = ret ∧ c.maxLocals = 7 ∧ s.vm.findClass R_law = some m.cls ∧ (∀ w ∈ lw_tbl, w.before #[Value.ref b] s = true) ∧ va_X b L xs s s.heap ∧ b < s.heap.size ∧ meth.locks = false ∧ (Jvm.Cond.and given_1 narrow_1).before #[Value.ref b] s = true
set_option maxHeartbeats 4000000 in
set_option maxRecDepth 100000 in
theorem lw_iter {p : Program} {l : Launch} {e : Env} {s : State} {m : MethodId} {below : List Frame} {meth : Method} {c : Code} {Q : State → Prop} {A : Nat → Prop} {D : va_G} {cI cZ cB cJ : ClassId} {b oP oS oe oT o1 o2 o3 o4 qC qS qN qB q1 q2 q3 q4 qT oM qW qM qK qJ qG qH qP qO : Nat} {L : Nat} {xs : Nat → Int32} (hl0 : l.stackTraces = false) (Fx : CallFix p m c code 7 s #[Value.ref b] pn_all R_L) (hN : pn_N s) (hE : pn_ex A s s.heap) (hNC : pn_NC s) (hK : va_K D pn_cl (pn_ty cI cZ cB cJ) s) (hA : ∀ q : Nat, s.heap.size ≤ q → A q) (hX : va_X b L xs s s.heap) (hbl : b < s.heap.size) (hbA : ¬ A b) (hL : L ≤ 2560) {k cl sl : Nat} (hk : k + 5 ≤ L) (hcl : cl + 8 ≤ 601024) (hsl : sl + 48 ≤ 7293034) (nx : lw_at p l e s m below meth c Q A D cI cZ cB cJ b oP oS oe oT o1 o2 o3 o4 qC qS qN qB q1 q2 q3 q4 qT oM qW qM qK qJ qG qH qP qO 1569 k (cl + 8) (sl + 48)) : lw_at p l e s m below meth c Q A D cI cZ cB cJ b oP oS oe oT o1 o2 o3 o4 qC qS qN qB q1 q2 q3 q4 qT oM qW qM qK qJ qG qH qP qO 32 k cl sl := by
  intro C st ct bl us f1 n1 b1 f2 n2 b2 f3 n3 b3 f4 n4 b4 a0 b0 c0 d0 tc s0 cd pl wk mn hv kp km sg pr fo ρ hρ hμ hT H locs ls hl hP hD hS
  have hx := Fx.1
  have hb := Fx.2.1
  refine lv_aload_n hx hb d_L_law_32 rfl (lv_at hl 4 rfl) ?_
  refine lv_iload hx hb d_L_law_33 (lv_at hl 0 rfl) ?_
  refine pw_sld Fx hX hbl hbA hS (k := k) (by omega) (by omega) d_L_law_35 ?_
  refine lv_bipush (v := 31) hx hb d_L_law_36 (by decide) ?_
  refine lv_iand hx hb d_L_law_38 ?_
  obtain ⟨j, hj, ej⟩ := pk_andE (xs k) (m := 31) 5 (by decide)
  refine pn_topi (nI j) ej ?_
  clear ej
  by_cases h20 : 20 ≤ j
  · refine lv_tableOut (tgt := 1569) hx hb d_L_law_39 (Or.inr (by rw [nI_toInt (by omega)]; omega)) (by decide) ?_
    refine W.widen (k := cl + 8) (n := sl + 48) (by omega) (by omega) ?_
    exact nx C st ct bl us f1 n1 b1 f2 n2 b2 f3 n3 b3 f4 n4 b4 a0 b0 c0 d0 tc s0 cd pl wk mn hv kp km sg pr fo ρ hρ hμ hT _ _ _ hl hP hD hS
  · rcases (show j = 0 ∨ j = 1 ∨ j = 2 ∨ j = 3 ∨ j = 4 ∨ j = 5 ∨ j = 6 ∨ j = 7 ∨ j = 8 ∨ j = 9 ∨ j = 10 ∨ j = 11 ∨ j = 12 ∨ j = 13 ∨ j = 14 ∨ j = 15 ∨ j = 16 ∨ j = 17 ∨ j = 18 ∨ j = 19 by omega) with rfl | rfl | rfl | rfl | rfl | rfl | rfl | rfl | rfl | rfl | rfl | rfl | rfl | rfl | rfl | rfl | rfl | rfl | rfl | rfl
    · exact lv_tableIn (off := 93) (tgt := 132) hx hb d_L_law_39 (by decide) (by decide) (by decide) (by decide) (lc_set hl0 Fx hN hE hNC hK hA hX hbl hbA hL hk hcl hsl nx C st ct bl us f1 n1 b1 f2 n2 b2 f3 n3 b3 f4 n4 b4 a0 b0 c0 d0 tc s0 cd pl wk mn hv kp km sg pr fo ρ hρ hμ hT _ _ _ hl hP hD hS)
    · exact lv_tableIn (off := 193) (tgt := 232) hx hb d_L_law_39 (by decide) (by decide) (by decide) (by decide) (lc_push hl0 Fx hN hE hNC hK hA hX hbl hbA hL hk hcl hsl nx C st ct bl us f1 n1 b1 f2 n2 b2 f3 n3 b3 f4 n4 b4 a0 b0 c0 d0 tc s0 cd pl wk mn hv kp km sg pr fo ρ hρ hμ hT _ _ _ hl hP hD hS)
    · exact lv_tableIn (off := 261) (tgt := 300) hx hb d_L_law_39 (by decide) (by decide) (by decide) (by decide) (lc_copy hl0 Fx hN hE hNC hK hA hX hbl hbA hL hk hcl hsl nx C st ct bl us f1 n1 b1 f2 n2 b2 f3 n3 b3 f4 n4 b4 a0 b0 c0 d0 tc s0 cd pl wk mn hv kp km sg pr fo ρ hρ hμ hT _ _ _ hl hP hD hS)
    · exact lv_tableIn (off := 329) (tgt := 368) hx hb d_L_law_39 (by decide) (by decide) (by decide) (by decide) (lc_swap hl0 Fx hN hE hNC hK hA hX hbl hbA hL hk hcl hsl nx C st ct bl us f1 n1 b1 f2 n2 b2 f3 n3 b3 f4 n4 b4 a0 b0 c0 d0 tc s0 cd pl wk mn hv kp km sg pr fo ρ hρ hμ hT _ _ _ hl hP hD hS)
    · exact lv_tableIn (off := 397) (tgt := 436) hx hb d_L_law_39 (by decide) (by decide) (by decide) (by decide) (lc_negate hl0 Fx hN hE hNC hK hA hX hbl hbA hL hk hcl hsl nx C st ct bl us f1 n1 b1 f2 n2 b2 f3 n3 b3 f4 n4 b4 a0 b0 c0 d0 tc s0 cd pl wk mn hv kp km sg pr fo ρ hρ hμ hT _ _ _ hl hP hD hS)
    · exact lv_tableIn (off := 453) (tgt := 492) hx hb d_L_law_39 (by decide) (by decide) (by decide) (by decide) (lc_add hl0 Fx hN hE hNC hK hA hX hbl hbA hL hk hcl hsl nx C st ct bl us f1 n1 b1 f2 n2 b2 f3 n3 b3 f4 n4 b4 a0 b0 c0 d0 tc s0 cd pl wk mn hv kp km sg pr fo ρ hρ hμ hT _ _ _ hl hP hD hS)
    · exact lv_tableIn (off := 533) (tgt := 572) hx hb d_L_law_39 (by decide) (by decide) (by decide) (by decide) (lc_subtract hl0 Fx hN hE hNC hK hA hX hbl hbA hL hk hcl hsl nx C st ct bl us f1 n1 b1 f2 n2 b2 f3 n3 b3 f4 n4 b4 a0 b0 c0 d0 tc s0 cd pl wk mn hv kp km sg pr fo ρ hρ hμ hT _ _ _ hl hP hD hS)
    · exact lv_tableIn (off := 613) (tgt := 652) hx hb d_L_law_39 (by decide) (by decide) (by decide) (by decide) (lc_multiply hl0 Fx hN hE hNC hK hA hX hbl hbA hL hk hcl hsl nx C st ct bl us f1 n1 b1 f2 n2 b2 f3 n3 b3 f4 n4 b4 a0 b0 c0 d0 tc s0 cd pl wk mn hv kp km sg pr fo ρ hρ hμ hT _ _ _ hl hP hD hS)
    · exact lv_tableIn (off := 693) (tgt := 732) hx hb d_L_law_39 (by decide) (by decide) (by decide) (by decide) (lc_addProduct hl0 Fx hN hE hNC hK hA hX hbl hbA hL hk hcl hsl nx C st ct bl us f1 n1 b1 f2 n2 b2 f3 n3 b3 f4 n4 b4 a0 b0 c0 d0 tc s0 cd pl wk mn hv kp km sg pr fo ρ hρ hμ hT _ _ _ hl hP hD hS)
    · exact lv_tableIn (off := 801) (tgt := 840) hx hb d_L_law_39 (by decide) (by decide) (by decide) (by decide) (lc_divide hl0 Fx hN hE hNC hK hA hX hbl hbA hL hk hcl hsl nx C st ct bl us f1 n1 b1 f2 n2 b2 f3 n3 b3 f4 n4 b4 a0 b0 c0 d0 tc s0 cd pl wk mn hv kp km sg pr fo ρ hρ hμ hT _ _ _ hl hP hD hS)
    · exact lv_tableIn (off := 893) (tgt := 932) hx hb d_L_law_39 (by decide) (by decide) (by decide) (by decide) (lc_exact hl0 Fx hN hE hNC hK hA hX hbl hbA hL hk hcl hsl nx C st ct bl us f1 n1 b1 f2 n2 b2 f3 n3 b3 f4 n4 b4 a0 b0 c0 d0 tc s0 cd pl wk mn hv kp km sg pr fo ρ hρ hμ hT _ _ _ hl hP hD hS)
    · exact lv_tableIn (off := 973) (tgt := 1012) hx hb d_L_law_39 (by decide) (by decide) (by decide) (by decide) (lc_nearest hl0 Fx hN hE hNC hK hA hX hbl hbA hL hk hcl hsl nx C st ct bl us f1 n1 b1 f2 n2 b2 f3 n3 b3 f4 n4 b4 a0 b0 c0 d0 tc s0 cd pl wk mn hv kp km sg pr fo ρ hρ hμ hT _ _ _ hl hP hD hS)
    · exact lv_tableIn (off := 1053) (tgt := 1092) hx hb d_L_law_39 (by decide) (by decide) (by decide) (by decide) (lc_gcd hl0 Fx hN hE hNC hK hA hX hbl hbA hL hk hcl hsl nx C st ct bl us f1 n1 b1 f2 n2 b2 f3 n3 b3 f4 n4 b4 a0 b0 c0 d0 tc s0 cd pl wk mn hv kp km sg pr fo ρ hρ hμ hT _ _ _ hl hP hD hS)
    · exact lv_tableIn (off := 1133) (tgt := 1172) hx hb d_L_law_39 (by decide) (by decide) (by decide) (by decide) (lc_compare hl0 Fx hN hE hNC hK hA hX hbl hbA hL hk hcl hsl nx C st ct bl us f1 n1 b1 f2 n2 b2 f3 n3 b3 f4 n4 b4 a0 b0 c0 d0 tc s0 cd pl wk mn hv kp km sg pr fo ρ hρ hμ hT _ _ _ hl hP hD hS)
    · exact lv_tableIn (off := 1201) (tgt := 1240) hx hb d_L_law_39 (by decide) (by decide) (by decide) (by decide) (lc_sign hl0 Fx hN hE hNC hK hA hX hbl hbA hL hk hcl hsl nx C st ct bl us f1 n1 b1 f2 n2 b2 f3 n3 b3 f4 n4 b4 a0 b0 c0 d0 tc s0 cd pl wk mn hv kp km sg pr fo ρ hρ hμ hT _ _ _ hl hP hD hS)
    · exact lv_tableIn (off := 1257) (tgt := 1296) hx hb d_L_law_39 (by decide) (by decide) (by decide) (by decide) (lc_length hl0 Fx hN hE hNC hK hA hX hbl hbA hL hk hcl hsl nx C st ct bl us f1 n1 b1 f2 n2 b2 f3 n3 b3 f4 n4 b4 a0 b0 c0 d0 tc s0 cd pl wk mn hv kp km sg pr fo ρ hρ hμ hT _ _ _ hl hP hD hS)
    · exact lv_tableIn (off := 1313) (tgt := 1352) hx hb d_L_law_39 (by decide) (by decide) (by decide) (by decide) (lc_limb hl0 Fx hN hE hNC hK hA hX hbl hbA hL hk hcl hsl nx C st ct bl us f1 n1 b1 f2 n2 b2 f3 n3 b3 f4 n4 b4 a0 b0 c0 d0 tc s0 cd pl wk mn hv kp km sg pr fo ρ hρ hμ hT _ _ _ hl hP hD hS)
    · exact lv_tableIn (off := 1381) (tgt := 1420) hx hb d_L_law_39 (by decide) (by decide) (by decide) (by decide) (lc_rest hl0 Fx hN hE hNC hK hA hX hbl hbA hL hk hcl hsl nx C st ct bl us f1 n1 b1 f2 n2 b2 f3 n3 b3 f4 n4 b4 a0 b0 c0 d0 tc s0 cd pl wk mn hv kp km sg pr fo ρ hρ hμ hT _ _ _ hl hP hD hS)
    · exact lv_tableIn (off := 1449) (tgt := 1488) hx hb d_L_law_39 (by decide) (by decide) (by decide) (by decide) (lc_print hl0 Fx hN hE hNC hK hA hX hbl hbA hL hk hcl hsl nx C st ct bl us f1 n1 b1 f2 n2 b2 f3 n3 b3 f4 n4 b4 a0 b0 c0 d0 tc s0 cd pl wk mn hv kp km sg pr fo ρ hρ hμ hT _ _ _ hl hP hD hS)
    · exact lv_tableIn (off := 1505) (tgt := 1544) hx hb d_L_law_39 (by decide) (by decide) (by decide) (by decide) (lc_character hl0 Fx hN hE hNC hK hA hX hbl hbA hL hk hcl hsl nx C st ct bl us f1 n1 b1 f2 n2 b2 f3 n3 b3 f4 n4 b4 a0 b0 c0 d0 tc s0 cd pl wk mn hv kp km sg pr fo ρ hρ hμ hT _ _ _ hl hP hD hS)
set_option maxHeartbeats 4000000 in
set_option maxRecDepth 100000 in
theorem lw_out {p : Program} {l : Launch} {e : Env} {s : State} {m : MethodId} {below : List Frame} {meth : Method} {c : Code} {Q : State → Prop} {A : Nat → Prop} {D : va_G} {cI cZ cB cJ : ClassId} {b oP oS oe oT o1 o2 o3 o4 qC qS qN qB q1 q2 q3 q4 qT oM qW qM qK qJ qG qH qP qO : Nat} {L : Nat} {xs : Nat → Int32} (hl0 : l.stackTraces = false) (Fx : CallFix p m c code 7 s #[Value.ref b] pn_all R_L) (hN : pn_N s) (hE : pn_ex A s s.heap) (hNC : pn_NC s) (hK : va_K D pn_cl (pn_ty cI cZ cB cJ) s) (hA : ∀ q : Nat, s.heap.size ≤ q → A q) (hX : va_X b L xs s s.heap) (hbl : b < s.heap.size) (hbA : ¬ A b) (hL : L ≤ 2560) (hQ : Q = lw_Z below #[Value.ref b] s) (hr : meth.sig.returnType = ret) (hlocks : meth.locks = false) (hAe : ∀ q : Nat, A q → s.heap.size ≤ q) {k cl sl : Nat} (hn : L < k + 5) (hk : k ≤ 2565) (hcl : cl ≤ 601024) (hsl : sl ≤ 7293034) : lw_at p l e s m below meth c Q A D cI cZ cB cJ b oP oS oe oT o1 o2 o3 o4 qC qS qN qB q1 q2 q3 q4 qT oM qW qM qK qJ qG qH qP qO 23 k cl sl := by
  intro C st ct bl us f1 n1 b1 f2 n2 b2 f3 n3 b3 f4 n4 b4 a0 b0 c0 d0 tc s0 cd pl wk mn hv kp km sg pr fo ρ hρ hμ hT H locs ls hl hP hD hS
  have hx := Fx.1
  have hb := Fx.2.1
  refine lv_iload hx hb d_L_law_23 (lv_at hl 0 rfl) ?_
  refine lv_aload_n hx hb d_L_law_25 rfl (lv_at hl 4 rfl) ?_
  refine pw_slen Fx hX hbl hbA hS d_L_law_26 ?_
  refine lv_iconst (v := nI 5) hx hb d_L_law_27 (by decide) ?_
  refine pw_isubNN hx hb d_L_law_28 ?_
  refine lv_icmp_gt (tgt := 1575) hx hb d_L_law_29 (by decide) (fun h9 => ?_) (fun h9 => ?_)
  · subst hQ
    refine va_forget (fun q hq => hAe _ (hS.2.2 q hq)) ?_
    refine W.widen (k := 601024) (n := 7293034) hcl hsl ?_
    refine lv_iconst (v := 1) hx hb d_L_law_1575 (by decide) ?_
    exact lw_ret hx hb hr hlocks d_L_law_1576
  · refine absurd ?_ h9
    rw [← pn_I_nI k, pn_I_lt (by omega) (by omega) (by omega) (by omega)]
    omega
set_option maxHeartbeats 4000000 in
set_option maxRecDepth 100000 in
theorem lw_loop {p : Program} {l : Launch} {e : Env} {s : State} {m : MethodId} {below : List Frame} {meth : Method} {c : Code} {Q : State → Prop} {A : Nat → Prop} {D : va_G} {cI cZ cB cJ : ClassId} {b oP oS oe oT o1 o2 o3 o4 qC qS qN qB q1 q2 q3 q4 qT oM qW qM qK qJ qG qH qP qO : Nat} {L : Nat} {xs : Nat → Int32} (hl0 : l.stackTraces = false) (Fx : CallFix p m c code 7 s #[Value.ref b] pn_all R_L) (hN : pn_N s) (hE : pn_ex A s s.heap) (hNC : pn_NC s) (hK : va_K D pn_cl (pn_ty cI cZ cB cJ) s) (hA : ∀ q : Nat, s.heap.size ≤ q → A q) (hX : va_X b L xs s s.heap) (hbl : b < s.heap.size) (hbA : ¬ A b) (hL : L ≤ 2560) (hQ : Q = lw_Z below #[Value.ref b] s) (hr : meth.sig.returnType = ret) (hlocks : meth.locks = false) (hAe : ∀ q : Nat, A q → s.heap.size ≤ q) : ∀ n k cl sl : Nat, L < k + 5 * n + 5 → k ≤ 2565 → cl + 8 * n ≤ 601024 → sl + 48 * n ≤ 7293034 → lw_at p l e s m below meth c Q A D cI cZ cB cJ b oP oS oe oT o1 o2 o3 o4 qC qS qN qB q1 q2 q3 q4 qT oM qW qM qK qJ qG qH qP qO 23 k cl sl := by
  intro n
  induction n with
  | zero =>
    intro k cl sl hn hk hcl hsl C st ct bl us f1 n1 b1 f2 n2 b2 f3 n3 b3 f4 n4 b4 a0 b0 c0 d0 tc s0 cd pl wk mn hv kp km sg pr fo ρ hρ hμ hT H locs ls hl hP hD hS
    exact lw_out hl0 Fx hN hE hNC hK hA hX hbl hbA hL hQ hr hlocks hAe (by omega) hk (by omega) (by omega) C st ct bl us f1 n1 b1 f2 n2 b2 f3 n3 b3 f4 n4 b4 a0 b0 c0 d0 tc s0 cd pl wk mn hv kp km sg pr fo ρ hρ hμ hT _ _ _ hl hP hD hS
  | succ n ih =>
    intro k cl sl hn hk hcl hsl C st ct bl us f1 n1 b1 f2 n2 b2 f3 n3 b3 f4 n4 b4 a0 b0 c0 d0 tc s0 cd pl wk mn hv kp km sg pr fo ρ hρ hμ hT H locs ls hl hP hD hS
    by_cases h5 : k + 5 ≤ L
    · have hx := Fx.1
      have hb := Fx.2.1
      refine lv_iload hx hb d_L_law_23 (lv_at hl 0 rfl) ?_
      refine lv_aload_n hx hb d_L_law_25 rfl (lv_at hl 4 rfl) ?_
      refine pw_slen Fx hX hbl hbA hS d_L_law_26 ?_
      refine lv_iconst (v := nI 5) hx hb d_L_law_27 (by decide) ?_
      refine pw_isub hx hb d_L_law_28 (by omega) ?_
      refine pw_icmp_gt (a := k) (b := L - 5) (tgt := 1575) hx hb d_L_law_29 (by decide) (by omega) (by omega) (fun h9 => ?_) (fun h9 => ?_)
      · exact absurd h9 (by omega)
      · refine lw_iter hl0 Fx hN hE hNC hK hA hX hbl hbA hL h5 (by omega) (by omega) ?_ C st ct bl us f1 n1 b1 f2 n2 b2 f3 n3 b3 f4 n4 b4 a0 b0 c0 d0 tc s0 cd pl wk mn hv kp km sg pr fo ρ hρ hμ hT _ _ _ hl hP hD hS
        clear hρ hμ hT hl hP hD hS h9
        intro C st ct bl us f1 n1 b1 f2 n2 b2 f3 n3 b3 f4 n4 b4 a0 b0 c0 d0 tc s0 cd pl wk mn hv kp km sg pr fo ρ hρ hμ hT H locs ls hl hP hD hS
        refine lv_iinc (v := nI (k + 5)) (lv' := [(4, .int (nI (k + 5))), (3, .ref qO), (2, .ref oM), (1, .ref oP), (0, .ref b)]) hx hb d_L_law_1569 hl (k := 0) rfl (nI_add _ 5) (by decide) rfl (fun ls hl => ?_)
        refine lv_goto (tgt := 23) hx hb d_L_law_1572 (by decide) ?_
        exact ih (k + 5) (cl + 8) (sl + 48) (by omega) (by omega) (by omega) (by omega) C st ct bl us f1 n1 b1 f2 n2 b2 f3 n3 b3 f4 n4 b4 a0 b0 c0 d0 tc s0 cd pl wk mn hv kp km sg pr fo ρ hρ hμ hT _ _ _ hl hP hD hS
    · exact lw_out hl0 Fx hN hE hNC hK hA hX hbl hbA hL hQ hr hlocks hAe (by omega) hk (by omega) (by omega) C st ct bl us f1 n1 b1 f2 n2 b2 f3 n3 b3 f4 n4 b4 a0 b0 c0 d0 tc s0 cd pl wk mn hv kp km sg pr fo ρ hρ hμ hT _ _ _ hl hP hD hS
