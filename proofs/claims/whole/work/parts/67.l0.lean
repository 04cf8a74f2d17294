/-! the law's wrappers: static methods with a table of handlers -/
def pn_pairs : List (String × String) := [("java/lang/UnsupportedOperationException", "java/lang/IndexOutOfBoundsException"), ("java/lang/IllegalArgumentException", "java/lang/IndexOutOfBoundsException"), ("java/lang/ArithmeticException", "java/lang/IndexOutOfBoundsException"), ("java/lang/ArithmeticException", "java/lang/IllegalArgumentException")]
def pn_NC (U : State) : Prop := ∀ q ∈ pn_pairs, va_Nc q.1 q.2 U
theorem pn_NC.moved {u U : State} (hv : u.vm.Alike U.vm) (h : pn_NC u) : pn_NC U := fun q hq => (h q hq).moved hv
def pn_preL (D : va_G) (tys : List (ClassId × FieldType)) (w : va_W) (sz : Nat) (U : State) : Prop := pn_preX D tys w sz U ∧ pn_NC U
theorem pn_blindL {D : va_G} {tys : List (ClassId × FieldType)} {w : va_W} {sz : Nat} {As : List Value} : FrameBlind (va_Pc As (pn_preL D tys w sz)) := fun a U g mk q => by
  obtain ⟨q0, qx, qn⟩ := q
  have b := (pn_blindX (D := D) (tys := tys) (w := w) (sz := sz) (As := As)) a U g mk ⟨q0, qx⟩
  exact ⟨q0, b.2, pn_NC.moved (u := U) (U := U.calling g mk a) (Vm.Alike.refl U.vm) qn⟩
abbrev pn_CW (l : Launch) (D : va_G) (tys : List (ClassId × FieldType)) (y : MethodName) (w : List Cond) (rm : Room) (As : List Value) (w0 : va_W) (sz mc ms : Nat) {S : Type} (post : Int32 → S → Prop) (wf : S → va_W) : Prop :=
  Met l y w rm (va_Pc As (pn_preL D tys w0 sz)) (va_Qi post (fun u t => pn_post D (va_A w0 sz) (wf u) t) (va_A w0 sz)) mc ms (va_A w0 sz)
theorem pn_lstart {l : Launch} {D : va_G} {tys : List (ClassId × FieldType)} {y : MethodName} {bytes : ByteArray} {maxL mc ms : Nat} {ret : Option FieldType} {hh : List (Nat × Nat × Nat × Nat)} {rm : Room} {w0 : va_W} {sz : Nat} {Qc : Array Value → State → Outcome → State → Prop} {As : List Value} (hy : plainName y.cls = true) (hA0 : (lg_sl As).length ≤ maxL)
    (body : ∀ (p : Program) (e : Env) (s : State) (m : MethodId) (below : List Frame) (meth : Method) (c : Code) (A : Nat → Prop) (Q : State → Prop) (ls : Array Slot), Q = MQ below Qc As.toArray s mc ms (va_A w0 sz) → A = va_A w0 sz → CallFix p m c bytes maxL s As.toArray pn_all y.cls → meth.sig.returnType = ret → meth.locks = false → c.exceptionTable.toList = tableOf hh → pn_NC s → pn_N s → pn_ex A s s.heap → va_K D pn_cl tys s → va_P D pn_cl w0 s.heap → va_D A w0 → va_S A s.heap s.heap [] → (∀ q : Nat, s.heap.size ≤ q → A q) → lv_has ls maxL (lv_args 0 As) →
      W p l e rm s m As.toArray below meth c s.heap [] 0 0 Q (F0 m 0 ls [])) : Met l y (Cond.codeWith y bytes maxL ret hh :: pn_all) rm (va_Pc As (pn_preL D tys w0 sz)) Qc mc ms (va_A w0 sz) := by
  refine MetFree.of_bodyS (code := bytes) (maxLocals := maxL) (ret := ret) hy ?_ ?_
  · intro args s m h hn
    obtain ⟨m9, meth, c, hn9, h1, h2, h3, h4, -, h5, h6, -⟩ := Cond.codeWith_spec (atoms_spec (ws := Cond.codeWith y bytes maxL ret hh :: pn_all) h _ List.mem_cons_self)
    cases hn.symm.trans hn9
    exact ⟨meth, c, h1, h2, h3, h4, h5, h6⟩
  · intro p e s m args below meth c s₁ B hml hv _
    obtain ⟨rfl, ⟨⟨hsz, hP, hK, hD0, hN⟩, hE⟩, hC⟩ := hv
    have hts := atoms_spec (ws := Cond.codeWith y bytes maxL ret hh :: pn_all) B.pre
    have hown : s.vm.findClass y.cls = some m.cls := findClass_of_methodNamed B.named
    have htab : c.exceptionTable.toList = tableOf hh := vx_table (x := y) B (hts _ List.mem_cons_self)
    subst hsz
    have hl := lv_entry As (n := maxL) hA0
    have K : W p l e (headSpec (Cond.codeWith y bytes maxL ret hh :: pn_all) rm).room s m As.toArray below meth c s.heap [] 0 0 (MQ below Qc As.toArray s mc ms (va_A w0 s.heap.size)) (entryFrame m As.toArray maxL) := by
      rw [lg_entry_eq]
      generalize (lg_sl As ++ List.replicate (maxL - (lg_sl As).length) Slot.unset).toArray = ls at hl ⊢
      exact body p e s m below meth c _ _ ls rfl rfl ⟨B.exec, B.bytes, hml, hown, fun w h => hts w (List.mem_cons_of_mem _ h)⟩ B.returns B.notSynchronized htab hC hN hE hK hP (hD0.self (sz := s.heap.size)) va_S.rf (fun q h => Or.inr h) hl
    have hh0 : s₁.heap = s.heap := by rw [B.state]; rfl
    obtain ⟨t, a1, o, b1, b2, b3⟩ := K s₁ hh0 (Stand.of_body B)
    exact ⟨t, o, a1, b1, b2, ⟨b3.1, b3.2⟩⟩
theorem pn_cast (s : State) (args : Array Value) {A : Nat → Prop} {E : String} (hE : pn_ex A s s.heap) (h : Cond.castable E E ∈ lw_tbl) : (Cond.castable E E).before args s = true := va_Nw.use rfl (hE.1 _ (List.mem_filter.mpr ⟨h, rfl⟩))
theorem cs_IO : Cond.castable "java/lang/IndexOutOfBoundsException" "java/lang/IndexOutOfBoundsException" ∈ lw_tbl := List.mem_append_right _ (List.mem_of_getElem? (i := 156) (by decide +kernel))
theorem cs_UO : Cond.castable "java/lang/UnsupportedOperationException" "java/lang/UnsupportedOperationException" ∈ lw_tbl := List.mem_append_right _ (List.mem_of_getElem? (i := 248) (by decide +kernel))
theorem cs_IA : Cond.castable "java/lang/IllegalArgumentException" "java/lang/IllegalArgumentException" ∈ lw_tbl := List.mem_append_right _ (List.mem_of_getElem? (i := 422) (by decide +kernel))
theorem cs_AE : Cond.castable "java/lang/ArithmeticException" "java/lang/ArithmeticException" ∈ lw_tbl := List.mem_append_right _ (List.mem_of_getElem? (i := 446) (by decide +kernel))
theorem nc_UI (s : State) (h : pn_NC s) : va_Nc "java/lang/UnsupportedOperationException" "java/lang/IndexOutOfBoundsException" s := h _ (List.mem_of_getElem? (i := 0) rfl)
theorem nc_AI (s : State) (h : pn_NC s) : va_Nc "java/lang/IllegalArgumentException" "java/lang/IndexOutOfBoundsException" s := h _ (List.mem_of_getElem? (i := 1) rfl)
theorem nc_EI (s : State) (h : pn_NC s) : va_Nc "java/lang/ArithmeticException" "java/lang/IndexOutOfBoundsException" s := h _ (List.mem_of_getElem? (i := 2) rfl)
theorem nc_EA (s : State) (h : pn_NC s) : va_Nc "java/lang/ArithmeticException" "java/lang/IllegalArgumentException" s := h _ (List.mem_of_getElem? (i := 3) rfl)
section PnL
variable {p : Program} {l : Launch} {e : Env} {R : Room} {s : State} {m : MethodId} {args : Array Value} {below : List Frame} {meth : Method} {c : Code} {H : Heap} {locs : List Loc} {cells slots : Nat} {Q : State → Prop}
variable {y : MethodName} {bytes cc : ByteArray} {maxL nL n index mc ms : Nat} {ret : Option FieldType} {hh : List (Nat × Nat × Nat × Nat)} {rm : Room} {Qc : Array Value → State → Outcome → State → Prop} {free : Addr → Prop} {own : String} {a : Addr} {D : va_G} {tys : List (ClassId × FieldType)} {w w' wc wr : va_W} {A A0 : Nat → Prop} {H0 : Heap} {pc : Nat} {ls : Array Slot} {rest : List Value}
theorem pw_last (Fx : CallFix p m c cc nL s args pn_all own) (hK : va_K D pn_cl tys s) (hP : va_P D pn_cl w H) (hD : va_D A w) (hS : va_S A H0 H locs) (q0 t0 : Nat) {cA : ClassId} {n : Nat} {f : Nat → Int64} (ha : w[q0]? = some (a, .inl (cA, n, .inr (.inl f)))) (ht : tys[t0]? = some (cA, .long)) {k : Nat} {x : Int64} (hk : k < n) (hn : n < 2 ^ 31) (hw : w.set q0 (a, .inl (cA, n, .inr (.inl (vp_updL f k x)))) = w') (hdg : decode cc pc = .ok (.lastore, 1))
    (kk : ∀ (H1 : Heap) (locs1 : List Loc), va_P D pn_cl w' H1 → va_D A w' → va_S A H0 H1 locs1 → W p l e R s m args below meth c H1 locs1 cells slots Q (F0 m (pc + 1) ls rest)) : W p l e R s m args below meth c H locs cells slots Q (F0 m pc ls (.long x :: .int (nI k) :: .ref a :: rest)) := by
  subst hw
  refine va_last Fx.1 Fx.2.1 hK hP hD hS q0 t0 ha ht (vp_in_nI hk hn) hdg ?_
  rw [nI_clamp (by omega)]
  exact kk
theorem pw_lald (Fx : CallFix p m c cc nL s args pn_all own) (hK : va_K D pn_cl tys s) (hP : va_P D pn_cl w H) (q0 t0 : Nat) {cA : ClassId} {n : Nat} {f : Nat → Int64} (ha : w[q0]? = some (a, .inl (cA, n, .inr (.inl f)))) (ht : tys[t0]? = some (cA, .long)) {k : Nat} (hk : k < n) (hn : n < 2 ^ 31) (hdg : decode cc pc = .ok (.laload, 1))
    (kk : W p l e R s m args below meth c H locs cells slots Q (F0 m (pc + 1) ls (.long (f k) :: rest))) : W p l e R s m args below meth c H locs cells slots Q (F0 m pc ls (.int (nI k) :: .ref a :: rest)) :=
  va_lald Fx.1 Fx.2.1 hK hP q0 t0 ha ht (vp_in_nI hk hn) hdg (by rw [nI_clamp (by omega)]; exact kk)
/-- caught: first, second, third row -/
theorem pn_catch1 {E : String} {ce : Cell} {q : Addr} {x : Nat × Nat × Nat × Nat} {suf : List (Nat × Nat × Nat × Nat)} (Fx : CallFix p m c cc nL s args pn_all own) (htab : c.exceptionTable.toList = tableOf (x :: suf)) (hcov : covers ⟨x.1, x.2.1, x.2.2.1, x.2.2.2⟩ pc = true) (h0 : x.2.2.2 ≠ 0) (kl : Cond.classLink own x.2.2.2 E ∈ pn_all) (hE : pn_ex A s s.heap) (hc : Cond.castable E E ∈ lw_tbl) (c1 : H[q]? = some ce) (c2 : ce.vm = .none) (c3 : s.vm.findClass E = some ce.cls)
    (kk : W p l e R s m args below meth c H locs cells slots Q (F0 m x.2.2.1 ls [.ref q])) : vx_W p l e R s m args below meth c H locs cells slots Q (F0 m pc ls rest) q :=
  vx_catch Fx.2.2.2.1 [] ⟨x.1, x.2.1, x.2.2.1, x.2.2.2⟩ (tableOf suf) (by rw [htab]; rfl) (fun _ h => absurd h List.not_mem_nil) hcov h0 (Fx.2.2.2.2 _ kl) (pn_cast s args hE hc) c1 c2 c3 kk
theorem pn_catch2 {E n1 : String} {ce : Cell} {q : Addr} {x1 x : Nat × Nat × Nat × Nat} {suf : List (Nat × Nat × Nat × Nat)} (Fx : CallFix p m c cc nL s args pn_all own) (htab : c.exceptionTable.toList = tableOf (x1 :: x :: suf)) (hcov : covers ⟨x.1, x.2.1, x.2.2.1, x.2.2.2⟩ pc = true) (h0 : x.2.2.2 ≠ 0) (kl : Cond.classLink own x.2.2.2 E ∈ pn_all) (h01 : x1.2.2.2 ≠ 0) (kl1 : Cond.classLink own x1.2.2.2 n1 ∈ pn_all) (hn1 : va_Nc E n1 s) (hE : pn_ex A s s.heap) (hc : Cond.castable E E ∈ lw_tbl) (c1 : H[q]? = some ce) (c2 : ce.vm = .none) (c3 : s.vm.findClass E = some ce.cls)
    (kk : W p l e R s m args below meth c H locs cells slots Q (F0 m x.2.2.1 ls [.ref q])) : vx_W p l e R s m args below meth c H locs cells slots Q (F0 m pc ls rest) q :=
  vx_catch Fx.2.2.2.1 [⟨x1.1, x1.2.1, x1.2.2.1, x1.2.2.2⟩] ⟨x.1, x.2.1, x.2.2.1, x.2.2.2⟩ (tableOf suf) (by rw [htab]; rfl) (fun z hz => by rw [List.mem_singleton.mp hz]; exact Or.inr ⟨h01, n1, Fx.2.2.2.2 _ kl1, hn1⟩) hcov h0 (Fx.2.2.2.2 _ kl) (pn_cast s args hE hc) c1 c2 c3 kk
theorem pn_catch3 {E n1 n2 : String} {ce : Cell} {q : Addr} {x1 x2 x : Nat × Nat × Nat × Nat} {suf : List (Nat × Nat × Nat × Nat)} (Fx : CallFix p m c cc nL s args pn_all own) (htab : c.exceptionTable.toList = tableOf (x1 :: x2 :: x :: suf)) (hcov : covers ⟨x.1, x.2.1, x.2.2.1, x.2.2.2⟩ pc = true) (h0 : x.2.2.2 ≠ 0) (kl : Cond.classLink own x.2.2.2 E ∈ pn_all) (h01 : x1.2.2.2 ≠ 0) (kl1 : Cond.classLink own x1.2.2.2 n1 ∈ pn_all) (hn1 : va_Nc E n1 s) (h02 : x2.2.2.2 ≠ 0) (kl2 : Cond.classLink own x2.2.2.2 n2 ∈ pn_all) (hn2 : va_Nc E n2 s) (hE : pn_ex A s s.heap) (hc : Cond.castable E E ∈ lw_tbl) (c1 : H[q]? = some ce) (c2 : ce.vm = .none) (c3 : s.vm.findClass E = some ce.cls)
    (kk : W p l e R s m args below meth c H locs cells slots Q (F0 m x.2.2.1 ls [.ref q])) : vx_W p l e R s m args below meth c H locs cells slots Q (F0 m pc ls rest) q :=
  vx_catch Fx.2.2.2.1 [⟨x1.1, x1.2.1, x1.2.2.1, x1.2.2.2⟩, ⟨x2.1, x2.2.1, x2.2.2.1, x2.2.2.2⟩] ⟨x.1, x.2.1, x.2.2.1, x.2.2.2⟩ (tableOf suf) (by rw [htab]; rfl) (fun z hz => by
    rcases List.mem_cons.mp hz with h | h
    · rw [h]; exact Or.inr ⟨h01, n1, Fx.2.2.2.2 _ kl1, hn1⟩
    · rw [List.mem_singleton.mp h]; exact Or.inr ⟨h02, n2, Fx.2.2.2.2 _ kl2, hn2⟩) hcov h0 (Fx.2.2.2.2 _ kl) (pn_cast s args hE hc) c1 c2 c3 kk
theorem pn_retW {S : Type} {post : Int32 → S → Prop} {wf : S → va_W} {w0 : va_W} {sz : Nat} {v : Int32} (u : S) (Fx : CallFix p m c cc nL s args pn_all own) (hr : meth.sig.returnType = some .int) (hlocks : meth.locks = false) (hQ : Q = MQ below (va_Qi post (fun u t => pn_post D (va_A w0 sz) (wf u) t) (va_A w0 sz)) args s mc ms (va_A w0 sz)) (hAe : A = va_A w0 sz) (hP : va_P D pn_cl (wf u) H) (hD : va_D A (wf u)) (hS : va_S A s.heap H locs) (hp : post v u) (hc : cells ≤ mc ∧ slots ≤ ms) (hdg : decode cc pc = .ok (.ireturn, 1)) :
    W p l e R s m args below meth c H locs cells slots Q (F0 m pc ls [.int v]) := by
  subst hQ; subst hAe
  refine W.widen (k := mc) (n := ms) hc.1 hc.2 ?_
  exact W.iret Fx.1 Fx.2.1 hr (fun t ht hW => ⟨⟨v, u, rfl, hp, by rw [ht]; exact hP, hD⟩, hS.F ht⟩) hS.2.2 hdg hlocks
/-- what the tables say of a wrapper -/
def pn_calW (y : MethodName) (bytes : ByteArray) (maxL : Nat) (ret : Option FieldType) (hh : List (Nat × Nat × Nat × Nat)) (n : Nat) : Prop := Cond.codeWith y bytes maxL ret hh ∈ pn_all ∧ Cond.initialized y.cls ∈ pn_all ∧ (y.cls ≠ "java/lang/invoke/MethodHandle" ∧ y.cls ≠ "java/lang/invoke/VarHandle" ∧ (parseMethodDescriptor y.desc).map (fun d => d.parameters.length) = some n) ∧ Cond.static y ∈ pn_all
theorem pn_rW (As rest : List Value) (Fx : CallFix p m c cc nL s args pn_all own) (hK : va_K D pn_cl tys s) (hN : pn_N s) (hE : pn_ex A0 s s.heap) (hNC : pn_NC s) (hP : va_P D pn_cl w H) (hD : va_D A0 w) (hS : va_S A0 s.heap H locs) (hA : ∀ q, s.heap.size ≤ q → A0 q) (isC : List Nat) (hC : isC.map (fun i => w[i]?) = wc.map some) (hnC : va_nd isC = true)
    (hM : Met l y (Cond.codeWith y bytes maxL ret hh :: pn_all) rm (va_Pc As (pn_preL D tys wc H.size)) Qc mc ms free) (kl : Cond.methodLink own index y ∈ pn_all) (cal : pn_calW y bytes maxL ret hh n)
    (hR : rm.frames + 1 ≤ R.frames ∧ 8 + (maxL + 11) + rm.locals ≤ R.locals) (hrm : rm.cells = mc ∧ rm.slots = ms) (hn : As.length = n) (hsize : ls.size = nL) (hW : (rest.map fun v => v.category).sum ≤ 8) (hdg : decode cc pc = .ok (.invokestatic index, 3)) (hf : cells + mc ≤ R.cells ∧ slots + ms ≤ R.slots) :
    va_Run p l e R s m args below meth c H locs cells slots mc ms (F0 m pc ls (As.reverse ++ rest)) rest (Qc As.toArray) free := by
  have hp := pn_preV Fx hK hN hP hD isC hC hnC As
  have hF := va_free hD hS hA isC hC
  have hts := Fx.2.2.2.2
  refine vx_runSW (bytes := bytes) (maxL := maxL) (ret := ret) (hh := hh) (n := n) Fx hM ⟨⟨hrm.1, hrm.2, hR.1, hR.2, pay_in hts (pn_good cal.1), List.mem_cons_self⟩, hts _ cal.1, hts _ cal.2.1, ⟨cal.2.2.1.1, cal.2.2.1.2.1⟩, fun sig h => ?_, hts _ kl, hts _ cal.2.2.2⟩ ⟨pn_blindL, fun U hU hW => ⟨rfl, ⟨(hp.2 U hU hW).2, hE.call hS hU hW hF⟩, hNC.moved hW.alike⟩⟩ rfl hn hsize rfl ?_ hdg hf
  · have h2 := cal.2.2.1.2.2
    rw [h] at h2
    exact (Option.some.inj h2).symm
  · have : (F0 m pc ls (As.reverse ++ rest)).monitorRoom = 0 := rfl
    rw [this]; omega
theorem pn_biW {S : Type} {post : Int32 → S → Prop} {wf : S → va_W} {a : Array Value} {st0 rest : List Value} (isC isR : List Nat) (hP : va_P D pn_cl w H) (hD : va_D A0 w) (hS : va_S A0 H0 H locs) (hA : ∀ q, H0.size ≤ q → A0 q)
    (hr : va_Run p l e R s m args below meth c H locs cells slots mc ms (F0 m pc ls st0) rest (va_Qi post (fun u t => pn_post D (va_A wc H.size) (wf u) t) (va_A wc H.size) a) (va_A wc H.size))
    (hC : isC.map (fun i => w[i]?) = wc.map some) (hR : isR.map (fun i => w[i]?) = wr.map some) (hn : va_nd isR = true) (hdis : ∀ i ∈ isR, i ∉ isC)
    (kk : ∀ (r : Int32) (u : S) (H1 : Heap) (locs1 : List Loc), post r u → va_P D pn_cl (wr ++ wf u) H1 → va_D A0 (wr ++ wf u) → va_S A0 H0 H1 locs1 → W p l e R s m args below meth c H1 locs1 (cells + mc) (slots + ms) Q (F0 m (pc + 3) ls (.int r :: rest))) :
    W p l e R s m args below meth c H locs cells slots Q (F0 m pc ls st0) := by
  have hF := va_free hD hS hA isC hC
  refine va_calli hr hS (fun q _ h => hF q h) hF (fun r u t H1 locs1 ht hvm hw hB hz hk hS1 => ?_)
  obtain ⟨hP1, hD1⟩ := hB
  rw [ht] at hP1
  obtain ⟨hP2, hD2⟩ := va_join hP hD isC isR hC hR hn hdis hk hF hP1 hD1
  exact kk r u H1 locs1 hw hP2 hD2 hS1
end PnL
