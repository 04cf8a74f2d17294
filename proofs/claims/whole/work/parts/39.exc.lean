/-! exceptions in the form of part 18: what a throw needs of the tables and of two statics is carried beside the world -/
def pn_isX : Cond → Bool
  | .castable .. => true
  | .declares .. => true
  | _ => false
def pn_xs : List Cond := lw_tbl.filter pn_isX
def pn_X (U : State) : Prop := ∀ w ∈ pn_xs, va_Nw w U
theorem pn_X.moved {s U : State} (hv : s.vm.Alike U.vm) (h : pn_X s) : pn_X U := by
  intro w hw
  have h1 := h w hw
  have h2 := (List.mem_filter.mp hw).2
  cases w <;> first
    | (refine va_tabs (A := #[]) (u := s.setVm U.vm) rfl rfl ?_; rw [Cond.castable_setVm hv]; exact h1)
    | (refine va_tabs (A := #[]) (u := s.setVm U.vm) rfl rfl ?_; rw [Cond.declares_setVm hv]; exact h1)
    | exact absurd h2 (by simp [pn_isX])
def pn_sl : List (Nat × String) := [(188, "there is no such register"), (192, "the number would be longer than 20000"), (103, "quotient and remainder go to the same register"), (195, "the divisor is not above 0"), (141, "the divisor is 0"), (144, "something is left"), (169, "no limb is below 0"), (176, "the modulus is below 1")]
def pn_Str (U : State) : Prop := ∀ q ∈ pn_sl, ∃ sa, vk_R R_P q.1 q.2 sa U
theorem pn_Str.warm {s U : State} (hW : s.WarmedH U.vm) (h : pn_Str s) : pn_Str U := fun q hq => by
  obtain ⟨sa, h1⟩ := h q hq
  exact ⟨sa, h1.warm hW⟩
theorem pn_Str.same {s U : State} (hv : U.vm = s.vm) (h : pn_Str s) : pn_Str U := fun q hq => by
  obtain ⟨sa, h1⟩ := h q hq
  exact ⟨sa, h1.same hv⟩
def pn_Z (A : Nat → Prop) (U : State) (H : Heap) : Prop := vx_Zq Bundle.tN "UNASSIGNED_STACK" Bundle.steD A U H ∧ vx_Zq Bundle.tN "SUPPRESSED_SENTINEL" Bundle.listD A U H
def pn_ex (A : Nat → Prop) (U : State) (H : Heap) : Prop := pn_X U ∧ pn_Str U ∧ pn_Z A U H
theorem pn_ex.call {s U : State} {A B : Nat → Prop} {H : Heap} {locs : List Loc} (h : pn_ex A s s.heap) (hS : va_S A s.heap H locs) (hU : U.heap = H) (hW : s.WarmedH U.vm) (hAB : ∀ q, B q → A q) : pn_ex B U U.heap := by
  obtain ⟨h1, h2, h3, h4⟩ := h
  refine ⟨h1.moved hW.alike, h2.warm hW, ?_, ?_⟩
  · exact ((h3.kept (H1 := U.heap) (fun a ha hn => by rw [hU]; exact hS.2.1 a ha hn)).narrow hAB).moved hW.alike
  · exact ((h4.kept (H1 := U.heap) (fun a ha hn => by rw [hU]; exact hS.2.1 a ha hn)).narrow hAB).moved hW.alike
def pn_preX (D : va_G) (tys : List (ClassId × FieldType)) (w : va_W) (sz : Nat) (U : State) : Prop := pn_pre D tys w sz U ∧ pn_ex (va_A w sz) U U.heap
theorem pn_blindX {D : va_G} {tys : List (ClassId × FieldType)} {w : va_W} {sz : Nat} {As : List Value} : FrameBlind (va_Pc As (pn_preX D tys w sz)) := fun a U g mk q => by
  obtain ⟨q0, qp, x1, x2, x3, x4⟩ := q
  have b := (pn_blind (D := D) (tys := tys) (w := w) (sz := sz) (As := As)) a U g mk ⟨q0, qp⟩
  exact ⟨q0, b.2, pn_X.moved (s := U) (U := U.calling g mk a) (Vm.Alike.refl U.vm) x1, pn_Str.same (s := U) (U := U.calling g mk a) rfl x2, vx_Zq.moved (u := U) (U := U.calling g mk a) (Vm.Alike.refl U.vm) x3, vx_Zq.moved (u := U) (U := U.calling g mk a) (Vm.Alike.refl U.vm) x4⟩
abbrev pn_XX (D : va_G) (A : Nat → Prop) {SX : Type} (px : String → SX → Prop) (wfX : SX → va_W) : String → State → State → Prop := vx_X (fun _ : SX => True) (fun E u t => px E u ∧ pn_post D A (wfX u) t) A
abbrev pn_Xi (l : Launch) (D : va_G) (tys : List (ClassId × FieldType)) (y : MethodName) (w : List Cond) (rm : Room) (As : List Value) (w0 : va_W) (sz mc ms : Nat) {S SX : Type} (post : Int32 → S → Prop) (wf : S → va_W) (px : String → SX → Prop) (wfX : SX → va_W) : Prop :=
  vx_Met l y w rm (va_Pc As (pn_preX D tys w0 sz)) (va_Qi post (fun u t => pn_post D (va_A w0 sz) (wf u) t) (va_A w0 sz)) (pn_XX D (va_A w0 sz) px wfX) mc ms (va_A w0 sz)
abbrev pn_Xv (l : Launch) (D : va_G) (tys : List (ClassId × FieldType)) (y : MethodName) (w : List Cond) (rm : Room) (As : List Value) (w0 : va_W) (sz mc ms : Nat) {S SX : Type} (post : S → Prop) (wf : S → va_W) (px : String → SX → Prop) (wfX : SX → va_W) : Prop :=
  vx_Met l y w rm (va_Pc As (pn_preX D tys w0 sz)) (va_Qv post (fun u t => pn_post D (va_A w0 sz) (wf u) t) (va_A w0 sz)) (pn_XX D (va_A w0 sz) px wfX) mc ms (va_A w0 sz)
theorem pn_xstart {l : Launch} {D : va_G} {tys : List (ClassId × FieldType)} {y : MethodName} {bytes : ByteArray} {maxL mc ms : Nat} {ret : Option FieldType} {rm : Room} {w0 : va_W} {sz : Nat} {Qc : Array Value → State → Outcome → State → Prop} {XC : String → State → State → Prop} {As : List Value} (hy : plainName y.cls = true) (hA0 : (lg_sl As).length ≤ maxL)
    (body : ∀ (p : Program) (e : Env) (s : State) (m : MethodId) (below : List Frame) (meth : Method) (c : Code) (A : Nat → Prop) (Q : State → Prop) (ls : Array Slot), Q = vx_MQ below Qc XC As.toArray s mc ms (va_A w0 sz) → A = va_A w0 sz → CallFix p m c bytes maxL s As.toArray pn_all y.cls → meth.sig.returnType = ret → meth.locks = false → (∀ x ∈ c.exceptionTable.toList, False) → pn_N s → pn_ex A s s.heap → va_K D pn_cl tys s → va_P D pn_cl w0 s.heap → va_D A w0 → va_S A s.heap s.heap [] → (∀ q : Nat, s.heap.size ≤ q → A q) → lv_has ls maxL (lv_args 0 As) →
      W p l e rm s m As.toArray below meth c s.heap [] 0 0 Q (F0 m 0 ls [])) : vx_Met l y (Cond.code y bytes maxL ret :: pn_all) rm (va_Pc As (pn_preX D tys w0 sz)) Qc XC mc ms (va_A w0 sz) := by
  refine vx_ofW (cc := bytes) (maxL := maxL) (ret := ret) hy rfl ?_
  intro p e s m args below meth c s₁ B hml hout hv
  obtain ⟨rfl, ⟨hsz, hP, hK, hD0, hN⟩, hE⟩ := hv
  have hts := atoms_spec (ws := Cond.code y bytes maxL ret :: pn_all) B.pre
  have hown : s.vm.findClass y.cls = some m.cls := findClass_of_methodNamed B.named
  subst hsz
  have hl := lv_entry As (n := maxL) hA0
  rw [lg_entry_eq]
  generalize (lg_sl As ++ List.replicate (maxL - (lg_sl As).length) Slot.unset).toArray = ls at hl ⊢
  exact body p e s m below meth c _ _ ls rfl rfl ⟨B.exec, B.bytes, hml, hown, fun w h => hts w (List.mem_cons_of_mem _ h)⟩ B.returns B.notSynchronized hout hN hE hK hP (hD0.self (sz := s.heap.size)) va_S.rf (fun q h => Or.inr h) hl
section PnX
variable {p : Program} {l : Launch} {e : Env} {R : Room} {s : State} {m : MethodId} {args : Array Value} {below : List Frame} {meth : Method} {c : Code} {H : Heap} {locs : List Loc} {cells slots : Nat} {Q : State → Prop}
variable {cc bytes : ByteArray} {pc nL index maxL n mc ms : Nat} {ret : Option FieldType} {rm : Room} {ls : Array Slot} {own : String} {y : MethodName} {b : Addr} {D : va_G} {tys : List (ClassId × FieldType)} {w wc wr : va_W} {A A0 : Nat → Prop} {H0 : Heap} {Qc : Array Value → State → Outcome → State → Prop} {XC : String → State → State → Prop} {free : Addr → Prop}
def pn_nm : List String := ["java/lang/RuntimeException", "java/lang/Exception"]
/-- what the tables say of a throw -/
def pn_thr (ik is ic : Nat) (cls text : String) : Prop := Bundle.fit cls = true ∧ Cond.classLink R_P ik cls ∈ pn_all ∧ Cond.initialized cls ∈ pn_all ∧ (is, text) ∈ pn_sl ∧ (∀ w ∈ vx_atS R_P ic cls pn_nm, w ∈ lw_tbl) ∧ (∀ w ∈ vx_atS R_P ic cls pn_nm, (goodWord w || pn_isX w) = true) ∧ (∀ w ∈ Cond.classLink R_P ik cls :: Cond.initialized cls :: vx_atS R_P ic cls pn_nm, vx_ot w = true)
theorem pn_throw {SX : Type} {px : String → SX → Prop} {wfX : SX → va_W} {w0 : va_W} {sz : Nat} {rest : List Value} {ik is ic : Nat} {cls text : String} (u : SX) (T : pn_thr ik is ic cls text) (hl0 : l.stackTraces = false) (Fx : CallFix p m c cc nL s args pn_all R_P) (hlocks : meth.locks = false) (hout : ∀ x ∈ c.exceptionTable.toList, False) (hE : pn_ex A s s.heap) (hQ : Q = vx_MQ below Qc (pn_XX D (va_A w0 sz) px wfX) args s mc ms (va_A w0 sz)) (hAe : A = va_A w0 sz) (hP : va_P D pn_cl (wfX u) H) (hD : va_D A (wfX u)) (hS : va_S A s.heap H locs) (hpx : px cls u) (hsz : ls.size = nL)
    (d0 : decode cc pc = .ok (.new ik, 3)) (d3 : decode cc (pc + 3) = .ok (.dup, 1)) (d4 : decode cc (pc + 4) = .ok (.ldc is, 2)) (d6 : decode cc (pc + 6) = .ok (.invokespecial ic, 3)) (d9 : decode cc (pc + 9) = .ok (.athrow, 1))
    (hRf : 5 < R.frames) (hRl : (rest.map fun v => v.category).sum + 82 ≤ R.locals) (hRc : cells + 1 ≤ R.cells ∧ slots + 6 ≤ R.slots) (hc : cells + 1 ≤ mc ∧ slots + 6 ≤ ms) :
    W p l e R s m args below meth c H locs cells slots Q (F0 m pc ls rest) := by
  subst hQ
  obtain ⟨t1, t2, t3, t4, t5, t6, t7⟩ := T
  obtain ⟨e1, e2, e3, e4⟩ := hE
  obtain ⟨sa, hsa⟩ := e2 _ t4
  have hts := Fx.2.2.2.2
  have hat : ∀ w ∈ vx_atS R_P ic cls pn_nm, w.before args s = true := by
    intro w hw
    have g := t6 w hw
    simp only [Bool.or_eq_true] at g
    rcases g with g | g
    · exact hts w (List.mem_filter.mpr ⟨t5 w hw, g⟩)
    · have z := e1 w (List.mem_filter.mpr ⟨t5 w hw, g⟩)
      cases w <;> first | exact va_Nw.use rfl z | exact absurd g (by simp [pn_isX])
  refine vx_throwS (A := A) (names := pn_nm) (sa := sa) (text := text) (cls := cls) (own := R_P) Fx.1 Fx.2.1 hl0 Fx.2.2.2.1 t1 (by decide) (hts _ t2) (hts _ t3) hsa hat t7 e3 e4 hS (hsz.trans Fx.2.2.1.symm) d0 d3 d4 d6 d9 (fun x hx => (hout x hx).elim) hRf hRl hRc.1 hRc.2 hlocks ?_ (by rw [← hAe]; exact hS.2.2) hc.1 hc.2
  intro t hv hz hk
  refine ⟨u, trivial, ⟨hpx, hP.kept (fun k q hq => hk q.1 (hP k q hq).lt), by rw [← hAe]; exact hD⟩, by rw [← hAe]; exact ⟨Nat.le_trans hS.1 hz, fun q h1 h2 => by rw [hk q (Nat.lt_of_lt_of_le h1 hS.1)]; exact hS.2.1 q h1 h2⟩⟩
theorem pn_xrV (As rest : List Value) (Fx : CallFix p m c cc nL s args pn_all own) (hK : va_K D pn_cl tys s) (hN : pn_N s) (hE : pn_ex A0 s s.heap) (hP : va_P D pn_cl w H) (hD : va_D A0 w) (hS : va_S A0 s.heap H locs) (hA : ∀ q, s.heap.size ≤ q → A0 q) (isC : List Nat) (hC : isC.map (fun i => w[i]?) = wc.map some) (hnC : va_nd isC = true)
    (hM : vx_Met l y (Cond.code y bytes maxL ret :: pn_all) rm (va_Pc (.ref b :: As) (pn_preX D tys wc H.size)) Qc XC mc ms free) (kl : Cond.methodLink own index y ∈ pn_all) (cal : pn_cal y bytes maxL ret n) (ki : Cond.instanceMethod y ∈ pn_all) (ks : Cond.selects y.cls y y ∈ pn_all)
    (hR : rm.frames + 1 ≤ R.frames ∧ 8 + (maxL + 11) + rm.locals ≤ R.locals) (hrm : rm.cells = mc ∧ rm.slots = ms) (q0 : Nat) {ci : Nat} {fs : List Value} (hq : wc[q0]? = some (b, .inr (ci, fs))) {r : vw_C} (hcl : pn_cl[ci]? = some r) (hr : r.1 = y.cls)
    (hn : As.length = n) (hsize : ls.size = nL) (hW : (rest.map fun v => v.category).sum ≤ 8) (hdg : decode cc pc = .ok (.invokevirtual index, 3)) (hf : cells + mc ≤ R.cells ∧ slots + ms ≤ R.slots) :
    vx_Run p l e R s m args below meth c H locs cells slots mc ms (F0 m pc ls (As.reverse ++ .ref b :: rest)) rest (Qc (Value.ref b :: As).toArray) XC free := by
  have hp := pn_preV Fx hK hN hP hD isC hC hnC (Value.ref b :: As)
  have hPc : va_P D pn_cl wc H := by
    intro k q hq
    have h1 : (isC.map (fun i => w[i]?))[k]? = some (some q) := by rw [hC, List.getElem?_map, hq]; rfl
    rw [List.getElem?_map] at h1
    cases hi : isC[k]? with
    | none => rw [hi] at h1; cases h1
    | some i => rw [hi] at h1; exact hP i q (Option.some.inj h1)
  have hF := va_free hD hS hA isC hC
  have hts := Fx.2.2.2.2
  refine vx_runV (C := y.cls) (bytes := bytes) (maxL := maxL) (ret := ret) (n := n) Fx hM ⟨callB_of n hts (pn_good cal.1) rfl hrm.1 hrm.2 (hts _ cal.2.1) (hts _ kl) cal.2.2 hR, hts _ ki, hts _ ks⟩ ⟨pn_blindX, ?_, fun U hU hW => ⟨rfl, (hp.2 U hU hW).2, hE.call hS hU hW hF⟩⟩ rfl hn hsize rfl ?_ hdg hf
  · rw [← hr]; exact va_recv hK hPc hcl hq
  · have : (F0 m pc ls (As.reverse ++ .ref b :: rest)).monitorRoom = 0 := rfl
    rw [this]; omega
theorem pn_xbi {S SX : Type} {post : Int32 → S → Prop} {wf : S → va_W} {px : String → SX → Prop} {wfX : SX → va_W} {a : Array Value} {st0 rest : List Value} (isC isR : List Nat) (hP : va_P D pn_cl w H) (hD : va_D A0 w) (hS : va_S A0 H0 H locs) (hA : ∀ q, H0.size ≤ q → A0 q)
    (hr : vx_Run p l e R s m args below meth c H locs cells slots mc ms (F0 m pc ls st0) rest (va_Qi post (fun u t => pn_post D (va_A wc H.size) (wf u) t) (va_A wc H.size) a) (pn_XX D (va_A wc H.size) px wfX) (va_A wc H.size))
    (hC : isC.map (fun i => w[i]?) = wc.map some) (hR : isR.map (fun i => w[i]?) = wr.map some) (hn : va_nd isR = true) (hdis : ∀ i ∈ isR, i ∉ isC)
    (kx : ∀ (E : String) (ce : Cell) (q9 : Addr) (u : SX) (H1 : Heap) (locs1 : List Loc), px E u → va_P D pn_cl (wr ++ wfX u) H1 → va_D A0 (wr ++ wfX u) → va_S A0 H0 H1 locs1 → H1[q9]? = some ce → ce.vm = .none → s.vm.findClass E = some ce.cls → vx_W p l e R s m args below meth c H1 locs1 (cells + mc) (slots + ms) Q (F0 m pc ls rest) q9)
    (kk : ∀ (r : Int32) (u : S) (H1 : Heap) (locs1 : List Loc), post r u → va_P D pn_cl (wr ++ wf u) H1 → va_D A0 (wr ++ wf u) → va_S A0 H0 H1 locs1 → W p l e R s m args below meth c H1 locs1 (cells + mc) (slots + ms) Q (F0 m (pc + 3) ls (.int r :: rest))) :
    W p l e R s m args below meth c H locs cells slots Q (F0 m pc ls st0) := by
  have hF := va_free hD hS hA isC hC
  refine vx_calli hr hS (fun q _ h => hF q h) hF (fun q _ h => hF q h) (fun E ce q9 u t H1 locs1 ht hvm _ hB hz hk hS1 c1 c2 c3 => ?_) (fun r u t H1 locs1 ht hvm hw hB hz hk hS1 => ?_)
  · obtain ⟨hpx, hP1, hD1⟩ := hB
    rw [ht] at hP1
    obtain ⟨hP2, hD2⟩ := va_join hP hD isC isR hC hR hn hdis hk hF hP1 hD1
    exact kx E ce q9 u H1 locs1 hpx hP2 hD2 hS1 c1 c2 c3
  · obtain ⟨hP1, hD1⟩ := hB
    rw [ht] at hP1
    obtain ⟨hP2, hD2⟩ := va_join hP hD isC isR hC hR hn hdis hk hF hP1 hD1
    exact kk r u H1 locs1 hw hP2 hD2 hS1
theorem pn_xbv {S SX : Type} {post : S → Prop} {wf : S → va_W} {px : String → SX → Prop} {wfX : SX → va_W} {a : Array Value} {st0 rest : List Value} (isC isR : List Nat) (hP : va_P D pn_cl w H) (hD : va_D A0 w) (hS : va_S A0 H0 H locs) (hA : ∀ q, H0.size ≤ q → A0 q)
    (hr : vx_Run p l e R s m args below meth c H locs cells slots mc ms (F0 m pc ls st0) rest (va_Qv post (fun u t => pn_post D (va_A wc H.size) (wf u) t) (va_A wc H.size) a) (pn_XX D (va_A wc H.size) px wfX) (va_A wc H.size))
    (hC : isC.map (fun i => w[i]?) = wc.map some) (hR : isR.map (fun i => w[i]?) = wr.map some) (hn : va_nd isR = true) (hdis : ∀ i ∈ isR, i ∉ isC)
    (kx : ∀ (E : String) (ce : Cell) (q9 : Addr) (u : SX) (H1 : Heap) (locs1 : List Loc), px E u → va_P D pn_cl (wr ++ wfX u) H1 → va_D A0 (wr ++ wfX u) → va_S A0 H0 H1 locs1 → H1[q9]? = some ce → ce.vm = .none → s.vm.findClass E = some ce.cls → vx_W p l e R s m args below meth c H1 locs1 (cells + mc) (slots + ms) Q (F0 m pc ls rest) q9)
    (kk : ∀ (u : S) (H1 : Heap) (locs1 : List Loc), post u → va_P D pn_cl (wr ++ wf u) H1 → va_D A0 (wr ++ wf u) → va_S A0 H0 H1 locs1 → W p l e R s m args below meth c H1 locs1 (cells + mc) (slots + ms) Q (F0 m (pc + 3) ls rest)) :
    W p l e R s m args below meth c H locs cells slots Q (F0 m pc ls st0) := by
  have hF := va_free hD hS hA isC hC
  refine vx_callv hr hS (fun q _ h => hF q h) hF (fun q _ h => hF q h) (fun E ce q9 u t H1 locs1 ht hvm _ hB hz hk hS1 c1 c2 c3 => ?_) (fun u t H1 locs1 ht hvm hw hB hz hk hS1 => ?_)
  · obtain ⟨hpx, hP1, hD1⟩ := hB
    rw [ht] at hP1
    obtain ⟨hP2, hD2⟩ := va_join hP hD isC isR hC hR hn hdis hk hF hP1 hD1
    exact kx E ce q9 u H1 locs1 hpx hP2 hD2 hS1 c1 c2 c3
  · obtain ⟨hP1, hD1⟩ := hB
    rw [ht] at hP1
    obtain ⟨hP2, hD2⟩ := va_join hP hD isC isR hC hR hn hdis hk hF hP1 hD1
    exact kk u H1 locs1 hw hP2 hD2 hS1
/-- it goes on to the caller -/
theorem pn_xout {SX : Type} {px : String → SX → Prop} {wfX : SX → va_W} {w0 : va_W} {sz : Nat} {rest : List Value} {E : String} {ce : Cell} {q9 : Addr} (u : SX) (hlocks : meth.locks = false) (hout : ∀ x ∈ c.exceptionTable.toList, False) (hQ : Q = vx_MQ below Qc (pn_XX D (va_A w0 sz) px wfX) args s mc ms (va_A w0 sz)) (hAe : A = va_A w0 sz) (hP : va_P D pn_cl (wfX u) H) (hD : va_D A (wfX u)) (hS : va_S A s.heap H locs) (hpx : px E u) (c1 : H[q9]? = some ce) (c2 : ce.vm = .none) (c3 : s.vm.findClass E = some ce.cls) (hc : cells ≤ mc ∧ slots ≤ ms) :
    vx_W p l e R s m args below meth c H locs cells slots Q (F0 m pc ls rest) q9 := by
  subst hQ; subst hAe
  exact vx_out (fun x hx => (hout x hx).elim) hlocks c1 c2 c3 (fun t ht hv => ⟨u, trivial, ⟨hpx, by rw [ht]; exact hP, hD⟩, hS.F ht⟩) hS.2.2 hc.1 hc.2
theorem pn_xreti {S : Type} {post : Int32 → S → Prop} {wf : S → va_W} {w0 : va_W} {sz : Nat} {v : Int32} (u : S) (Fx : CallFix p m c cc nL s args pn_all own) (hr : meth.sig.returnType = some .int) (hlocks : meth.locks = false) (hQ : Q = vx_MQ below (va_Qi post (fun u t => pn_post D (va_A w0 sz) (wf u) t) (va_A w0 sz)) XC args s mc ms (va_A w0 sz)) (hAe : A = va_A w0 sz) (hP : va_P D pn_cl (wf u) H) (hD : va_D A (wf u)) (hS : va_S A s.heap H locs) (hp : post v u) (hc : cells ≤ mc ∧ slots ≤ ms) (hdg : decode cc pc = .ok (.ireturn, 1)) :
    W p l e R s m args below meth c H locs cells slots Q (F0 m pc ls [.int v]) := by
  subst hQ; subst hAe
  refine W.widen (k := mc) (n := ms) hc.1 hc.2 (vx_ret ?_)
  exact W.iret Fx.1 Fx.2.1 hr (fun t ht hW => ⟨⟨v, u, rfl, hp, by rw [ht]; exact hP, hD⟩, hS.F ht⟩) hS.2.2 hdg hlocks
theorem pn_xretv {S : Type} {post : S → Prop} {wf : S → va_W} {w0 : va_W} {sz : Nat} (u : S) (Fx : CallFix p m c cc nL s args pn_all own) (hr : meth.sig.returnType = none) (hlocks : meth.locks = false) (hQ : Q = vx_MQ below (va_Qv post (fun u t => pn_post D (va_A w0 sz) (wf u) t) (va_A w0 sz)) XC args s mc ms (va_A w0 sz)) (hAe : A = va_A w0 sz) (hP : va_P D pn_cl (wf u) H) (hD : va_D A (wf u)) (hS : va_S A s.heap H locs) (hp : post u) (hc : cells ≤ mc ∧ slots ≤ ms) (hdg : decode cc pc = .ok (.return_, 1)) :
    W p l e R s m args below meth c H locs cells slots Q (F0 m pc ls []) := by
  subst hQ; subst hAe
  refine W.widen (k := mc) (n := ms) hc.1 hc.2 (vx_ret ?_)
  exact W.vret Fx.1 Fx.2.1 hr (fun t ht hW => ⟨⟨u, rfl, hp, by rw [ht]; exact hP, hD⟩, hS.F ht⟩) hS.2.2 hdg hlocks
end PnX
