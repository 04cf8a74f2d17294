/-! contracts in one form, and calls by them: the callee's cells are cut out, and put beside the rest again -/
abbrev pn_ty (cI cZ cB cJ : ClassId) : List (ClassId × FieldType) := [(cI, .int), (cZ, .boolean), (cB, .byte), (cJ, .long)]
def pn_pre (D : va_G) (tys : List (ClassId × FieldType)) (w : va_W) (sz : Nat) (U : State) : Prop := U.heap.size = sz ∧ va_P D pn_cl w U.heap ∧ va_K D pn_cl tys U ∧ va_D (fun _ => True) w ∧ pn_N U
def pn_post (D : va_G) (A : Nat → Prop) (w : va_W) (t : State) : Prop := va_P D pn_cl w t.heap ∧ va_D A w
theorem pn_blind {D : va_G} {tys : List (ClassId × FieldType)} {w : va_W} {sz : Nat} {As : List Value} : FrameBlind (va_Pc As (pn_pre D tys w sz)) := fun a U g mk q => by
  obtain ⟨q0, q1, qP, qK, qD, qN⟩ := q
  exact ⟨q0, q1, qP, va_K.moved (u := U) (U := U.calling g mk a) (Vm.Alike.refl U.vm) qK, qD, pn_N.same (s := U) (U := U.calling g mk a) rfl qN⟩
/-- contracts: an int answered, a long, nothing; no cell is made -/
abbrev pn_Ci (l : Launch) (D : va_G) (tys : List (ClassId × FieldType)) (y : MethodName) (w : List Cond) (rm : Room) (As : List Value) (w0 : va_W) (sz : Nat) {S : Type} (post : Int32 → S → Prop) (wf : S → va_W) : Prop :=
  Met l y w rm (va_Pc As (pn_pre D tys w0 sz)) (va_Qi post (fun u t => pn_post D (va_A w0 sz) (wf u) t) (va_A w0 sz)) 0 0 (va_A w0 sz)
abbrev pn_Cl (l : Launch) (D : va_G) (tys : List (ClassId × FieldType)) (y : MethodName) (w : List Cond) (rm : Room) (As : List Value) (w0 : va_W) (sz : Nat) {S : Type} (post : Int64 → S → Prop) (wf : S → va_W) : Prop :=
  Met l y w rm (va_Pc As (pn_pre D tys w0 sz)) (va_Ql post (fun u t => pn_post D (va_A w0 sz) (wf u) t) (va_A w0 sz)) 0 0 (va_A w0 sz)
abbrev pn_Cv (l : Launch) (D : va_G) (tys : List (ClassId × FieldType)) (y : MethodName) (w : List Cond) (rm : Room) (As : List Value) (w0 : va_W) (sz : Nat) {S : Type} (post : S → Prop) (wf : S → va_W) : Prop :=
  Met l y w rm (va_Pc As (pn_pre D tys w0 sz)) (va_Qv post (fun u t => pn_post D (va_A w0 sz) (wf u) t) (va_A w0 sz)) 0 0 (va_A w0 sz)
/-- what the tables say of a callee -/
def pn_cal (y : MethodName) (bytes : ByteArray) (maxL : Nat) (ret : Option FieldType) (n : Nat) : Prop := Cond.code y bytes maxL ret ∈ pn_all ∧ Cond.initialized y.cls ∈ pn_all ∧ (y.cls ≠ "java/lang/invoke/MethodHandle" ∧ y.cls ≠ "java/lang/invoke/VarHandle" ∧ (parseMethodDescriptor y.desc).map (fun d => d.parameters.length) = some n)
section PnCalls
variable {p : Program} {l : Launch} {e : Env} {R : Room} {s : State} {m : MethodId} {args : Array Value} {below : List Frame} {meth : Method} {c : Code} {H : Heap} {locs : List Loc} {cells slots : Nat} {Q : State → Prop}
variable {y : MethodName} {bytes cc : ByteArray} {maxL nL n index : Nat} {ret : Option FieldType} {rm : Room} {Qc : Array Value → State → Outcome → State → Prop} {free : Addr → Prop} {own host : String} {b : Addr} {D : va_G} {tys : List (ClassId × FieldType)} {w wc wr : va_W} {A0 : Nat → Prop} {H0 : Heap} {pc : Nat} {ls : Array Slot}
theorem pn_preV (Fx : CallFix p m c cc nL s args pn_all own) (hK : va_K D pn_cl tys s) (hN : pn_N s) (hP : va_P D pn_cl w H) (hD : va_D A0 w) (isC : List Nat) (hC : isC.map (fun i => w[i]?) = wc.map some) (hnC : va_nd isC = true) (As : List Value) :
    PreS s H (va_Pc As (pn_pre D tys wc H.size)) As := by
  have hPc : va_P D pn_cl wc H := by
    intro k q hq
    have h1 : (isC.map (fun i => w[i]?))[k]? = some (some q) := by rw [hC, List.getElem?_map, hq]; rfl
    rw [List.getElem?_map] at h1
    cases hi : isC[k]? with
    | none => rw [hi] at h1; cases h1
    | some i => rw [hi] at h1; exact hP i q (Option.some.inj h1)
  have hDc : va_D A0 wc := hD.sub isC hnC hC
  exact ⟨pn_blind, fun U hU hW => ⟨rfl, by rw [hU], by rw [hU]; exact hPc, va_K.moved hW.alike hK, hDc.weaken (fun _ _ _ _ => trivial), pn_N.warm hW hN⟩⟩
theorem pn_rV (As rest : List Value) (Fx : CallFix p m c cc nL s args pn_all own) (hK : va_K D pn_cl tys s) (hN : pn_N s) (hP : va_P D pn_cl w H) (hD : va_D A0 w) (isC : List Nat) (hC : isC.map (fun i => w[i]?) = wc.map some) (hnC : va_nd isC = true)
    (hM : Met l y (Cond.code y bytes maxL ret :: pn_all) rm (va_Pc (.ref b :: As) (pn_pre D tys wc H.size)) Qc 0 0 free) (kl : Cond.methodLink own index y ∈ pn_all) (cal : pn_cal y bytes maxL ret n) (ki : Cond.instanceMethod y ∈ pn_all) (ks : Cond.selects y.cls y y ∈ pn_all)
    (hR : rm.frames + 1 ≤ R.frames ∧ 8 + (maxL + 11) + rm.locals ≤ R.locals) (hrm : rm.cells = 0 ∧ rm.slots = 0) (q0 : Nat) {ci : Nat} {fs : List Value} (hq : wc[q0]? = some (b, .inr (ci, fs))) {r : vw_C} (hcl : pn_cl[ci]? = some r) (hr : r.1 = y.cls)
    (hn : As.length = n) (hsize : ls.size = nL) (hW : (rest.map fun v => v.category).sum ≤ 8) (hdg : decode cc pc = .ok (.invokevirtual index, 3)) (hf : cells ≤ R.cells ∧ slots ≤ R.slots) :
    va_Run p l e R s m args below meth c H locs cells slots 0 0 (F0 m pc ls (As.reverse ++ .ref b :: rest)) rest (Qc (Value.ref b :: As).toArray) free := by
  have hp := pn_preV Fx hK hN hP hD isC hC hnC (Value.ref b :: As)
  have hPc : va_P D pn_cl wc H := by
    intro k q hq
    have h1 : (isC.map (fun i => w[i]?))[k]? = some (some q) := by rw [hC, List.getElem?_map, hq]; rfl
    rw [List.getElem?_map] at h1
    cases hi : isC[k]? with
    | none => rw [hi] at h1; cases h1
    | some i => rw [hi] at h1; exact hP i q (Option.some.inj h1)
  have hts := Fx.2.2.2.2
  refine va_runV (C := y.cls) (bytes := bytes) (maxL := maxL) (ret := ret) (n := n) Fx hM ⟨callB_of n hts (pn_good cal.1) rfl hrm.1 hrm.2 (hts _ cal.2.1) (hts _ kl) cal.2.2 hR, hts _ ki, hts _ ks⟩ ⟨hp.1, ?_, hp.2⟩ rfl hn hsize rfl ?_ hdg hf
  · rw [← hr]; exact va_recv hK hPc hcl hq
  · have : (F0 m pc ls (As.reverse ++ .ref b :: rest)).monitorRoom = 0 := rfl
    rw [this]; omega
theorem pn_rVN (As rest : List Value) (Fx : CallFix p m c cc nL s args pn_all own) (hK : va_K D pn_cl tys s) (hN : pn_N s) (hP : va_P D pn_cl w H) (hD : va_D A0 w) (isC : List Nat) (hC : isC.map (fun i => w[i]?) = wc.map some) (hnC : va_nd isC = true)
    (hM : Met l y (Cond.code y bytes maxL ret :: pn_all) rm (va_Pc (.ref b :: As) (pn_pre D tys wc H.size)) Qc 0 0 free) (kl : Cond.methodLinkNest own index y host ∈ pn_nest) (cal : pn_cal y bytes maxL ret n) (ki : Cond.instanceMethod y ∈ pn_all) (ks : Cond.selects y.cls y y ∈ pn_all)
    (hR : rm.frames + 1 ≤ R.frames ∧ 8 + (maxL + 11) + rm.locals ≤ R.locals) (hrm : rm.cells = 0 ∧ rm.slots = 0) (q0 : Nat) {ci : Nat} {fs : List Value} (hq : wc[q0]? = some (b, .inr (ci, fs))) {r : vw_C} (hcl : pn_cl[ci]? = some r) (hr : r.1 = y.cls)
    (hn : As.length = n) (hsize : ls.size = nL) (hW : (rest.map fun v => v.category).sum ≤ 8) (hdg : decode cc pc = .ok (.invokevirtual index, 3)) (hf : cells ≤ R.cells ∧ slots ≤ R.slots) :
    va_Run p l e R s m args below meth c H locs cells slots 0 0 (F0 m pc ls (As.reverse ++ .ref b :: rest)) rest (Qc (Value.ref b :: As).toArray) free := by
  have hp := pn_preV Fx hK hN hP hD isC hC hnC (Value.ref b :: As)
  have hPc : va_P D pn_cl wc H := by
    intro k q hq
    have h1 : (isC.map (fun i => w[i]?))[k]? = some (some q) := by rw [hC, List.getElem?_map, hq]; rfl
    rw [List.getElem?_map] at h1
    cases hi : isC[k]? with
    | none => rw [hi] at h1; cases h1
    | some i => rw [hi] at h1; exact hP i q (Option.some.inj h1)
  have hts := Fx.2.2.2.2
  refine va_runVN (C := y.cls) (host := host) (bytes := bytes) (maxL := maxL) (ret := ret) (n := n) Fx hM ⟨va_cnB n hts (pn_good cal.1) rfl hrm.1 hrm.2 (hN _ kl) (hts _ cal.2.1) cal.2.2 hR, hts _ ki, hts _ ks⟩ ⟨hp.1, ?_, hp.2⟩ rfl hn hsize rfl ?_ hdg hf
  · rw [← hr]; exact va_recv hK hPc hcl hq
  · have : (F0 m pc ls (As.reverse ++ .ref b :: rest)).monitorRoom = 0 := rfl
    rw [this]; omega
theorem pn_rS (As rest : List Value) (Fx : CallFix p m c cc nL s args pn_all own) (hK : va_K D pn_cl tys s) (hN : pn_N s) (hP : va_P D pn_cl w H) (hD : va_D A0 w) (isC : List Nat) (hC : isC.map (fun i => w[i]?) = wc.map some) (hnC : va_nd isC = true)
    (hM : Met l y (Cond.code y bytes maxL ret :: pn_all) rm (va_Pc As (pn_pre D tys wc H.size)) Qc 0 0 free) (kl : Cond.methodLink own index y ∈ pn_all) (cal : pn_cal y bytes maxL ret n) (ki : Cond.static y ∈ pn_all)
    (hR : rm.frames + 1 ≤ R.frames ∧ 8 + (maxL + 11) + rm.locals ≤ R.locals) (hrm : rm.cells = 0 ∧ rm.slots = 0)
    (hn : As.length = n) (hsize : ls.size = nL) (hW : (rest.map fun v => v.category).sum ≤ 8) (hdg : decode cc pc = .ok (.invokestatic index, 3)) (hf : cells ≤ R.cells ∧ slots ≤ R.slots) :
    va_Run p l e R s m args below meth c H locs cells slots 0 0 (F0 m pc ls (As.reverse ++ rest)) rest (Qc As.toArray) free := by
  have hp := pn_preV Fx hK hN hP hD isC hC hnC As
  have hts := Fx.2.2.2.2
  refine va_runS (bytes := bytes) (maxL := maxL) (ret := ret) (n := n) Fx hM ⟨callB_of n hts (pn_good cal.1) rfl hrm.1 hrm.2 (hts _ cal.2.1) (hts _ kl) cal.2.2 hR, hts _ ki⟩ hp rfl hn hsize rfl ?_ hdg hf
  have : (F0 m pc ls (As.reverse ++ rest)).monitorRoom = 0 := rfl
  rw [this]; omega
theorem pn_rSN (As rest : List Value) (Fx : CallFix p m c cc nL s args pn_all own) (hK : va_K D pn_cl tys s) (hN : pn_N s) (hP : va_P D pn_cl w H) (hD : va_D A0 w) (isC : List Nat) (hC : isC.map (fun i => w[i]?) = wc.map some) (hnC : va_nd isC = true)
    (hM : Met l y (Cond.code y bytes maxL ret :: pn_all) rm (va_Pc As (pn_pre D tys wc H.size)) Qc 0 0 free) (kl : Cond.methodLinkNest own index y host ∈ pn_nest) (cal : pn_cal y bytes maxL ret n) (ki : Cond.static y ∈ pn_all)
    (hR : rm.frames + 1 ≤ R.frames ∧ 8 + (maxL + 11) + rm.locals ≤ R.locals) (hrm : rm.cells = 0 ∧ rm.slots = 0)
    (hn : As.length = n) (hsize : ls.size = nL) (hW : (rest.map fun v => v.category).sum ≤ 8) (hdg : decode cc pc = .ok (.invokestatic index, 3)) (hf : cells ≤ R.cells ∧ slots ≤ R.slots) :
    va_Run p l e R s m args below meth c H locs cells slots 0 0 (F0 m pc ls (As.reverse ++ rest)) rest (Qc As.toArray) free := by
  have hp := pn_preV Fx hK hN hP hD isC hC hnC As
  have hts := Fx.2.2.2.2
  refine va_runSN (host := host) (bytes := bytes) (maxL := maxL) (ret := ret) (n := n) Fx hM ⟨va_cnB n hts (pn_good cal.1) rfl hrm.1 hrm.2 (hN _ kl) (hts _ cal.2.1) cal.2.2 hR, hts _ ki, trivial⟩ hp rfl hn hsize rfl ?_ hdg hf
  have : (F0 m pc ls (As.reverse ++ rest)).monitorRoom = 0 := rfl
  rw [this]; omega
/-! behind the call -/
theorem pn_bi {S : Type} {post : Int32 → S → Prop} {wf : S → va_W} {a : Array Value} {st0 rest : List Value} (isC isR : List Nat) (hP : va_P D pn_cl w H) (hD : va_D A0 w) (hS : va_S A0 H0 H locs) (hA : ∀ q, H0.size ≤ q → A0 q)
    (hr : va_Run p l e R s m args below meth c H locs cells slots 0 0 (F0 m pc ls st0) rest (va_Qi post (fun u t => pn_post D (va_A wc H.size) (wf u) t) (va_A wc H.size) a) (va_A wc H.size))
    (hC : isC.map (fun i => w[i]?) = wc.map some) (hR : isR.map (fun i => w[i]?) = wr.map some) (hn : va_nd isR = true) (hdis : ∀ i ∈ isR, i ∉ isC)
    (kk : ∀ (r : Int32) (u : S) (H1 : Heap) (locs1 : List Loc), post r u → va_P D pn_cl (wr ++ wf u) H1 → va_D A0 (wr ++ wf u) → va_S A0 H0 H1 locs1 → W p l e R s m args below meth c H1 locs1 cells slots Q (F0 m (pc + 3) ls (.int r :: rest))) :
    W p l e R s m args below meth c H locs cells slots Q (F0 m pc ls st0) := by
  have hF := va_free hD hS hA isC hC
  refine va_calli hr hS (fun q _ h => hF q h) hF (fun r u t H1 locs1 ht hvm hw hB hz hk hS1 => ?_)
  obtain ⟨hP1, hD1⟩ := hB
  rw [ht] at hP1
  obtain ⟨hP2, hD2⟩ := va_join hP hD isC isR hC hR hn hdis hk hF hP1 hD1
  exact kk r u H1 locs1 hw hP2 hD2 hS1
theorem pn_bl {S : Type} {post : Int64 → S → Prop} {wf : S → va_W} {a : Array Value} {st0 rest : List Value} (isC isR : List Nat) (hP : va_P D pn_cl w H) (hD : va_D A0 w) (hS : va_S A0 H0 H locs) (hA : ∀ q, H0.size ≤ q → A0 q)
    (hr : va_Run p l e R s m args below meth c H locs cells slots 0 0 (F0 m pc ls st0) rest (va_Ql post (fun u t => pn_post D (va_A wc H.size) (wf u) t) (va_A wc H.size) a) (va_A wc H.size))
    (hC : isC.map (fun i => w[i]?) = wc.map some) (hR : isR.map (fun i => w[i]?) = wr.map some) (hn : va_nd isR = true) (hdis : ∀ i ∈ isR, i ∉ isC)
    (kk : ∀ (r : Int64) (u : S) (H1 : Heap) (locs1 : List Loc), post r u → va_P D pn_cl (wr ++ wf u) H1 → va_D A0 (wr ++ wf u) → va_S A0 H0 H1 locs1 → W p l e R s m args below meth c H1 locs1 cells slots Q (F0 m (pc + 3) ls (.long r :: rest))) :
    W p l e R s m args below meth c H locs cells slots Q (F0 m pc ls st0) := by
  have hF := va_free hD hS hA isC hC
  refine va_calll hr hS (fun q _ h => hF q h) hF (fun r u t H1 locs1 ht hvm hw hB hz hk hS1 => ?_)
  obtain ⟨hP1, hD1⟩ := hB
  rw [ht] at hP1
  obtain ⟨hP2, hD2⟩ := va_join hP hD isC isR hC hR hn hdis hk hF hP1 hD1
  exact kk r u H1 locs1 hw hP2 hD2 hS1
theorem pn_bv {S : Type} {post : S → Prop} {wf : S → va_W} {a : Array Value} {st0 rest : List Value} (isC isR : List Nat) (hP : va_P D pn_cl w H) (hD : va_D A0 w) (hS : va_S A0 H0 H locs) (hA : ∀ q, H0.size ≤ q → A0 q)
    (hr : va_Run p l e R s m args below meth c H locs cells slots 0 0 (F0 m pc ls st0) rest (va_Qv post (fun u t => pn_post D (va_A wc H.size) (wf u) t) (va_A wc H.size) a) (va_A wc H.size))
    (hC : isC.map (fun i => w[i]?) = wc.map some) (hR : isR.map (fun i => w[i]?) = wr.map some) (hn : va_nd isR = true) (hdis : ∀ i ∈ isR, i ∉ isC)
    (kk : ∀ (u : S) (H1 : Heap) (locs1 : List Loc), post u → va_P D pn_cl (wr ++ wf u) H1 → va_D A0 (wr ++ wf u) → va_S A0 H0 H1 locs1 → W p l e R s m args below meth c H1 locs1 cells slots Q (F0 m (pc + 3) ls rest)) :
    W p l e R s m args below meth c H locs cells slots Q (F0 m pc ls st0) := by
  have hF := va_free hD hS hA isC hC
  refine va_callv hr hS (fun q _ h => hF q h) hF (fun u t H1 locs1 ht hvm hw hB hz hk hS1 => ?_)
  obtain ⟨hP1, hD1⟩ := hB
  rw [ht] at hP1
  obtain ⟨hP2, hD2⟩ := va_join hP hD isC isR hC hR hn hdis hk hF hP1 hD1
  exact kk u H1 locs1 hw hP2 hD2 hS1
end PnCalls
