/-! what is made: objects, arrays, constructors -/
abbrev pn_CI (l : Launch) (D : va_G) (tys : List (ClassId × FieldType)) (y : MethodName) (w : List Cond) (rm : Room) (As : List Value) (w0 : va_W) (sz mc ms : Nat) {S : Type} (post : S → Prop) (wf : S → va_W) : Prop :=
  Met l y w rm (va_Pc As (pn_pre D tys w0 sz)) (va_Qv post (fun u t => pn_post D (va_A w0 sz) (wf u) t) (va_A w0 sz)) mc ms (va_A w0 sz)
theorem pn_starti {l : Launch} {D : va_G} {tys : List (ClassId × FieldType)} {y : MethodName} {bytes : ByteArray} {maxL mc ms : Nat} {ret : Option FieldType} {rm : Room} {w0 : va_W} {sz : Nat} {Qc : Array Value → State → Outcome → State → Prop} {As : List Value} (hy : plainName y.cls = true) (hyn : y.name = "<init>") (hA0 : (lg_sl As).length ≤ maxL)
    (body : ∀ (p : Program) (e : Env) (s : State) (m : MethodId) (below : List Frame) (meth : Method) (c : Code) (A : Nat → Prop) (Q : State → Prop) (ls : Array Slot), Q = MQ below Qc As.toArray s mc ms (va_A w0 sz) → A = va_A w0 sz → CallFix p m c bytes maxL s As.toArray pn_all y.cls → meth.sig.returnType = ret → meth.locks = false → meth.name = "<init>" → pn_N s → va_K D pn_cl tys s → va_P D pn_cl w0 s.heap → va_D A w0 → va_S A s.heap s.heap [] → (∀ q : Nat, s.heap.size ≤ q → A q) → lv_has ls maxL (lv_args 0 As) →
      W p l e rm s m As.toArray below meth c s.heap [] 0 0 Q (F0 m 0 ls [])) : Met l y (Cond.code y bytes maxL ret :: pn_all) rm (va_Pc As (pn_pre D tys w0 sz)) Qc mc ms (va_A w0 sz) := by
  refine Met.ofW (cc := bytes) (maxL := maxL) (ret := ret) hy rfl ?_
  intro p e s m args below meth c s₁ B hml hv
  obtain ⟨rfl, hsz, hP, hK, hD0, hN⟩ := hv
  have hts := atoms_spec (ws := Cond.code y bytes maxL ret :: pn_all) B.pre
  have hown : s.vm.findClass y.cls = some m.cls := findClass_of_methodNamed B.named
  have hin : meth.name = y.name := (name_of_methodNamed B.named B.method).1
  subst hsz
  have hl := lv_entry As (n := maxL) hA0
  rw [lg_entry_eq]
  generalize (lg_sl As ++ List.replicate (maxL - (lg_sl As).length) Slot.unset).toArray = ls at hl ⊢
  exact body p e s m below meth c _ _ ls rfl rfl ⟨B.exec, B.bytes, hml, hown, fun w h => hts w (List.mem_cons_of_mem _ h)⟩ B.returns B.notSynchronized (hin.trans hyn) hN hK hP (hD0.self (sz := s.heap.size)) va_S.rf (fun q h => Or.inr h) hl
section PnMade
variable {p : Program} {l : Launch} {e : Env} {R : Room} {s : State} {m : MethodId} {args : Array Value} {below : List Frame} {meth : Method} {c : Code} {H : Heap} {locs : List Loc} {cells slots : Nat} {Q : State → Prop}
variable {y : MethodName} {bytes cc : ByteArray} {maxL nL n index mc ms : Nat} {rm : Room} {Qc : Array Value → State → Outcome → State → Prop} {free : Addr → Prop} {own host : String} {a b : Addr} {D : va_G} {tys : List (ClassId × FieldType)} {w w' wc wr : va_W} {A A0 : Nat → Prop} {H0 : Heap} {pc : Nat} {ls : Array Slot} {rest : List Value}
theorem pw_newa (Fx : CallFix p m c cc nL s args pn_all own) (hK : va_K D pn_cl tys s) (hP : va_P D pn_cl w H) (hD : va_D A w) (hS : va_S A H0 H locs) (hA : ∀ q, H0.size ≤ q → A q) (t0 : Nat) {cA : ClassId} {ty : FieldType} {atype : ArrayType} (ht : tys[t0]? = some (cA, ty)) (hty : newarray.typeOf atype = ty) (hprim : ∀ c9, va_RA s c9 ty → s.vm.findClass ("[" ++ ty.toString) = some c9) (ka : Cond.arrayClass ty ∈ pn_all)
    {N' : Nat} {a0 : vp_A} (ha : ∀ cA : ClassId, vp_cell cA a0 = arrV cA N' (fun _ => defaultValue ty)) (hN : N' < 2 ^ 31) (hbytes : N' * componentBytes ty ≤ 536870912) (hcells : cells + 1 ≤ R.cells) (hslots : slots + N' ≤ R.slots) (hdg : decode cc pc = .ok (.newarray atype, 2))
    (kk : ∀ (q : Nat) (H1 : Heap), va_P D pn_cl (w ++ [(q, .inl (cA, a0))]) H1 → va_D A (w ++ [(q, .inl (cA, a0))]) → va_S A H0 H1 locs → W p l e R s m args below meth c H1 locs (cells + 1) (slots + N') Q (F0 m (pc + 2) ls (.ref q :: rest))) : W p l e R s m args below meth c H locs cells slots Q (F0 m pc ls (.int (nI N') :: rest)) := by
  subst hty
  refine va_newa Fx.1 Fx.2.1 (Fx.2.2.2.2 _ ka) rfl hK hP hD hS hA ha (nI_pos hN) (nI_clamp hN) hbytes hcells hslots hdg (fun q c2 H1 hK2 hP2 hD2 hS2 => ?_)
  have h2 := (hK2.2 tys.length (c2, newarray.typeOf atype) (by simp)).2
  have h1 := (hK.2 t0 _ ht).2
  have e := Option.some.inj ((hprim _ h2).symm.trans (hprim _ h1))
  subst e
  exact kk q H1 hP2 hD2 hS2
theorem pw_new (Fx : CallFix p m c cc nL s args pn_all own) (hK : va_K D pn_cl tys s) (hP : va_P D pn_cl w H) (hD : va_D A w) (hS : va_S A H0 H locs) (hA : ∀ q, H0.size ≤ q → A q) {ci : Nat} {C : String} {T : u_T} {N : Nat} {ty0 : Nat → FieldType} (F : pn_fld ci C T N ty0) (kl : Cond.classLink own index C ∈ pn_all) (ki : Cond.instantiable C N ∈ pn_all) (kn : Cond.initialized C ∈ pn_all) {fs : List Value} (hfs : ∀ j, j < N → defaultValue (ty0 j) = vp_V fs j) (hcells : cells + 1 ≤ R.cells) (hslots : slots + N ≤ R.slots) (hdg : decode cc pc = .ok (.new index, 3))
    (kk : ∀ (q : Nat) (H1 : Heap), va_P D pn_cl (w ++ [(q, .inr (ci, fs))]) H1 → va_D A (w ++ [(q, .inr (ci, fs))]) → va_S A H0 H1 locs → W p l e R s m args below meth c H1 locs (cells + 1) (slots + N) Q (F0 m (pc + 3) ls (.ref q :: rest))) : W p l e R s m args below meth c H locs cells slots Q (F0 m pc ls rest) :=
  va_new Fx.1 Fx.2.1 Fx.2.2.2.2 F.2.1 ty0 F.2.2.1 Fx.2.2.2.1 (Fx.2.2.2.2 _ kl) (Fx.2.2.2.2 _ ki) (Fx.2.2.2.2 _ kn) hK hP hD hS hA F.1 hfs hcells hslots hdg kk
theorem pw_putF (Fx : CallFix p m c cc nL s args pn_all own) (hin : meth.name = "<init>") (hK : va_K D pn_cl tys s) (hP : va_P D pn_cl w H) (hD : va_D A w) (hS : va_S A H0 H locs) {ci : Nat} {C : String} {T : u_T} {N : Nat} {ty0 : Nat → FieldType} (F : pn_fld ci C T N ty0) (q0 : Nat) {fs : List Value} (he : w[q0]? = some (a, .inr (ci, fs))) (k : Nat) (hk : k < N) (kl : Cond.fieldLink own index (T k).1 (T k).2.1 (T k).2.2.1 ∈ pn_all) (hfin : (T k).2.2.2 = true) (hdecl : (T k).1 = own) {v : Value} (hn : narrow (ty0 k) v = v) (hfit : fits (ty0 k) v = true) (hl : k < fs.length) (hw : w.set q0 (a, .inr (ci, fs.set k v)) = w') (hdg : decode cc pc = .ok (.putfield index, 3))
    (kk : ∀ (H1 : Heap) (locs1 : List Loc), va_P D pn_cl w' H1 → va_D A w' → va_S A H0 H1 locs1 → W p l e R s m args below meth c H1 locs1 cells slots Q (F0 m (pc + 3) ls rest)) : W p l e R s m args below meth c H locs cells slots Q (F0 m pc ls (v :: .ref a :: rest)) := by
  subst hw
  exact va_putF Fx.1 Fx.2.1 Fx.2.2.2.2 F.2.1 ty0 F.2.2.1 F.2.2.2 Fx.2.2.2.1 hK hP hD hS q0 he F.1 k hk (Fx.2.2.2.2 _ kl) (fun _ h => h) hfin hin hdecl (F.2.2.1 k hk) hn hfit hl hdg kk
theorem pw_obj (Fx : CallFix p m c cc nL s args pn_all own) (hsz : ls.size = nL) (kl : Cond.methodLink own index Lib.objectInit ∈ pn_all) (ki : Cond.instanceMethod Lib.objectInit ∈ pn_all) (kc : Cond.code Lib.objectInit ⟨#[0xb1]⟩ 1 none ∈ pn_all) (hd : decode cc pc = .ok (.invokespecial index, 3)) (hframes : 1 ≤ R.frames) (hlocals : (rest.map fun v => v.category).sum + 12 ≤ R.locals)
    (kk : W p l e R s m args below meth c H locs cells slots Q (F0 m (pc + 3) ls rest)) : W p l e R s m args below meth c H locs cells slots Q (F0 m pc ls (.ref a :: rest)) := by
  refine W.objInit Fx.1 Fx.2.1 Fx.2.2.2.1 (Fx.2.2.2.2 _ kl) (Fx.2.2.2.2 _ ki) (Fx.2.2.2.2 _ kc) rfl (hsz.trans Fx.2.2.1.symm) rfl hd hframes ?_ kk
  have : (F0 m pc ls (.ref a :: rest)).monitorRoom = 0 := rfl
  rw [this]; omega
theorem pn_rI (rest : List Value) (Fx : CallFix p m c cc nL s args pn_all own) (hK : va_K D pn_cl tys s) (hN : pn_N s) (hP : va_P D pn_cl w H) (hD : va_D A0 w) (isC : List Nat) (hC : isC.map (fun i => w[i]?) = wc.map some) (hnC : va_nd isC = true)
    (hM : Met l y (Cond.code y bytes maxL none :: pn_all) rm (va_Pc [.ref b] (pn_pre D tys wc H.size)) Qc mc ms free) (kl : Cond.methodLink own index y ∈ pn_all) (cal : pn_cal y bytes maxL none 0) (ki : Cond.instanceMethod y ∈ pn_all) (hyn : y.name = "<init>")
    (hR : rm.frames + 1 ≤ R.frames ∧ 8 + (maxL + 11) + rm.locals ≤ R.locals) (hrm : rm.cells = mc ∧ rm.slots = ms) (hsize : ls.size = nL) (hW : (rest.map fun v => v.category).sum ≤ 8) (hdg : decode cc pc = .ok (.invokespecial index, 3)) (hf : cells + mc ≤ R.cells ∧ slots + ms ≤ R.slots) :
    va_Run p l e R s m args below meth c H locs cells slots mc ms (F0 m pc ls (.ref b :: rest)) rest (Qc [Value.ref b].toArray) free := by
  have hp := pn_preV Fx hK hN hP hD isC hC hnC [Value.ref b]
  have hts := Fx.2.2.2.2
  refine va_runI (As := []) (bytes := bytes) (maxL := maxL) (n := 0) Fx hM ⟨callB_of 0 hts (pn_good cal.1) rfl hrm.1 hrm.2 (hts _ cal.2.1) (hts _ kl) cal.2.2 hR, hyn, hts _ ki⟩ hp rfl rfl hsize rfl ?_ hdg hf
  have : (F0 m pc ls (.ref b :: rest)).monitorRoom = 0 := rfl
  rw [this]; omega
theorem pn_rIN (rest : List Value) (Fx : CallFix p m c cc nL s args pn_all own) (hK : va_K D pn_cl tys s) (hN : pn_N s) (hP : va_P D pn_cl w H) (hD : va_D A0 w) (isC : List Nat) (hC : isC.map (fun i => w[i]?) = wc.map some) (hnC : va_nd isC = true)
    (hM : Met l y (Cond.code y bytes maxL none :: pn_all) rm (va_Pc [.ref b] (pn_pre D tys wc H.size)) Qc mc ms free) (kl : Cond.methodLinkNest own index y host ∈ pn_nest) (cal : pn_cal y bytes maxL none 0) (ki : Cond.instanceMethod y ∈ pn_all) (hyn : y.name = "<init>")
    (hR : rm.frames + 1 ≤ R.frames ∧ 8 + (maxL + 11) + rm.locals ≤ R.locals) (hrm : rm.cells = mc ∧ rm.slots = ms) (hsize : ls.size = nL) (hW : (rest.map fun v => v.category).sum ≤ 8) (hdg : decode cc pc = .ok (.invokespecial index, 3)) (hf : cells + mc ≤ R.cells ∧ slots + ms ≤ R.slots) :
    va_Run p l e R s m args below meth c H locs cells slots mc ms (F0 m pc ls (.ref b :: rest)) rest (Qc [Value.ref b].toArray) free := by
  have hp := pn_preV Fx hK hN hP hD isC hC hnC [Value.ref b]
  have hts := Fx.2.2.2.2
  refine va_runIN (As := []) (host := host) (bytes := bytes) (maxL := maxL) (n := 0) Fx hM ⟨va_cnB 0 hts (pn_good cal.1) rfl hrm.1 hrm.2 (hN _ kl) (hts _ cal.2.1) cal.2.2 hR, hyn, hts _ ki⟩ hp rfl rfl hsize rfl ?_ hdg hf
  have : (F0 m pc ls (.ref b :: rest)).monitorRoom = 0 := rfl
  rw [this]; omega
theorem pn_bvm {S : Type} {post : S → Prop} {wf : S → va_W} {a : Array Value} {st0 rest : List Value} (isC isR : List Nat) (hP : va_P D pn_cl w H) (hD : va_D A0 w) (hS : va_S A0 H0 H locs) (hA : ∀ q, H0.size ≤ q → A0 q)
    (hr : va_Run p l e R s m args below meth c H locs cells slots mc ms (F0 m pc ls st0) rest (va_Qv post (fun u t => pn_post D (va_A wc H.size) (wf u) t) (va_A wc H.size) a) (va_A wc H.size))
    (hC : isC.map (fun i => w[i]?) = wc.map some) (hR : isR.map (fun i => w[i]?) = wr.map some) (hn : va_nd isR = true) (hdis : ∀ i ∈ isR, i ∉ isC)
    (kk : ∀ (u : S) (H1 : Heap) (locs1 : List Loc), post u → va_P D pn_cl (wr ++ wf u) H1 → va_D A0 (wr ++ wf u) → va_S A0 H0 H1 locs1 → W p l e R s m args below meth c H1 locs1 (cells + mc) (slots + ms) Q (F0 m (pc + 3) ls rest)) :
    W p l e R s m args below meth c H locs cells slots Q (F0 m pc ls st0) := by
  have hF := va_free hD hS hA isC hC
  refine va_callv hr hS (fun q _ h => hF q h) hF (fun u t H1 locs1 ht hvm hw hB hz hk hS1 => ?_)
  obtain ⟨hP1, hD1⟩ := hB
  rw [ht] at hP1
  obtain ⟨hP2, hD2⟩ := va_join hP hD isC isR hC hR hn hdis hk hF hP1 hD1
  exact kk u H1 locs1 hw hP2 hD2 hS1
theorem pn_retI {S : Type} {post : S → Prop} {wf : S → va_W} {w0 : va_W} {sz : Nat} (u : S) (Fx : CallFix p m c cc nL s args pn_all own) (hr : meth.sig.returnType = none) (hlocks : meth.locks = false) (hQ : Q = MQ below (va_Qv post (fun u t => pn_post D (va_A w0 sz) (wf u) t) (va_A w0 sz)) args s mc ms (va_A w0 sz)) (hAe : A = va_A w0 sz) (hP : va_P D pn_cl (wf u) H) (hD : va_D A (wf u)) (hS : va_S A s.heap H locs) (hp : post u) (hc : cells ≤ mc ∧ slots ≤ ms) (hdg : decode cc pc = .ok (.return_, 1)) :
    W p l e R s m args below meth c H locs cells slots Q (F0 m pc ls []) := by
  subst hQ; subst hAe
  refine W.widen (k := mc) (n := ms) hc.1 hc.2 ?_
  exact W.vret Fx.1 Fx.2.1 hr (fun t ht hW => ⟨⟨u, rfl, hp, by rw [ht]; exact hP, hD⟩, hS.F ht⟩) hS.2.2 hdg hlocks
end PnMade
theorem pn_ai (N : Nat) : ∀ cA : ClassId, vp_cell cA (N, .inl (fun _ => nI 0)) = arrV cA N (fun _ => defaultValue .int) := fun _ => rfl
theorem pn_az (N : Nat) : ∀ cA : ClassId, vp_cell cA (N, .inl (fun _ => pn_b false)) = arrV cA N (fun _ => defaultValue .boolean) := fun _ => rfl
theorem pn_ab (N : Nat) : ∀ cA : ClassId, vp_cell cA (N, .inl (fun _ => nI 0)) = arrV cA N (fun _ => defaultValue .byte) := fun _ => rfl
theorem pn_aj (N : Nat) : ∀ cA : ClassId, vp_cell cA (N, .inr (.inl (fun _ => pn_L 0))) = arrV cA N (fun _ => defaultValue .long) := fun _ => rfl
