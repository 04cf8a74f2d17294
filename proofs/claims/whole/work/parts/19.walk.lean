/-! a walk's head, its fields and arrays, its ends, in the form of the contracts of part 18 -/
def pn_b (x : Bool) : Int32 := if x then 1 else 0
theorem pn_b_eq0 (x : Bool) : pn_b x = 0 ↔ x = false := by cases x <;> decide
theorem pn_b_t : pn_b true = 1 := rfl
theorem pn_b_f : pn_b false = 0 := rfl
theorem pn_b_inj {x y : Bool} : pn_b x = pn_b y ↔ x = y := by cases x <;> cases y <;> decide
theorem pn_b_nar (x : Bool) : narrow .boolean (.int (pn_b x)) = .int (pn_b x) := by cases x <;> rfl
theorem pn_b_fit (x : Bool) : fits .boolean (.int (pn_b x)) = true := by cases x <;> rfl
theorem pn_b_vp (x : Bool) : vp_nar .boolean (pn_b x) = pn_b x := by cases x <;> rfl
def pn_fld (ci : Nat) (C : String) (T : u_T) (N : Nat) (ty0 : Nat → FieldType) : Prop := pn_cl[ci]? = some (C, T, N) ∧ (∀ w ∈ u_ws C T N, w ∈ pn_all) ∧ (∀ k, k < N → parseFieldDescriptor (T k).2.2.1 = some (ty0 k)) ∧ (∀ a, a < N → ∀ b, b < N → a ≠ b → (T a).2.1 ≠ (T b).2.1)
theorem fld_E : pn_fld 0 R_E F_E 4 ft_E := ⟨rfl, in_E, ft_E_ok, n_E⟩
theorem fld_R : pn_fld 1 R_R F_R 3 ft_R := ⟨rfl, in_R, ft_R_ok, n_R⟩
theorem fld_S : pn_fld 2 R_S F_S 5 ft_S := ⟨rfl, in_S, ft_S_ok, n_S⟩
theorem fld_T : pn_fld 3 R_T F_T 2 ft_T := ⟨rfl, in_T, ft_T_ok, n_T⟩
theorem fld_P : pn_fld 4 R_P F_P 7 ft_P := ⟨rfl, in_P, ft_P_ok, n_P⟩
theorem fld_M : pn_fld 5 R_M F_M 9 ft_M := ⟨rfl, in_M, ft_M_ok, n_M⟩
theorem pn_start {l : Launch} {D : va_G} {tys : List (ClassId × FieldType)} {y : MethodName} {bytes : ByteArray} {maxL : Nat} {ret : Option FieldType} {rm : Room} {w0 : va_W} {sz : Nat} {Qc : Array Value → State → Outcome → State → Prop} {As : List Value} (hy : plainName y.cls = true) (hA0 : (lg_sl As).length ≤ maxL)
    (body : ∀ (p : Program) (e : Env) (s : State) (m : MethodId) (below : List Frame) (meth : Method) (c : Code) (A : Nat → Prop) (Q : State → Prop) (ls : Array Slot), Q = MQ below Qc As.toArray s 0 0 (va_A w0 sz) → A = va_A w0 sz → CallFix p m c bytes maxL s As.toArray pn_all y.cls → meth.sig.returnType = ret → meth.locks = false → pn_N s → va_K D pn_cl tys s → va_P D pn_cl w0 s.heap → va_D A w0 → va_S A s.heap s.heap [] → (∀ q : Nat, s.heap.size ≤ q → A q) → lv_has ls maxL (lv_args 0 As) →
      W p l e rm s m As.toArray below meth c s.heap [] 0 0 Q (F0 m 0 ls [])) : Met l y (Cond.code y bytes maxL ret :: pn_all) rm (va_Pc As (pn_pre D tys w0 sz)) Qc 0 0 (va_A w0 sz) := by
  refine Met.ofW (cc := bytes) (maxL := maxL) (ret := ret) hy rfl ?_
  intro p e s m args below meth c s₁ B hml hv
  obtain ⟨rfl, hsz, hP, hK, hD0, hN⟩ := hv
  have hts := atoms_spec (ws := Cond.code y bytes maxL ret :: pn_all) B.pre
  have hown : s.vm.findClass y.cls = some m.cls := findClass_of_methodNamed B.named
  subst hsz
  have hl := lv_entry As (n := maxL) hA0
  rw [lg_entry_eq]
  generalize (lg_sl As ++ List.replicate (maxL - (lg_sl As).length) Slot.unset).toArray = ls at hl ⊢
  exact body p e s m below meth c _ _ ls rfl rfl ⟨B.exec, B.bytes, hml, hown, fun w h => hts w (List.mem_cons_of_mem _ h)⟩ B.returns B.notSynchronized hN hK hP (hD0.self (sz := s.heap.size)) va_S.rf (fun q h => Or.inr h) hl
section PnWalk
variable {p : Program} {l : Launch} {e : Env} {R : Room} {s : State} {m : MethodId} {args : Array Value} {below : List Frame} {meth : Method} {c : Code} {H : Heap} {locs : List Loc} {cells slots : Nat} {Q : State → Prop}
variable {cc : ByteArray} {pc nL index : Nat} {ls : Array Slot} {rest : List Value} {own host : String} {a : Nat} {D : va_G} {tys : List (ClassId × FieldType)} {w w' : va_W} {A : Nat → Prop} {H0 : Heap}
theorem pn_topi {x : Int32} (y : Int32) (h : x = y) (k : W p l e R s m args below meth c H locs cells slots Q (F0 m pc ls (.int y :: rest))) : W p l e R s m args below meth c H locs cells slots Q (F0 m pc ls (.int x :: rest)) := by rw [h]; exact k
theorem pn_topl {x : Int64} (y : Int64) (h : x = y) (k : W p l e R s m args below meth c H locs cells slots Q (F0 m pc ls (.long y :: rest))) : W p l e R s m args below meth c H locs cells slots Q (F0 m pc ls (.long x :: rest)) := by rw [h]; exact k
theorem pw_get (Fx : CallFix p m c cc nL s args pn_all own) (hK : va_K D pn_cl tys s) (hP : va_P D pn_cl w H) {ci : Nat} {C : String} {T : u_T} {N : Nat} {ty0 : Nat → FieldType} (F : pn_fld ci C T N ty0) (q0 : Nat) {fs : List Value} (he : w[q0]? = some (a, .inr (ci, fs))) (k : Nat) (hk : k < N) (kl : Cond.fieldLink own index (T k).1 (T k).2.1 (T k).2.2.1 ∈ pn_all) {v : Value} (hv : fs[k]? = some v) (hdg : decode cc pc = .ok (.getfield index, 3))
    (kk : W p l e R s m args below meth c H locs cells slots Q (F0 m (pc + 3) ls (v :: rest))) : W p l e R s m args below meth c H locs cells slots Q (F0 m pc ls (.ref a :: rest)) :=
  va_get Fx.1 Fx.2.1 Fx.2.2.2.2 F.2.1 Fx.2.2.2.1 hK hP q0 he F.1 k hk (Fx.2.2.2.2 _ kl) (fun _ h => h) hv hdg kk
theorem pw_getN (Fx : CallFix p m c cc nL s args pn_all own) (hN : pn_N s) (hK : va_K D pn_cl tys s) (hP : va_P D pn_cl w H) {ci : Nat} {C : String} {T : u_T} {N : Nat} {ty0 : Nat → FieldType} (F : pn_fld ci C T N ty0) (q0 : Nat) {fs : List Value} (he : w[q0]? = some (a, .inr (ci, fs))) (k : Nat) (hk : k < N) (kl : Cond.fieldLinkNest own index (T k).1 (T k).2.1 (T k).2.2.1 host ∈ pn_nest) {v : Value} (hv : fs[k]? = some v) (hdg : decode cc pc = .ok (.getfield index, 3))
    (kk : W p l e R s m args below meth c H locs cells slots Q (F0 m (pc + 3) ls (v :: rest))) : W p l e R s m args below meth c H locs cells slots Q (F0 m pc ls (.ref a :: rest)) :=
  va_getN Fx.1 Fx.2.1 Fx.2.2.2.2 F.2.1 Fx.2.2.2.1 hK hP q0 he F.1 k hk (va_Nw.use rfl (hN _ kl)) (fun _ h => h) hv hdg kk
theorem pw_put (Fx : CallFix p m c cc nL s args pn_all own) (hK : va_K D pn_cl tys s) (hP : va_P D pn_cl w H) (hD : va_D A w) (hS : va_S A H0 H locs) {ci : Nat} {C : String} {T : u_T} {N : Nat} {ty0 : Nat → FieldType} (F : pn_fld ci C T N ty0) (q0 : Nat) {fs : List Value} (he : w[q0]? = some (a, .inr (ci, fs))) (k : Nat) (hk : k < N) (kl : Cond.fieldLink own index (T k).1 (T k).2.1 (T k).2.2.1 ∈ pn_all) (hfin : (T k).2.2.2 = false) {v : Value} (hn : narrow (ty0 k) v = v) (hfit : fits (ty0 k) v = true) (hl : k < fs.length) (hw : w.set q0 (a, .inr (ci, fs.set k v)) = w') (hdg : decode cc pc = .ok (.putfield index, 3))
    (kk : ∀ (H1 : Heap) (locs1 : List Loc), va_P D pn_cl w' H1 → va_D A w' → va_S A H0 H1 locs1 → W p l e R s m args below meth c H1 locs1 cells slots Q (F0 m (pc + 3) ls rest)) : W p l e R s m args below meth c H locs cells slots Q (F0 m pc ls (v :: .ref a :: rest)) := by
  subst hw
  exact va_put Fx.1 Fx.2.1 Fx.2.2.2.2 F.2.1 ty0 F.2.2.1 F.2.2.2 Fx.2.2.2.1 hK hP hD hS q0 he F.1 k hk (Fx.2.2.2.2 _ kl) (fun _ h => h) hfin (F.2.2.1 k hk) hn hfit hl hdg kk
theorem pw_putN (Fx : CallFix p m c cc nL s args pn_all own) (hN : pn_N s) (hK : va_K D pn_cl tys s) (hP : va_P D pn_cl w H) (hD : va_D A w) (hS : va_S A H0 H locs) {ci : Nat} {C : String} {T : u_T} {N : Nat} {ty0 : Nat → FieldType} (F : pn_fld ci C T N ty0) (q0 : Nat) {fs : List Value} (he : w[q0]? = some (a, .inr (ci, fs))) (k : Nat) (hk : k < N) (kl : Cond.fieldLinkNest own index (T k).1 (T k).2.1 (T k).2.2.1 host ∈ pn_nest) (hfin : (T k).2.2.2 = false) {v : Value} (hn : narrow (ty0 k) v = v) (hfit : fits (ty0 k) v = true) (hl : k < fs.length) (hw : w.set q0 (a, .inr (ci, fs.set k v)) = w') (hdg : decode cc pc = .ok (.putfield index, 3))
    (kk : ∀ (H1 : Heap) (locs1 : List Loc), va_P D pn_cl w' H1 → va_D A w' → va_S A H0 H1 locs1 → W p l e R s m args below meth c H1 locs1 cells slots Q (F0 m (pc + 3) ls rest)) : W p l e R s m args below meth c H locs cells slots Q (F0 m pc ls (v :: .ref a :: rest)) := by
  subst hw
  exact va_putN Fx.1 Fx.2.1 Fx.2.2.2.2 F.2.1 ty0 F.2.2.1 F.2.2.2 Fx.2.2.2.1 hK hP hD hS q0 he F.1 k hk (va_Nw.use rfl (hN _ kl)) (fun _ h => h) hfin (F.2.2.1 k hk) hn hfit hl hdg kk
theorem pw_iald (Fx : CallFix p m c cc nL s args pn_all own) (hK : va_K D pn_cl tys s) (hP : va_P D pn_cl w H) (q0 t0 : Nat) {cA : ClassId} {n : Nat} {f : Nat → Int32} (ha : w[q0]? = some (a, .inl (cA, n, .inl f))) (ht : tys[t0]? = some (cA, .int)) {k : Nat} (hk : k < n) (hn : n < 2 ^ 31) (hdg : decode cc pc = .ok (.iaload, 1))
    (kk : W p l e R s m args below meth c H locs cells slots Q (F0 m (pc + 1) ls (.int (f k) :: rest))) : W p l e R s m args below meth c H locs cells slots Q (F0 m pc ls (.int (nI k) :: .ref a :: rest)) :=
  va_iald Fx.1 Fx.2.1 hK hP q0 t0 ha ht (vp_in_nI hk hn) hdg (by rw [nI_clamp (by omega)]; exact kk)
theorem pw_zald (Fx : CallFix p m c cc nL s args pn_all own) (hK : va_K D pn_cl tys s) (hP : va_P D pn_cl w H) (q0 t0 : Nat) {cA : ClassId} {n : Nat} {f : Nat → Int32} (ha : w[q0]? = some (a, .inl (cA, n, .inl f))) (ht : tys[t0]? = some (cA, .boolean)) {k : Nat} (hk : k < n) (hn : n < 2 ^ 31) (hdg : decode cc pc = .ok (.baload, 1))
    (kk : W p l e R s m args below meth c H locs cells slots Q (F0 m (pc + 1) ls (.int (f k) :: rest))) : W p l e R s m args below meth c H locs cells slots Q (F0 m pc ls (.int (nI k) :: .ref a :: rest)) :=
  va_zald Fx.1 Fx.2.1 hK hP q0 t0 ha ht (vp_in_nI hk hn) hdg (by rw [nI_clamp (by omega)]; exact kk)
theorem pw_bald (Fx : CallFix p m c cc nL s args pn_all own) (hK : va_K D pn_cl tys s) (hP : va_P D pn_cl w H) (q0 t0 : Nat) {cA : ClassId} {n : Nat} {f : Nat → Int32} (ha : w[q0]? = some (a, .inl (cA, n, .inl f))) (ht : tys[t0]? = some (cA, .byte)) {k : Nat} (hk : k < n) (hn : n < 2 ^ 31) (hdg : decode cc pc = .ok (.baload, 1))
    (kk : W p l e R s m args below meth c H locs cells slots Q (F0 m (pc + 1) ls (.int (f k) :: rest))) : W p l e R s m args below meth c H locs cells slots Q (F0 m pc ls (.int (nI k) :: .ref a :: rest)) :=
  va_bald Fx.1 Fx.2.1 hK hP q0 t0 ha ht (vp_in_nI hk hn) hdg (by rw [nI_clamp (by omega)]; exact kk)
theorem pw_iast (Fx : CallFix p m c cc nL s args pn_all own) (hK : va_K D pn_cl tys s) (hP : va_P D pn_cl w H) (hD : va_D A w) (hS : va_S A H0 H locs) (q0 t0 : Nat) {cA : ClassId} {n : Nat} {f : Nat → Int32} (ha : w[q0]? = some (a, .inl (cA, n, .inl f))) (ht : tys[t0]? = some (cA, .int)) {k : Nat} {x : Int32} (hk : k < n) (hn : n < 2 ^ 31) (hw : w.set q0 (a, .inl (cA, n, .inl (upd f k x))) = w') (hdg : decode cc pc = .ok (.iastore, 1))
    (kk : ∀ (H1 : Heap) (locs1 : List Loc), va_P D pn_cl w' H1 → va_D A w' → va_S A H0 H1 locs1 → W p l e R s m args below meth c H1 locs1 cells slots Q (F0 m (pc + 1) ls rest)) : W p l e R s m args below meth c H locs cells slots Q (F0 m pc ls (.int x :: .int (nI k) :: .ref a :: rest)) := by
  subst hw
  refine va_iast Fx.1 Fx.2.1 hK hP hD hS q0 t0 ha ht (vp_in_nI hk hn) hdg ?_
  rw [nI_clamp (by omega)]
  exact kk
theorem pw_bast (Fx : CallFix p m c cc nL s args pn_all own) (hK : va_K D pn_cl tys s) (hP : va_P D pn_cl w H) (hD : va_D A w) (hS : va_S A H0 H locs) (q0 t0 : Nat) {cA : ClassId} {n : Nat} {f : Nat → Int32} (ha : w[q0]? = some (a, .inl (cA, n, .inl f))) (ht : tys[t0]? = some (cA, .byte)) {k : Nat} {x : Int32} (hk : k < n) (hn : n < 2 ^ 31) (hw : w.set q0 (a, .inl (cA, n, .inl (upd f k (vp_nar .byte x)))) = w') (hdg : decode cc pc = .ok (.bastore, 1))
    (kk : ∀ (H1 : Heap) (locs1 : List Loc), va_P D pn_cl w' H1 → va_D A w' → va_S A H0 H1 locs1 → W p l e R s m args below meth c H1 locs1 cells slots Q (F0 m (pc + 1) ls rest)) : W p l e R s m args below meth c H locs cells slots Q (F0 m pc ls (.int x :: .int (nI k) :: .ref a :: rest)) := by
  subst hw
  refine va_bast Fx.1 Fx.2.1 hK hP hD hS q0 t0 ha ht (vp_in_nI hk hn) hdg ?_
  rw [nI_clamp (by omega)]
  exact kk
theorem pw_zast (Fx : CallFix p m c cc nL s args pn_all own) (hK : va_K D pn_cl tys s) (hP : va_P D pn_cl w H) (hD : va_D A w) (hS : va_S A H0 H locs) (q0 t0 : Nat) {cA : ClassId} {n : Nat} {f : Nat → Int32} (ha : w[q0]? = some (a, .inl (cA, n, .inl f))) (ht : tys[t0]? = some (cA, .boolean)) {k : Nat} {x : Bool} (hk : k < n) (hn : n < 2 ^ 31) (hw : w.set q0 (a, .inl (cA, n, .inl (upd f k (pn_b x)))) = w') (hdg : decode cc pc = .ok (.bastore, 1))
    (kk : ∀ (H1 : Heap) (locs1 : List Loc), va_P D pn_cl w' H1 → va_D A w' → va_S A H0 H1 locs1 → W p l e R s m args below meth c H1 locs1 cells slots Q (F0 m (pc + 1) ls rest)) : W p l e R s m args below meth c H locs cells slots Q (F0 m pc ls (.int (pn_b x) :: .int (nI k) :: .ref a :: rest)) := by
  subst hw
  refine va_zast Fx.1 Fx.2.1 hK hP hD hS q0 t0 ha ht (vp_in_nI hk hn) hdg ?_
  rw [nI_clamp (by omega), pn_b_vp]
  exact kk
/-! branches on booleans, on longs -/
theorem pw_ifb_eq (hexec : p.tables.exec = Jvm.exec) (hb : c.code = cc) {x : Bool} {off : Int} {tgt : Nat} (hdg : decode cc pc = .ok (.ifCond .eq off, 3)) (ht : (pc : Int) + off = (tgt : Int)) (kt : x = false → W p l e R s m args below meth c H locs cells slots Q (F0 m tgt ls rest)) (kf : x = true → W p l e R s m args below meth c H locs cells slots Q (F0 m (pc + 3) ls rest)) : W p l e R s m args below meth c H locs cells slots Q (F0 m pc ls (.int (pn_b x) :: rest)) :=
  lv_if_eq hexec hb hdg ht (fun z => kt ((pn_b_eq0 x).mp z)) (fun z => kf (by cases x with | false => exact absurd rfl z | true => rfl))
theorem pw_ifb_ne (hexec : p.tables.exec = Jvm.exec) (hb : c.code = cc) {x : Bool} {off : Int} {tgt : Nat} (hdg : decode cc pc = .ok (.ifCond .ne off, 3)) (ht : (pc : Int) + off = (tgt : Int)) (kt : x = true → W p l e R s m args below meth c H locs cells slots Q (F0 m tgt ls rest)) (kf : x = false → W p l e R s m args below meth c H locs cells slots Q (F0 m (pc + 3) ls rest)) : W p l e R s m args below meth c H locs cells slots Q (F0 m pc ls (.int (pn_b x) :: rest)) :=
  lv_if_ne hexec hb hdg ht (fun z => kt (by cases x with | false => exact absurd rfl z | true => rfl)) (fun z => kf ((pn_b_eq0 x).mp z))
theorem pw_icmpb_eq (hexec : p.tables.exec = Jvm.exec) (hb : c.code = cc) {x y : Bool} {off : Int} {tgt : Nat} (hdg : decode cc pc = .ok (.if_icmp .eq off, 3)) (ht : (pc : Int) + off = (tgt : Int)) (kt : x = y → W p l e R s m args below meth c H locs cells slots Q (F0 m tgt ls rest)) (kf : x ≠ y → W p l e R s m args below meth c H locs cells slots Q (F0 m (pc + 3) ls rest)) : W p l e R s m args below meth c H locs cells slots Q (F0 m pc ls (.int (pn_b y) :: .int (pn_b x) :: rest)) :=
  lv_icmp_eq hexec hb hdg ht (fun z => kt (pn_b_inj.mp z)) (fun z => kf (fun h => z (by rw [h])))
theorem pw_icmpb_ne (hexec : p.tables.exec = Jvm.exec) (hb : c.code = cc) {x y : Bool} {off : Int} {tgt : Nat} (hdg : decode cc pc = .ok (.if_icmp .ne off, 3)) (ht : (pc : Int) + off = (tgt : Int)) (kt : x ≠ y → W p l e R s m args below meth c H locs cells slots Q (F0 m tgt ls rest)) (kf : x = y → W p l e R s m args below meth c H locs cells slots Q (F0 m (pc + 3) ls rest)) : W p l e R s m args below meth c H locs cells slots Q (F0 m pc ls (.int (pn_b y) :: .int (pn_b x) :: rest)) :=
  lv_icmp_ne hexec hb hdg ht (fun z => kt (fun h => z (by rw [h]))) (fun z => kf (pn_b_inj.mp z))
/-! ends -/
theorem pn_reti {S : Type} {post : Int32 → S → Prop} {wf : S → va_W} {w0 : va_W} {sz : Nat} {v : Int32} (u : S) (Fx : CallFix p m c cc nL s args pn_all own) (hr : meth.sig.returnType = some .int) (hlocks : meth.locks = false) (hQ : Q = MQ below (va_Qi post (fun u t => pn_post D (va_A w0 sz) (wf u) t) (va_A w0 sz)) args s 0 0 (va_A w0 sz)) (hAe : A = va_A w0 sz) (hP : va_P D pn_cl (wf u) H) (hD : va_D A (wf u)) (hS : va_S A s.heap H locs) (hp : post v u) (hdg : decode cc pc = .ok (.ireturn, 1)) :
    W p l e R s m args below meth c H locs 0 0 Q (F0 m pc ls [.int v]) := by
  subst hQ; subst hAe
  exact W.iret Fx.1 Fx.2.1 hr (fun t ht hW => ⟨⟨v, u, rfl, hp, by rw [ht]; exact hP, hD⟩, hS.F ht⟩) hS.2.2 hdg hlocks
theorem pn_retz {S : Type} {post : Int32 → S → Prop} {wf : S → va_W} {w0 : va_W} {sz : Nat} {v : Int32} {ty : FieldType} (u : S) (Fx : CallFix p m c cc nL s args pn_all own) (hr : meth.sig.returnType = some ty) (hn : narrow ty (.int v) = .int v) (hlocks : meth.locks = false) (hQ : Q = MQ below (va_Qi post (fun u t => pn_post D (va_A w0 sz) (wf u) t) (va_A w0 sz)) args s 0 0 (va_A w0 sz)) (hAe : A = va_A w0 sz) (hP : va_P D pn_cl (wf u) H) (hD : va_D A (wf u)) (hS : va_S A s.heap H locs) (hp : post v u) (hdg : decode cc pc = .ok (.ireturn, 1)) :
    W p l e R s m args below meth c H locs 0 0 Q (F0 m pc ls [.int v]) := by
  subst hQ; subst hAe
  exact W.zret Fx.1 Fx.2.1 hr hn (fun t ht hW => ⟨⟨v, u, rfl, hp, by rw [ht]; exact hP, hD⟩, hS.F ht⟩) hS.2.2 hdg hlocks
theorem pn_retl {S : Type} {post : Int64 → S → Prop} {wf : S → va_W} {w0 : va_W} {sz : Nat} {v : Int64} (u : S) (Fx : CallFix p m c cc nL s args pn_all own) (hr : meth.sig.returnType = some .long) (hlocks : meth.locks = false) (hQ : Q = MQ below (va_Ql post (fun u t => pn_post D (va_A w0 sz) (wf u) t) (va_A w0 sz)) args s 0 0 (va_A w0 sz)) (hAe : A = va_A w0 sz) (hP : va_P D pn_cl (wf u) H) (hD : va_D A (wf u)) (hS : va_S A s.heap H locs) (hp : post v u) (hdg : decode cc pc = .ok (.lreturn, 1)) :
    W p l e R s m args below meth c H locs 0 0 Q (F0 m pc ls [.long v]) := by
  subst hQ; subst hAe
  exact W.lret Fx.1 Fx.2.1 hr (fun t ht hW => ⟨⟨v, u, rfl, hp, by rw [ht]; exact hP, hD⟩, hS.F ht⟩) hS.2.2 hdg hlocks
theorem pn_retv {S : Type} {post : S → Prop} {wf : S → va_W} {w0 : va_W} {sz : Nat} (u : S) (Fx : CallFix p m c cc nL s args pn_all own) (hr : meth.sig.returnType = none) (hlocks : meth.locks = false) (hQ : Q = MQ below (va_Qv post (fun u t => pn_post D (va_A w0 sz) (wf u) t) (va_A w0 sz)) args s 0 0 (va_A w0 sz)) (hAe : A = va_A w0 sz) (hP : va_P D pn_cl (wf u) H) (hD : va_D A (wf u)) (hS : va_S A s.heap H locs) (hp : post u) (hdg : decode cc pc = .ok (.return_, 1)) :
    W p l e R s m args below meth c H locs 0 0 Q (F0 m pc ls []) := by
  subst hQ; subst hAe
  exact W.vret Fx.1 Fx.2.1 hr (fun t ht hW => ⟨⟨u, rfl, hp, by rw [ht]; exact hP, hD⟩, hS.F ht⟩) hS.2.2 hdg hlocks
end PnWalk
