abbrev b_J_nlz : ByteArray := prog_13_method_47_code
def y_J_nlz : MethodName := ⟨"java/lang/Integer", "numberOfLeadingZeros", "(I)I"⟩
def w_J_nlz : List Cond := Cond.code y_J_nlz b_J_nlz 2 (some .int) :: pn_all
theorem cal_J_nlz : pn_cal y_J_nlz b_J_nlz 2 (some .int) 1 := ⟨kw_240, kw_11, by decide, by decide, by decide +kernel⟩
theorem stat_J_nlz : Cond.static y_J_nlz ∈ pn_all := kw_239
theorem d_J_nlz_0 : decode b_J_nlz 0 = .ok (.iload_n 0, 1) := by decide +kernel
theorem d_J_nlz_1 : decode b_J_nlz 1 = .ok (.ifCond .gt 14, 3) := by decide +kernel
theorem d_J_nlz_4 : decode b_J_nlz 4 = .ok (.iload_n 0, 1) := by decide +kernel
theorem d_J_nlz_5 : decode b_J_nlz 5 = .ok (.ifCond .ne 8, 3) := by decide +kernel
theorem d_J_nlz_8 : decode b_J_nlz 8 = .ok (.bipush 32, 2) := by decide +kernel
theorem d_J_nlz_10 : decode b_J_nlz 10 = .ok (.goto 4, 3) := by decide +kernel
theorem d_J_nlz_13 : decode b_J_nlz 13 = .ok (.iconst 0, 1) := by decide +kernel
theorem d_J_nlz_14 : decode b_J_nlz 14 = .ok (.ireturn, 1) := by decide +kernel
theorem d_J_nlz_15 : decode b_J_nlz 15 = .ok (.bipush 31, 2) := by decide +kernel
theorem d_J_nlz_17 : decode b_J_nlz 17 = .ok (.istore_n 1, 1) := by decide +kernel
theorem d_J_nlz_18 : decode b_J_nlz 18 = .ok (.iload_n 0, 1) := by decide +kernel
theorem d_J_nlz_19 : decode b_J_nlz 19 = .ok (.ldc_w 264, 3) := by decide +kernel
theorem d_J_nlz_22 : decode b_J_nlz 22 = .ok (.if_icmp .lt 11, 3) := by decide +kernel
theorem d_J_nlz_25 : decode b_J_nlz 25 = .ok (.iinc 1 (-16), 3) := by decide +kernel
theorem d_J_nlz_28 : decode b_J_nlz 28 = .ok (.iload_n 0, 1) := by decide +kernel
theorem d_J_nlz_29 : decode b_J_nlz 29 = .ok (.bipush 16, 2) := by decide +kernel
theorem d_J_nlz_31 : decode b_J_nlz 31 = .ok (.iushr, 1) := by decide +kernel
theorem d_J_nlz_32 : decode b_J_nlz 32 = .ok (.istore_n 0, 1) := by decide +kernel
theorem d_J_nlz_33 : decode b_J_nlz 33 = .ok (.iload_n 0, 1) := by decide +kernel
theorem d_J_nlz_34 : decode b_J_nlz 34 = .ok (.sipush 256, 3) := by decide +kernel
theorem d_J_nlz_37 : decode b_J_nlz 37 = .ok (.if_icmp .lt 11, 3) := by decide +kernel
theorem d_J_nlz_40 : decode b_J_nlz 40 = .ok (.iinc 1 (-8), 3) := by decide +kernel
theorem d_J_nlz_43 : decode b_J_nlz 43 = .ok (.iload_n 0, 1) := by decide +kernel
theorem d_J_nlz_44 : decode b_J_nlz 44 = .ok (.bipush 8, 2) := by decide +kernel
theorem d_J_nlz_46 : decode b_J_nlz 46 = .ok (.iushr, 1) := by decide +kernel
theorem d_J_nlz_47 : decode b_J_nlz 47 = .ok (.istore_n 0, 1) := by decide +kernel
theorem d_J_nlz_48 : decode b_J_nlz 48 = .ok (.iload_n 0, 1) := by decide +kernel
theorem d_J_nlz_49 : decode b_J_nlz 49 = .ok (.bipush 16, 2) := by decide +kernel
theorem d_J_nlz_51 : decode b_J_nlz 51 = .ok (.if_icmp .lt 10, 3) := by decide +kernel
theorem d_J_nlz_54 : decode b_J_nlz 54 = .ok (.iinc 1 (-4), 3) := by decide +kernel
theorem d_J_nlz_57 : decode b_J_nlz 57 = .ok (.iload_n 0, 1) := by decide +kernel
theorem d_J_nlz_58 : decode b_J_nlz 58 = .ok (.iconst 4, 1) := by decide +kernel
theorem d_J_nlz_59 : decode b_J_nlz 59 = .ok (.iushr, 1) := by decide +kernel
theorem d_J_nlz_60 : decode b_J_nlz 60 = .ok (.istore_n 0, 1) := by decide +kernel
theorem d_J_nlz_61 : decode b_J_nlz 61 = .ok (.iload_n 0, 1) := by decide +kernel
theorem d_J_nlz_62 : decode b_J_nlz 62 = .ok (.iconst 4, 1) := by decide +kernel
theorem d_J_nlz_63 : decode b_J_nlz 63 = .ok (.if_icmp .lt 10, 3) := by decide +kernel
theorem d_J_nlz_66 : decode b_J_nlz 66 = .ok (.iinc 1 (-2), 3) := by decide +kernel
theorem d_J_nlz_69 : decode b_J_nlz 69 = .ok (.iload_n 0, 1) := by decide +kernel
theorem d_J_nlz_70 : decode b_J_nlz 70 = .ok (.iconst 2, 1) := by decide +kernel
theorem d_J_nlz_71 : decode b_J_nlz 71 = .ok (.iushr, 1) := by decide +kernel
theorem d_J_nlz_72 : decode b_J_nlz 72 = .ok (.istore_n 0, 1) := by decide +kernel
theorem d_J_nlz_73 : decode b_J_nlz 73 = .ok (.iload_n 1, 1) := by decide +kernel
theorem d_J_nlz_74 : decode b_J_nlz 74 = .ok (.iload_n 0, 1) := by decide +kernel
theorem d_J_nlz_75 : decode b_J_nlz 75 = .ok (.iconst 1, 1) := by decide +kernel
theorem d_J_nlz_76 : decode b_J_nlz 76 = .ok (.iushr, 1) := by decide +kernel
theorem d_J_nlz_77 : decode b_J_nlz 77 = .ok (.isub, 1) := by decide +kernel
theorem d_J_nlz_78 : decode b_J_nlz 78 = .ok (.ireturn, 1) := by decide +kernel
section PnCopy
variable {p : Program} {l : Launch} {e : Env} {R : Room} {s : State} {m : MethodId} {args : Array Value} {below : List Frame} {meth : Method} {c : Code} {H : Heap} {locs : List Loc} {cells slots : Nat} {Q : State → Prop}
variable {cc : ByteArray} {pc nL index : Nat} {ls : Array Slot} {rest : List Value} {own : String} {a a0 : Nat} {D : va_G} {tys : List (ClassId × FieldType)} {w w' : va_W} {A : Nat → Prop} {H0 : Heap}
theorem pw_copy (Fx : CallFix p m c cc nL s args pn_all own) (hsz : ls.size = nL) (kl : Cond.methodLink own index arraycopyName ∈ pn_all) (kn : Cond.native arraycopyName ∈ pn_all) (ks : Cond.static arraycopyName ∈ pn_all) (ki : Cond.initialized "java/lang/System" ∈ pn_all) (hK : va_K D pn_cl tys s) (hP : va_P D pn_cl w H) (hD : va_D A w) (hS : va_S A H0 H locs) (q0 q1 t0 : Nat) {c0 c1 : ClassId} {n0 n1 : Nat} {f g : Nat → Int32} (ha0 : w[q0]? = some (a0, .inl (c0, n0, .inl f))) (ha1 : w[q1]? = some (a, .inl (c1, n1, .inl g))) (ht0 : tys[t0]? = some (c0, .int)) (ht1 : tys[t0]? = some (c1, .int))
    {sp dp n : Nat} (h4 : sp + n ≤ n0) (h5 : dp + n ≤ n1) (hn0 : n0 < 2 ^ 31) (hn1 : n1 < 2 ^ 31) (hframes : 1 ≤ R.frames) (hlocals : (rest.map fun v => v.category).sum + (nativeFrameWords "java/lang/System" "arraycopy" 5 + 11) ≤ R.locals) (hw : w.set q1 (a, .inl (c1, n1, .inl (va_cpy f g sp dp n))) = w') (hdg : decode cc pc = .ok (.invokestatic index, 3))
    (kk : ∀ (H1 : Heap) (locs1 : List Loc), va_P D pn_cl w' H1 → va_D A w' → va_S A H0 H1 locs1 → W p l e R s m args below meth c H1 locs1 cells slots Q (F0 m (pc + 3) ls rest)) : W p l e R s m args below meth c H locs cells slots Q (F0 m pc ls (.int (nI n) :: .int (nI dp) :: .ref a :: .int (nI sp) :: .ref a0 :: rest)) := by
  subst hw
  have e1 := nI_clamp (n := sp) (by omega)
  have e2 := nI_clamp (n := dp) (by omega)
  have e3 := nI_clamp (n := n) (by omega)
  refine va_copyi Fx.1 Fx.2.1 (Fx.2.2.1.trans hsz.symm) Fx.2.2.2.1 (Fx.2.2.2.2 _ kl) (Fx.2.2.2.2 _ kn) (Fx.2.2.2.2 _ ks) (Fx.2.2.2.2 _ ki) hK hP hD hS q0 q1 t0 t0 (f := f) (g := g) ha0 ha1 ht0 ht1 rfl (nI_pos (by omega)) (nI_pos (by omega)) (nI_pos (by omega)) (by rw [e1, e3]; exact h4) (by rw [e2, e3]; exact h5) (fun i _ => rfl) hframes hlocals hdg ?_
  rw [e1, e2, e3]
  exact kk
end PnCopy
section PnIfl
variable {p : Program} {l : Launch} {e : Env} {R : Room} {s : State} {m : MethodId} {args : Array Value} {below : List Frame} {meth : Method} {c : Code} {H : Heap} {locs : List Loc} {cells slots : Nat} {Q : State → Prop} {cc : ByteArray} {pc : Nat} {ls : Array Slot} {rest : List Value}
theorem pw_ifl_eq (hexec : p.tables.exec = Jvm.exec) (hb : c.code = cc) {a b : Int} {off : Int} {tgt : Nat} (hdg : decode cc pc = .ok (.ifCond .eq off, 3)) (ht : (pc : Int) + off = (tgt : Int)) (ha0 : -9223372036854775808 ≤ a) (ha1 : a < 9223372036854775808) (hb0 : -9223372036854775808 ≤ b) (hb1 : b < 9223372036854775808) (kt : a = b → W p l e R s m args below meth c H locs cells slots Q (F0 m tgt ls rest)) (kf : a ≠ b → W p l e R s m args below meth c H locs cells slots Q (F0 m (pc + 3) ls rest)) : W p l e R s m args below meth c H locs cells slots Q (F0 m pc ls (.int (lg_cmp (pn_L a) (pn_L b)) :: rest)) := lv_if_eq hexec hb hdg ht (fun z => kt ((pn_L_eq ha0 ha1 hb0 hb1).mp ((lg_cmp_eq _ _).mp z))) (fun z => kf (fun y => z ((lg_cmp_eq _ _).mpr ((pn_L_eq ha0 ha1 hb0 hb1).mpr y))))
theorem pw_ifl_ne (hexec : p.tables.exec = Jvm.exec) (hb : c.code = cc) {a b : Int} {off : Int} {tgt : Nat} (hdg : decode cc pc = .ok (.ifCond .ne off, 3)) (ht : (pc : Int) + off = (tgt : Int)) (ha0 : -9223372036854775808 ≤ a) (ha1 : a < 9223372036854775808) (hb0 : -9223372036854775808 ≤ b) (hb1 : b < 9223372036854775808) (kt : a ≠ b → W p l e R s m args below meth c H locs cells slots Q (F0 m tgt ls rest)) (kf : a = b → W p l e R s m args below meth c H locs cells slots Q (F0 m (pc + 3) ls rest)) : W p l e R s m args below meth c H locs cells slots Q (F0 m pc ls (.int (lg_cmp (pn_L a) (pn_L b)) :: rest)) := lv_if_ne hexec hb hdg ht (fun z => kt (fun y => z ((lg_cmp_eq _ _).mpr ((pn_L_eq ha0 ha1 hb0 hb1).mpr y)))) (fun z => kf ((pn_L_eq ha0 ha1 hb0 hb1).mp ((lg_cmp_eq _ _).mp z)))
theorem pw_ifl_lt (hexec : p.tables.exec = Jvm.exec) (hb : c.code = cc) {a b : Int} {off : Int} {tgt : Nat} (hdg : decode cc pc = .ok (.ifCond .lt off, 3)) (ht : (pc : Int) + off = (tgt : Int)) (ha0 : -9223372036854775808 ≤ a) (ha1 : a < 9223372036854775808) (hb0 : -9223372036854775808 ≤ b) (hb1 : b < 9223372036854775808) (kt : a < b → W p l e R s m args below meth c H locs cells slots Q (F0 m tgt ls rest)) (kf : b ≤ a → W p l e R s m args below meth c H locs cells slots Q (F0 m (pc + 3) ls rest)) : W p l e R s m args below meth c H locs cells slots Q (F0 m pc ls (.int (lg_cmp (pn_L a) (pn_L b)) :: rest)) := lv_if_lt hexec hb hdg ht (fun z => kt ((pn_L_lt ha0 ha1 hb0 hb1).mp ((lg_cmp_lt _ _).mp z))) (fun z => kf (Int.not_lt.mp (fun y => z ((lg_cmp_lt _ _).mpr ((pn_L_lt ha0 ha1 hb0 hb1).mpr y)))))
theorem pw_ifl_ge (hexec : p.tables.exec = Jvm.exec) (hb : c.code = cc) {a b : Int} {off : Int} {tgt : Nat} (hdg : decode cc pc = .ok (.ifCond .ge off, 3)) (ht : (pc : Int) + off = (tgt : Int)) (ha0 : -9223372036854775808 ≤ a) (ha1 : a < 9223372036854775808) (hb0 : -9223372036854775808 ≤ b) (hb1 : b < 9223372036854775808) (kt : b ≤ a → W p l e R s m args below meth c H locs cells slots Q (F0 m tgt ls rest)) (kf : a < b → W p l e R s m args below meth c H locs cells slots Q (F0 m (pc + 3) ls rest)) : W p l e R s m args below meth c H locs cells slots Q (F0 m pc ls (.int (lg_cmp (pn_L a) (pn_L b)) :: rest)) := lv_if_ge hexec hb hdg ht (fun z => kt ((pn_L_le hb0 hb1 ha0 ha1).mp ((lg_cmp_ge _ _).mp z))) (fun z => kf (Int.not_le.mp (fun y => z ((lg_cmp_ge _ _).mpr ((pn_L_le hb0 hb1 ha0 ha1).mpr y)))))
theorem pw_ifl_gt (hexec : p.tables.exec = Jvm.exec) (hb : c.code = cc) {a b : Int} {off : Int} {tgt : Nat} (hdg : decode cc pc = .ok (.ifCond .gt off, 3)) (ht : (pc : Int) + off = (tgt : Int)) (ha0 : -9223372036854775808 ≤ a) (ha1 : a < 9223372036854775808) (hb0 : -9223372036854775808 ≤ b) (hb1 : b < 9223372036854775808) (kt : b < a → W p l e R s m args below meth c H locs cells slots Q (F0 m tgt ls rest)) (kf : a ≤ b → W p l e R s m args below meth c H locs cells slots Q (F0 m (pc + 3) ls rest)) : W p l e R s m args below meth c H locs cells slots Q (F0 m pc ls (.int (lg_cmp (pn_L a) (pn_L b)) :: rest)) := lv_if_gt hexec hb hdg ht (fun z => kt ((pn_L_lt hb0 hb1 ha0 ha1).mp ((lg_cmp_gt _ _).mp z))) (fun z => kf (Int.not_lt.mp (fun y => z ((lg_cmp_gt _ _).mpr ((pn_L_lt hb0 hb1 ha0 ha1).mpr y)))))
theorem pw_ifl_le (hexec : p.tables.exec = Jvm.exec) (hb : c.code = cc) {a b : Int} {off : Int} {tgt : Nat} (hdg : decode cc pc = .ok (.ifCond .le off, 3)) (ht : (pc : Int) + off = (tgt : Int)) (ha0 : -9223372036854775808 ≤ a) (ha1 : a < 9223372036854775808) (hb0 : -9223372036854775808 ≤ b) (hb1 : b < 9223372036854775808) (kt : a ≤ b → W p l e R s m args below meth c H locs cells slots Q (F0 m tgt ls rest)) (kf : b < a → W p l e R s m args below meth c H locs cells slots Q (F0 m (pc + 3) ls rest)) : W p l e R s m args below meth c H locs cells slots Q (F0 m pc ls (.int (lg_cmp (pn_L a) (pn_L b)) :: rest)) := lv_if_le hexec hb hdg ht (fun z => kt ((pn_L_le ha0 ha1 hb0 hb1).mp ((lg_cmp_le _ _).mp z))) (fun z => kf (Int.not_le.mp (fun y => z ((lg_cmp_le _ _).mpr ((pn_L_le ha0 ha1 hb0 hb1).mpr y)))))
end PnIfl
theorem kx_max : Cond.code Lib.Math.max.name Lib.Math.max.code 2 (some .int) ∈ pn_all := kw_360
theorem kx_maxS : Cond.static Lib.Math.max.name ∈ pn_all := kw_359
theorem kx_abs : Cond.code Lib.MathLoose.abs_long.x Lib.MathLoose.abs_long.code 2 (some .long) ∈ pn_all := kw_557
theorem kx_absS : Cond.static Lib.MathLoose.abs_long.x ∈ pn_all := kw_556
theorem kx_math : Cond.initialized "java/lang/Math" ∈ pn_all := kw_14
section PnMath
variable {p : Program} {l : Launch} {e : Env} {R : Room} {s : State} {m : MethodId} {args : Array Value} {below : List Frame} {meth : Method} {c : Code} {H : Heap} {locs : List Loc} {cells slots : Nat} {Q : State → Prop} {cc : ByteArray} {pc nL index : Nat} {ls : Array Slot} {rest : List Value} {own : String}
theorem pw_max (Fx : CallFix p m c cc nL s args pn_all own) (hsz : ls.size = nL) (kl : Cond.methodLink own index Lib.Math.max.name ∈ pn_all) {a b : Nat} (ha : a < 2 ^ 31) (hb1 : b < 2 ^ 31) (hframes : 1 ≤ R.frames) (hlocals : (rest.map fun v => v.category).sum + 13 ≤ R.locals) (hc : cells ≤ R.cells ∧ slots ≤ R.slots) (hdg : decode cc pc = .ok (.invokestatic index, 3))
    (kk : W p l e R s m args below meth c H locs cells slots Q (F0 m (pc + 3) ls (.int (nI (max a b)) :: rest))) : W p l e R s m args below meth c H locs cells slots Q (F0 m pc ls (.int (nI b) :: .int (nI a) :: rest)) := by
  refine va_mmax Fx.1 Fx.2.1 (Fx.2.2.1.trans hsz.symm) Fx.2.2.2.1 (Fx.2.2.2.2 _ kl) (Fx.2.2.2.2 _ kx_maxS) (Fx.2.2.2.2 _ kx_math) (Fx.2.2.2.2 _ kx_max) hframes hlocals hc.1 hc.2 hdg ?_
  have e : (if nI a < nI b then nI b else nI a) = nI (max a b) := by
    by_cases h : a < b
    · rw [if_pos ((nI_ltI ha hb1).mpr h), Nat.max_eq_right (by omega)]
    · rw [if_neg (fun z => h ((nI_ltI ha hb1).mp z)), Nat.max_eq_left (by omega)]
  rw [e]
  exact kk
theorem pw_labs (Fx : CallFix p m c cc nL s args pn_all own) (hsz : ls.size = nL) (kl : Cond.methodLink own index Lib.MathLoose.abs_long.x ∈ pn_all) {z : Int} (hz0 : -9223372036854775808 < z) (hz1 : z < 9223372036854775808) (hframes : 1 ≤ R.frames) (hlocals : (rest.map fun v => v.category).sum + 13 ≤ R.locals) (hc : cells ≤ R.cells ∧ slots ≤ R.slots) (hdg : decode cc pc = .ok (.invokestatic index, 3))
    (kk : W p l e R s m args below meth c H locs cells slots Q (F0 m (pc + 3) ls (.long (pn_L (z.natAbs : Int)) :: rest))) : W p l e R s m args below meth c H locs cells slots Q (F0 m pc ls (.long (pn_L z) :: rest)) := by
  refine va_mabs_long Fx.1 Fx.2.1 (Fx.2.2.1.trans hsz.symm) Fx.2.2.2.1 (Fx.2.2.2.2 _ kl) (Fx.2.2.2.2 _ kx_absS) (Fx.2.2.2.2 _ kx_math) (Fx.2.2.2.2 _ kx_abs) hframes hlocals hc.1 hc.2 hdg ?_
  have e : (if 0 < pn_L z then pn_L z else -pn_L z) = pn_L (z.natAbs : Int) := by
    have e0 : (0 : Int64) = pn_L 0 := by decide
    by_cases h : 0 < z
    · rw [if_pos (by rw [e0]; exact (pn_L_lt (by omega) (by omega) (by omega) (by omega)).mpr h), show (z.natAbs : Int) = z by omega]
    · rw [if_neg (fun y => h ((pn_L_lt (by omega) (by omega) (by omega) (by omega)).mp (by rw [e0] at y; exact y))), pn_L_neg, show (z.natAbs : Int) = -z by omega]
  rw [e]
  exact kk
end PnMath
