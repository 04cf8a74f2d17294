theorem pm_I_tdiv {a : Int} {d : Nat} (h0 : -2147483648 ≤ a) (h1 : a < 2147483648) (hd0 : 0 < d) (hd : d < 2 ^ 31) : pn_I a / nI d = pn_I (a.tdiv (d : Int)) := by
  have m1 : Int32.minValue.toInt = -2147483648 := by decide
  have m2 : Int32.maxValue.toInt = 2147483647 := by decide
  have h := Int32.ofInt_tdiv (a := a) (b := (d : Int)) (by rw [m1]; omega) (by rw [m2]; omega) (by rw [m1]; omega) (by rw [m2]; omega)
  rw [← pn_I_nI]; exact h.symm
theorem pm_I_tmod {a : Int} {d : Nat} (h0 : -2147483648 ≤ a) (h1 : a < 2147483648) (hd0 : 0 < d) (hd : d < 2 ^ 31) : pn_I a - pn_I a / nI d * nI d = pn_I (a.tmod (d : Int)) := by
  rw [pm_I_tdiv h0 h1 hd0 hd, ← pn_I_nI, pn_I_mul, pn_I_sub, Int.tmod_def, Int.mul_comm]
theorem pm_L_tdiv {a b : Int} (h0 : -9223372036854775808 ≤ a) (h1 : a < 9223372036854775808) (hd0 : 0 < b) (hd : b < 9223372036854775808) : pn_L a / pn_L b = pn_L (a.tdiv b) := by
  have m1 : Int64.minValue.toInt = -9223372036854775808 := by decide
  have m2 : Int64.maxValue.toInt = 9223372036854775807 := by decide
  exact (Int64.ofInt_tdiv (a := a) (b := b) (by rw [m1]; omega) (by rw [m2]; omega) (by rw [m1]; omega) (by rw [m2]; omega)).symm
theorem pm_L_tmod {a b : Int} (h0 : -9223372036854775808 ≤ a) (h1 : a < 9223372036854775808) (hd0 : 0 < b) (hd : b < 9223372036854775808) : pn_L a - pn_L a / pn_L b * pn_L b = pn_L (a.tmod b) := by
  rw [pm_L_tdiv h0 h1 hd0 hd, pn_L_mul, pn_L_sub, Int.tmod_def, Int.mul_comm]
theorem pm_L_mod {a b : Int} (h0 : 0 ≤ a) (h1 : a < 9223372036854775808) (hd0 : 0 < b) (hd : b < 9223372036854775808) : pn_L a - pn_L a / pn_L b * pn_L b = pn_L (a % b) := by
  rw [pm_L_tmod (by omega) h1 hd0 hd, Int.tmod_eq_emod_of_nonneg h0]
theorem pm_shr {a k : Nat} (ha : a < 2 ^ 31) (hk : k < 32) : nI a >>> (nI k &&& 31) = nI (a / 2 ^ k) := by
  have h : ∀ j : Fin 32, ((nI j.val &&& 31).toBitVec.smod 32).toNat = j.val := by decide
  exact pk_shrN ha _ k (h ⟨k, hk⟩)
theorem pm_Lne {b : Int} (h0 : 0 < b) (h1 : b < 9223372036854775808) : ¬ pn_L b = 0 := fun z => by have := (pn_L_eq (a := b) (b := 0) (by omega) h1 (by omega) (by omega)).mp z; omega

section PmRows
variable {p : Program} {l : Launch} {e : Env} {R : Room} {s : State} {m : MethodId} {args : Array Value} {below : List Frame} {meth : Method} {c : Code} {H : Heap} {locs : List Loc} {cells slots : Nat} {Q : State → Prop}
variable {cc : ByteArray} {pc : Nat} {ls : Array Slot} {rest : List Value}

theorem pw_imul (hexec : p.tables.exec = Jvm.exec) (hb : c.code = cc) {a b : Nat} (hdg : decode cc pc = .ok (.imul, 1)) 
    (k : W p l e R s m args below meth c H locs cells slots Q (F0 m (pc + 1) ls (.int (nI (a * b)) :: rest))) : W p l e R s m args below meth c H locs cells slots Q (F0 m pc ls (.int (nI b) :: .int (nI a) :: rest)) := lv_imul hexec hb hdg (by rw [pk_mul]; exact k)

theorem pw_idiv (hexec : p.tables.exec = Jvm.exec) (hb : c.code = cc) {a b : Nat} (hdg : decode cc pc = .ok (.idiv, 1)) (ha : a < 2 ^ 31) (hb0 : 0 < b) (hb1 : b < 2 ^ 31)
    (k : W p l e R s m args below meth c H locs cells slots Q (F0 m (pc + 1) ls (.int (nI (a / b)) :: rest))) : W p l e R s m args below meth c H locs cells slots Q (F0 m pc ls (.int (nI b) :: .int (nI a) :: rest)) := lv_idiv hexec hb hdg (nI_ne0 hb0 hb1) (by rw [pk_div ha hb0 hb1]; exact k)

theorem pw_irem (hexec : p.tables.exec = Jvm.exec) (hb : c.code = cc) {a b : Nat} (hdg : decode cc pc = .ok (.irem, 1)) (ha : a < 2 ^ 31) (hb0 : 0 < b) (hb1 : b < 2 ^ 31)
    (k : W p l e R s m args below meth c H locs cells slots Q (F0 m (pc + 1) ls (.int (nI (a % b)) :: rest))) : W p l e R s m args below meth c H locs cells slots Q (F0 m pc ls (.int (nI b) :: .int (nI a) :: rest)) := lv_irem hexec hb hdg (nI_ne0 hb0 hb1) (by rw [pk_rem ha hb0 hb1]; exact k)

theorem pw_idivZ (hexec : p.tables.exec = Jvm.exec) (hb : c.code = cc) {a : Int} {b : Nat} (hdg : decode cc pc = .ok (.idiv, 1)) (h0 : -2147483648 ≤ a) (h1 : a < 2147483648) (hb0 : 0 < b) (hb1 : b < 2 ^ 31)
    (k : W p l e R s m args below meth c H locs cells slots Q (F0 m (pc + 1) ls (.int (pn_I (a.tdiv (b : Int))) :: rest))) : W p l e R s m args below meth c H locs cells slots Q (F0 m pc ls (.int (nI b) :: .int (pn_I a) :: rest)) := lv_idiv hexec hb hdg (nI_ne0 hb0 hb1) (by rw [pm_I_tdiv h0 h1 hb0 hb1]; exact k)

theorem pw_iremZ (hexec : p.tables.exec = Jvm.exec) (hb : c.code = cc) {a : Int} {b : Nat} (hdg : decode cc pc = .ok (.irem, 1)) (h0 : -2147483648 ≤ a) (h1 : a < 2147483648) (hb0 : 0 < b) (hb1 : b < 2 ^ 31)
    (k : W p l e R s m args below meth c H locs cells slots Q (F0 m (pc + 1) ls (.int (pn_I (a.tmod (b : Int))) :: rest))) : W p l e R s m args below meth c H locs cells slots Q (F0 m pc ls (.int (nI b) :: .int (pn_I a) :: rest)) := lv_irem hexec hb hdg (nI_ne0 hb0 hb1) (by rw [pm_I_tmod h0 h1 hb0 hb1]; exact k)

theorem pw_iaddNN (hexec : p.tables.exec = Jvm.exec) (hb : c.code = cc) {a : Nat} {b : Nat} (hdg : decode cc pc = .ok (.iadd, 1)) 
    (k : W p l e R s m args below meth c H locs cells slots Q (F0 m (pc + 1) ls (.int (pn_I (((a : Nat) : Int) + ((b : Nat) : Int))) :: rest))) : W p l e R s m args below meth c H locs cells slots Q (F0 m pc ls (.int (nI b) :: .int (nI a) :: rest)) := lv_iadd hexec hb hdg (by rw [← pn_I_nI a, ← pn_I_nI b, pn_I_add]; exact k)

theorem pw_iaddNZ (hexec : p.tables.exec = Jvm.exec) (hb : c.code = cc) {a : Nat} {b : Int} (hdg : decode cc pc = .ok (.iadd, 1)) 
    (k : W p l e R s m args below meth c H locs cells slots Q (F0 m (pc + 1) ls (.int (pn_I (((a : Nat) : Int) + b)) :: rest))) : W p l e R s m args below meth c H locs cells slots Q (F0 m pc ls (.int (pn_I b) :: .int (nI a) :: rest)) := lv_iadd hexec hb hdg (by rw [← pn_I_nI a, pn_I_add]; exact k)

theorem pw_iaddZN (hexec : p.tables.exec = Jvm.exec) (hb : c.code = cc) {a : Int} {b : Nat} (hdg : decode cc pc = .ok (.iadd, 1)) 
    (k : W p l e R s m args below meth c H locs cells slots Q (F0 m (pc + 1) ls (.int (pn_I (a + ((b : Nat) : Int))) :: rest))) : W p l e R s m args below meth c H locs cells slots Q (F0 m pc ls (.int (nI b) :: .int (pn_I a) :: rest)) := lv_iadd hexec hb hdg (by rw [← pn_I_nI b, pn_I_add]; exact k)

theorem pw_iaddZZ (hexec : p.tables.exec = Jvm.exec) (hb : c.code = cc) {a : Int} {b : Int} (hdg : decode cc pc = .ok (.iadd, 1)) 
    (k : W p l e R s m args below meth c H locs cells slots Q (F0 m (pc + 1) ls (.int (pn_I (a + b)) :: rest))) : W p l e R s m args below meth c H locs cells slots Q (F0 m pc ls (.int (pn_I b) :: .int (pn_I a) :: rest)) := lv_iadd hexec hb hdg (by rw [pn_I_add]; exact k)

theorem pw_isubNN (hexec : p.tables.exec = Jvm.exec) (hb : c.code = cc) {a : Nat} {b : Nat} (hdg : decode cc pc = .ok (.isub, 1)) 
    (k : W p l e R s m args below meth c H locs cells slots Q (F0 m (pc + 1) ls (.int (pn_I (((a : Nat) : Int) - ((b : Nat) : Int))) :: rest))) : W p l e R s m args below meth c H locs cells slots Q (F0 m pc ls (.int (nI b) :: .int (nI a) :: rest)) := lv_isub hexec hb hdg (by rw [← pn_I_nI a, ← pn_I_nI b, pn_I_sub]; exact k)

theorem pw_isubNZ (hexec : p.tables.exec = Jvm.exec) (hb : c.code = cc) {a : Nat} {b : Int} (hdg : decode cc pc = .ok (.isub, 1)) 
    (k : W p l e R s m args below meth c H locs cells slots Q (F0 m (pc + 1) ls (.int (pn_I (((a : Nat) : Int) - b)) :: rest))) : W p l e R s m args below meth c H locs cells slots Q (F0 m pc ls (.int (pn_I b) :: .int (nI a) :: rest)) := lv_isub hexec hb hdg (by rw [← pn_I_nI a, pn_I_sub]; exact k)

theorem pw_isubZN (hexec : p.tables.exec = Jvm.exec) (hb : c.code = cc) {a : Int} {b : Nat} (hdg : decode cc pc = .ok (.isub, 1)) 
    (k : W p l e R s m args below meth c H locs cells slots Q (F0 m (pc + 1) ls (.int (pn_I (a - ((b : Nat) : Int))) :: rest))) : W p l e R s m args below meth c H locs cells slots Q (F0 m pc ls (.int (nI b) :: .int (pn_I a) :: rest)) := lv_isub hexec hb hdg (by rw [← pn_I_nI b, pn_I_sub]; exact k)

theorem pw_isubZZ (hexec : p.tables.exec = Jvm.exec) (hb : c.code = cc) {a : Int} {b : Int} (hdg : decode cc pc = .ok (.isub, 1)) 
    (k : W p l e R s m args below meth c H locs cells slots Q (F0 m (pc + 1) ls (.int (pn_I (a - b)) :: rest))) : W p l e R s m args below meth c H locs cells slots Q (F0 m pc ls (.int (pn_I b) :: .int (pn_I a) :: rest)) := lv_isub hexec hb hdg (by rw [pn_I_sub]; exact k)

theorem pw_imulNN (hexec : p.tables.exec = Jvm.exec) (hb : c.code = cc) {a : Nat} {b : Nat} (hdg : decode cc pc = .ok (.imul, 1)) 
    (k : W p l e R s m args below meth c H locs cells slots Q (F0 m (pc + 1) ls (.int (pn_I (((a : Nat) : Int) * ((b : Nat) : Int))) :: rest))) : W p l e R s m args below meth c H locs cells slots Q (F0 m pc ls (.int (nI b) :: .int (nI a) :: rest)) := lv_imul hexec hb hdg (by rw [← pn_I_nI a, ← pn_I_nI b, pn_I_mul]; exact k)

theorem pw_imulNZ (hexec : p.tables.exec = Jvm.exec) (hb : c.code = cc) {a : Nat} {b : Int} (hdg : decode cc pc = .ok (.imul, 1)) 
    (k : W p l e R s m args below meth c H locs cells slots Q (F0 m (pc + 1) ls (.int (pn_I (((a : Nat) : Int) * b)) :: rest))) : W p l e R s m args below meth c H locs cells slots Q (F0 m pc ls (.int (pn_I b) :: .int (nI a) :: rest)) := lv_imul hexec hb hdg (by rw [← pn_I_nI a, pn_I_mul]; exact k)

theorem pw_imulZN (hexec : p.tables.exec = Jvm.exec) (hb : c.code = cc) {a : Int} {b : Nat} (hdg : decode cc pc = .ok (.imul, 1)) 
    (k : W p l e R s m args below meth c H locs cells slots Q (F0 m (pc + 1) ls (.int (pn_I (a * ((b : Nat) : Int))) :: rest))) : W p l e R s m args below meth c H locs cells slots Q (F0 m pc ls (.int (nI b) :: .int (pn_I a) :: rest)) := lv_imul hexec hb hdg (by rw [← pn_I_nI b, pn_I_mul]; exact k)

theorem pw_imulZZ (hexec : p.tables.exec = Jvm.exec) (hb : c.code = cc) {a : Int} {b : Int} (hdg : decode cc pc = .ok (.imul, 1)) 
    (k : W p l e R s m args below meth c H locs cells slots Q (F0 m (pc + 1) ls (.int (pn_I (a * b)) :: rest))) : W p l e R s m args below meth c H locs cells slots Q (F0 m pc ls (.int (pn_I b) :: .int (pn_I a) :: rest)) := lv_imul hexec hb hdg (by rw [pn_I_mul]; exact k)

theorem pw_lrem (hexec : p.tables.exec = Jvm.exec) (hb : c.code = cc) {a b : Int} (hdg : decode cc pc = .ok (.lrem, 1)) (ha0 : 0 ≤ a) (ha : a < 9223372036854775808) (hb0 : 0 < b) (hb1 : b < 9223372036854775808)
    (k : W p l e R s m args below meth c H locs cells slots Q (F0 m (pc + 1) ls (.long (pn_L (a % b)) :: rest))) : W p l e R s m args below meth c H locs cells slots Q (F0 m pc ls (.long (pn_L b) :: .long (pn_L a) :: rest)) := lv_lrem hexec hb hdg (pm_Lne hb0 hb1) (by rw [pm_L_mod ha0 ha hb0 hb1]; exact k)

theorem pw_lremT (hexec : p.tables.exec = Jvm.exec) (hb : c.code = cc) {a b : Int} (hdg : decode cc pc = .ok (.lrem, 1)) (ha0 : -9223372036854775808 ≤ a) (ha : a < 9223372036854775808) (hb0 : 0 < b) (hb1 : b < 9223372036854775808)
    (k : W p l e R s m args below meth c H locs cells slots Q (F0 m (pc + 1) ls (.long (pn_L (a.tmod b)) :: rest))) : W p l e R s m args below meth c H locs cells slots Q (F0 m pc ls (.long (pn_L b) :: .long (pn_L a) :: rest)) := lv_lrem hexec hb hdg (pm_Lne hb0 hb1) (by rw [pm_L_tmod ha0 ha hb0 hb1]; exact k)

theorem pw_ldivT (hexec : p.tables.exec = Jvm.exec) (hb : c.code = cc) {a b : Int} (hdg : decode cc pc = .ok (.ldiv, 1)) (ha0 : -9223372036854775808 ≤ a) (ha : a < 9223372036854775808) (hb0 : 0 < b) (hb1 : b < 9223372036854775808)
    (k : W p l e R s m args below meth c H locs cells slots Q (F0 m (pc + 1) ls (.long (pn_L (a.tdiv b)) :: rest))) : W p l e R s m args below meth c H locs cells slots Q (F0 m pc ls (.long (pn_L b) :: .long (pn_L a) :: rest)) := lv_ldiv hexec hb hdg (pm_Lne hb0 hb1) (by rw [pm_L_tdiv ha0 ha hb0 hb1]; exact k)

theorem pw_i2lN (hexec : p.tables.exec = Jvm.exec) (hb : c.code = cc) {n : Nat} (hdg : decode cc pc = .ok (.i2l, 1)) (h : n < 2 ^ 31)
    (k : W p l e R s m args below meth c H locs cells slots Q (F0 m (pc + 1) ls (.long (pn_L ((n : Nat) : Int)) :: rest))) : W p l e R s m args below meth c H locs cells slots Q (F0 m pc ls (.int (nI n) :: rest)) := pw_i2l hexec hb hdg (by rw [pn_nI_L h]; exact k)

theorem pw_ishr (hexec : p.tables.exec = Jvm.exec) (hb : c.code = cc) {a b : Nat} (hdg : decode cc pc = .ok (.ishr, 1)) (ha : a < 2 ^ 31) (hb1 : b < 32)
    (k : W p l e R s m args below meth c H locs cells slots Q (F0 m (pc + 1) ls (.int (nI (a / 2 ^ b)) :: rest))) : W p l e R s m args below meth c H locs cells slots Q (F0 m pc ls (.int (nI b) :: .int (nI a) :: rest)) := lv_ishr hexec hb hdg (by rw [pm_shr ha hb1]; exact k)

theorem pw_ifz_lt (hexec : p.tables.exec = Jvm.exec) (hb : c.code = cc) {z : Int} {off : Int} {tgt : Nat} (hdg : decode cc pc = .ok (.ifCond .lt off, 3)) (ht : (pc : Int) + off = (tgt : Int)) (h0 : -2147483648 ≤ z) (h1 : z < 2147483648)
    (kt : z < 0 → W p l e R s m args below meth c H locs cells slots Q (F0 m tgt ls rest)) (kf : 0 ≤ z → W p l e R s m args below meth c H locs cells slots Q (F0 m (pc + 3) ls rest)) : W p l e R s m args below meth c H locs cells slots Q (F0 m pc ls (.int (pn_I z) :: rest)) := lv_if_lt hexec hb hdg ht (fun y => kt ((pn_I_lt (a := z) (b := 0) h0 h1 (by decide) (by decide)).mp y)) (fun y => kf (Int.not_lt.mp (fun x => y ((pn_I_lt (a := z) (b := 0) h0 h1 (by decide) (by decide)).mpr x))))

theorem pw_ifz_ge (hexec : p.tables.exec = Jvm.exec) (hb : c.code = cc) {z : Int} {off : Int} {tgt : Nat} (hdg : decode cc pc = .ok (.ifCond .ge off, 3)) (ht : (pc : Int) + off = (tgt : Int)) (h0 : -2147483648 ≤ z) (h1 : z < 2147483648)
    (kt : 0 ≤ z → W p l e R s m args below meth c H locs cells slots Q (F0 m tgt ls rest)) (kf : z < 0 → W p l e R s m args below meth c H locs cells slots Q (F0 m (pc + 3) ls rest)) : W p l e R s m args below meth c H locs cells slots Q (F0 m pc ls (.int (pn_I z) :: rest)) := lv_if_ge hexec hb hdg ht (fun y => kt ((pn_I_le (a := 0) (b := z) (by decide) (by decide) h0 h1).mp y)) (fun y => kf (Int.not_le.mp (fun x => y ((pn_I_le (a := 0) (b := z) (by decide) (by decide) h0 h1).mpr x))))

theorem pw_ifz_gt (hexec : p.tables.exec = Jvm.exec) (hb : c.code = cc) {z : Int} {off : Int} {tgt : Nat} (hdg : decode cc pc = .ok (.ifCond .gt off, 3)) (ht : (pc : Int) + off = (tgt : Int)) (h0 : -2147483648 ≤ z) (h1 : z < 2147483648)
    (kt : 0 < z → W p l e R s m args below meth c H locs cells slots Q (F0 m tgt ls rest)) (kf : z ≤ 0 → W p l e R s m args below meth c H locs cells slots Q (F0 m (pc + 3) ls rest)) : W p l e R s m args below meth c H locs cells slots Q (F0 m pc ls (.int (pn_I z) :: rest)) := lv_if_gt hexec hb hdg ht (fun y => kt ((pn_I_lt (a := 0) (b := z) (by decide) (by decide) h0 h1).mp y)) (fun y => kf (Int.not_lt.mp (fun x => y ((pn_I_lt (a := 0) (b := z) (by decide) (by decide) h0 h1).mpr x))))

theorem pw_ifz_le (hexec : p.tables.exec = Jvm.exec) (hb : c.code = cc) {z : Int} {off : Int} {tgt : Nat} (hdg : decode cc pc = .ok (.ifCond .le off, 3)) (ht : (pc : Int) + off = (tgt : Int)) (h0 : -2147483648 ≤ z) (h1 : z < 2147483648)
    (kt : z ≤ 0 → W p l e R s m args below meth c H locs cells slots Q (F0 m tgt ls rest)) (kf : 0 < z → W p l e R s m args below meth c H locs cells slots Q (F0 m (pc + 3) ls rest)) : W p l e R s m args below meth c H locs cells slots Q (F0 m pc ls (.int (pn_I z) :: rest)) := lv_if_le hexec hb hdg ht (fun y => kt ((pn_I_le (a := z) (b := 0) h0 h1 (by decide) (by decide)).mp y)) (fun y => kf (Int.not_le.mp (fun x => y ((pn_I_le (a := z) (b := 0) h0 h1 (by decide) (by decide)).mpr x))))

theorem pw_ifz_eq (hexec : p.tables.exec = Jvm.exec) (hb : c.code = cc) {z : Int} {off : Int} {tgt : Nat} (hdg : decode cc pc = .ok (.ifCond .eq off, 3)) (ht : (pc : Int) + off = (tgt : Int)) (h0 : -2147483648 ≤ z) (h1 : z < 2147483648)
    (kt : z = 0 → W p l e R s m args below meth c H locs cells slots Q (F0 m tgt ls rest)) (kf : z ≠ 0 → W p l e R s m args below meth c H locs cells slots Q (F0 m (pc + 3) ls rest)) : W p l e R s m args below meth c H locs cells slots Q (F0 m pc ls (.int (pn_I z) :: rest)) := lv_if_eq hexec hb hdg ht (fun y => kt ((pn_I_eq (a := z) (b := 0) h0 h1 (by decide) (by decide)).mp y)) (fun y => kf (fun x => y ((pn_I_eq (a := z) (b := 0) h0 h1 (by decide) (by decide)).mpr x)))

theorem pw_ifz_ne (hexec : p.tables.exec = Jvm.exec) (hb : c.code = cc) {z : Int} {off : Int} {tgt : Nat} (hdg : decode cc pc = .ok (.ifCond .ne off, 3)) (ht : (pc : Int) + off = (tgt : Int)) (h0 : -2147483648 ≤ z) (h1 : z < 2147483648)
    (kt : z ≠ 0 → W p l e R s m args below meth c H locs cells slots Q (F0 m tgt ls rest)) (kf : z = 0 → W p l e R s m args below meth c H locs cells slots Q (F0 m (pc + 3) ls rest)) : W p l e R s m args below meth c H locs cells slots Q (F0 m pc ls (.int (pn_I z) :: rest)) := lv_if_ne hexec hb hdg ht (fun y => kt (fun x => y ((pn_I_eq (a := z) (b := 0) h0 h1 (by decide) (by decide)).mpr x))) (fun y => kf ((pn_I_eq (a := z) (b := 0) h0 h1 (by decide) (by decide)).mp (by first | exact y | exact Classical.not_not.mp y)))

end PmRows
