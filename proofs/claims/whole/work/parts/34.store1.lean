def pn_up {α : Type} (g : Nat → α) (k : Nat) (v : α) : Nat → α := fun j => if j = k then v else g j
theorem pn_up_s {α : Type} {g : Nat → α} {k : Nat} {v : α} : pn_up g k v k = v := if_pos rfl
theorem pn_up_n {α : Type} {g : Nat → α} {k j : Nat} {v : α} (h : j ≠ k) : pn_up g k v j = g j := if_neg h
theorem pn_upd_nI (g : Nat → Nat) (k v : Nat) : upd (fun i => nI (g i)) k (nI v) = fun i => nI (pn_up g k v i) := by
  funext j
  unfold upd pn_up
  split <;> rfl
theorem pn_upd_b (g : Nat → Bool) (k : Nat) (v : Bool) : upd (fun i => pn_b (g i)) k (pn_b v) = fun i => pn_b (pn_up g k v i) := by
  funext j
  unfold upd pn_up
  split <;> rfl
section PnN
variable {p : Program} {l : Launch} {e : Env} {R : Room} {s : State} {m : MethodId} {args : Array Value} {below : List Frame} {meth : Method} {c : Code} {H : Heap} {locs : List Loc} {cells slots : Nat} {Q : State → Prop}
variable {cc : ByteArray} {pc nL : Nat} {ls : Array Slot} {rest : List Value} {own : String} {a : Nat} {D : va_G} {tys : List (ClassId × FieldType)} {w w' : va_W} {A : Nat → Prop} {H0 : Heap}
theorem pw_iastN (Fx : CallFix p m c cc nL s args pn_all own) (hK : va_K D pn_cl tys s) (hP : va_P D pn_cl w H) (hD : va_D A w) (hS : va_S A H0 H locs) (q0 t0 : Nat) {cA : ClassId} {n : Nat} {g : Nat → Nat} (ha : w[q0]? = some (a, .inl (cA, n, .inl (fun i => nI (g i))))) (ht : tys[t0]? = some (cA, .int)) {k v : Nat} (hk : k < n) (hn : n < 2 ^ 31) (hw : w.set q0 (a, .inl (cA, n, .inl (fun i => nI (pn_up g k v i)))) = w') (hdg : decode cc pc = .ok (.iastore, 1))
    (kk : ∀ (H1 : Heap) (locs1 : List Loc), va_P D pn_cl w' H1 → va_D A w' → va_S A H0 H1 locs1 → W p l e R s m args below meth c H1 locs1 cells slots Q (F0 m (pc + 1) ls rest)) : W p l e R s m args below meth c H locs cells slots Q (F0 m pc ls (.int (nI v) :: .int (nI k) :: .ref a :: rest)) :=
  pw_iast Fx hK hP hD hS q0 t0 ha ht hk hn (by rw [pn_upd_nI]; exact hw) hdg kk
theorem pw_zastN (Fx : CallFix p m c cc nL s args pn_all own) (hK : va_K D pn_cl tys s) (hP : va_P D pn_cl w H) (hD : va_D A w) (hS : va_S A H0 H locs) (q0 t0 : Nat) {cA : ClassId} {n : Nat} {g : Nat → Bool} (ha : w[q0]? = some (a, .inl (cA, n, .inl (fun i => pn_b (g i))))) (ht : tys[t0]? = some (cA, .boolean)) {k : Nat} {v : Bool} (hk : k < n) (hn : n < 2 ^ 31) (hw : w.set q0 (a, .inl (cA, n, .inl (fun i => pn_b (pn_up g k v i)))) = w') (hdg : decode cc pc = .ok (.bastore, 1))
    (kk : ∀ (H1 : Heap) (locs1 : List Loc), va_P D pn_cl w' H1 → va_D A w' → va_S A H0 H1 locs1 → W p l e R s m args below meth c H1 locs1 cells slots Q (F0 m (pc + 1) ls rest)) : W p l e R s m args below meth c H locs cells slots Q (F0 m pc ls (.int (pn_b v) :: .int (nI k) :: .ref a :: rest)) :=
  pw_zast Fx hK hP hD hS q0 t0 ha ht hk hn (by rw [pn_upd_b]; exact hw) hdg kk
end PnN
/-- the store: where each register's limbs stand, and that no two share a cell; G r i: limb i of register r -/
def pn_st (C : Nat → Int32) (st ct : Nat → Nat) (us : Nat) (G : Nat → Nat → Int32) : Prop := us ≤ 17500 ∧ (∀ r, r < 24 → ct r ≤ 625) ∧ (∀ r, r < 24 → st r + ct r ≤ 17500 ∧ (0 < ct r → st r + ct r ≤ us)) ∧ (∀ r q, r < 24 → q < 24 → r ≠ q → 0 < ct r → 0 < ct q → st r + ct r ≤ st q ∨ st q + ct q ≤ st r) ∧ (∀ r, r < 24 → ∀ i, i < ct r → C (st r + i) = G r i)
def pn_num (P : Nat → Bool) : Nat → Nat
  | 0 => 0
  | n + 1 => pn_num P n + (if P n then 1 else 0)
theorem pn_num_le (P : Nat → Bool) (n : Nat) : pn_num P n ≤ n := by
  induction n with
  | zero => exact Nat.le_refl 0
  | succ n ih => show pn_num P n + _ ≤ _; split <;> omega
theorem pn_num_mono {P P' : Nat → Bool} {n : Nat} (h : ∀ i, i < n → P' i = true → P i = true) : pn_num P' n ≤ pn_num P n := by
  induction n with
  | zero => exact Nat.le_refl 0
  | succ n ih =>
    have h1 := ih (fun i hi => h i (by omega))
    show pn_num P' n + _ ≤ pn_num P n + _
    by_cases z : P' n = true
    · rw [if_pos z, if_pos (h n (by omega) z)]; omega
    · rw [if_neg z]; split <;> omega
theorem pn_num_lt {P P' : Nat → Bool} {n k : Nat} (hk : k < n) (h : ∀ i, i < n → P' i = true → P i = true) (h1 : P k = true) (h2 : P' k = false) : pn_num P' n + 1 ≤ pn_num P n := by
  induction n with
  | zero => omega
  | succ n ih =>
    show pn_num P' n + _ + 1 ≤ pn_num P n + _
    rcases (show k = n ∨ k < n by omega) with z | z
    · subst z
      have := pn_num_mono (P := P) (P' := P') (n := k) (fun i hi => h i (by omega))
      rw [h1, h2]
      simp
      omega
    · have := ih z (fun i hi => h i (by omega))
      by_cases y : P' n = true
      · rw [if_pos y, if_pos (h n (by omega) y)]; omega
      · rw [if_neg y]; split <;> omega
theorem pn_num_0 {P : Nat → Bool} {n : Nat} (h : pn_num P n = 0) : ∀ i, i < n → P i = false := by
  induction n with
  | zero => intro i hi; omega
  | succ n ih =>
    intro i hi
    have h' : pn_num P n + (if P n then 1 else 0) = 0 := h
    rcases (show i = n ∨ i < n by omega) with z | z
    · subst z
      cases y : P i with
      | false => rfl
      | true => rw [y] at h'; simp at h'
    · exact ih (by omega) i z
/-- while packing: what lies before 'fr' has been moved to below 'tt' -/
def pn_pk (C : Nat → Int32) (st ct : Nat → Nat) (us : Nat) (G : Nat → Nat → Int32) (fr tt : Nat) : Prop := tt ≤ fr ∧ fr ≤ us ∧ pn_st C st ct us G ∧ (∀ r, r < 24 → 0 < ct r → st r < fr → st r + ct r ≤ tt)
def pn_wait (st ct : Nat → Nat) (fr : Nat) : Nat → Bool := fun r => decide (0 < ct r ∧ fr ≤ st r)
theorem pn_pk_step {C : Nat → Int32} {st ct : Nat → Nat} {us : Nat} {G : Nat → Nat → Int32} {fr tt k : Nat} (h : pn_pk C st ct us G fr tt) (hk : k < 24) (hc : 0 < ct k) (hf : fr ≤ st k) (hmin : ∀ j, j < 24 → 0 < ct j → fr ≤ st j → st k ≤ st j) :
    pn_pk (va_cpy C C (st k) tt (ct k)) (pn_up st k tt) ct us G (st k + ct k) (tt + ct k) ∧ pn_num (pn_wait (pn_up st k tt) ct (st k + ct k)) 24 + 1 ≤ pn_num (pn_wait st ct fr) 24 := by
  obtain ⟨h1, h2, ⟨i1, i2, i3, i4, i5⟩, h4⟩ := h
  have b := (i3 k hk).2 hc
  have other : ∀ r, r < 24 → r ≠ k → 0 < ct r → (st r < fr ∧ st r + ct r ≤ tt) ∨ (st k + ct k ≤ st r) := by
    intro r hr hn hp
    rcases Nat.lt_or_ge (st r) fr with z | z
    · exact Or.inl ⟨z, h4 r hr hp z⟩
    · have m := hmin r hr hp z
      rcases i4 r k hr hk hn hp hc with y | y
      · omega
      · exact Or.inr y
  refine ⟨⟨by omega, b, ⟨i1, i2, ?_, ?_, ?_⟩, ?_⟩, ?_⟩
  · intro r hr
    by_cases z : r = k
    · subst z; rw [pn_up_s]; exact ⟨by omega, fun _ => by omega⟩
    · rw [pn_up_n z]; exact i3 r hr
  · intro r q hr hq hn hp hp2
    by_cases z : r = k
    · subst z
      rw [pn_up_s, pn_up_n (fun y => hn y.symm)]
      rcases other q hq (fun y => hn y.symm) hp2 with y | y <;> omega
    · rw [pn_up_n z]
      by_cases z2 : q = k
      · subst z2
        rw [pn_up_s]
        rcases other r hr z hp with y | y <;> omega
      · rw [pn_up_n z2]
        exact i4 r q hr hq hn hp hp2
  · intro r hr i hi
    by_cases z : r = k
    · subst z
      rw [pn_up_s, pk_cpy_in (by omega) (by omega), show st r + (tt + i - tt) = st r + i by omega]
      exact i5 r hr i hi
    · rw [pn_up_n z, pk_cpy_out (by rcases other r hr z (by omega) with y | y <;> omega)]
      exact i5 r hr i hi
  · intro r hr hp hlt
    by_cases z : r = k
    · subst z; rw [pn_up_s]; omega
    · rw [pn_up_n z] at hlt ⊢
      rcases other r hr z hp with y | y <;> omega
  · refine pn_num_lt hk (fun i hi hw => ?_) (by simp [pn_wait, hc, hf]) (by simp [pn_wait, pn_up_s]; omega)
    simp only [pn_wait, decide_eq_true_eq] at hw ⊢
    by_cases z : i = k
    · subst z; exact ⟨hc, hf⟩
    · rw [pn_up_n z] at hw; omega
theorem pn_pk_none {C : Nat → Int32} {st ct : Nat → Nat} {us : Nat} {G : Nat → Nat → Int32} {fr tt : Nat} (h : pn_pk C st ct us G fr tt) (hn : ∀ r, r < 24 → 0 < ct r → st r < fr) (ht : tt ≤ 15000) : pn_st C st ct tt G := by
  obtain ⟨h1, h2, ⟨i1, i2, i3, i4, i5⟩, h4⟩ := h
  exact ⟨by omega, i2, fun r hr => ⟨(i3 r hr).1, fun z => h4 r hr z (hn r hr z)⟩, i4, i5⟩
theorem pn_up_up {α : Type} {g : Nat → α} {k : Nat} {v w : α} : pn_up (pn_up g k v) k w = pn_up g k w := by
  funext j
  unfold pn_up
  split <;> rfl
theorem pn_st_cut {C : Nat → Int32} {st ct : Nat → Nat} {us : Nat} {G : Nat → Nat → Int32} {r : Nat} (h : pn_st C st ct us G) : pn_st C st (pn_up ct r 0) us G := by
  obtain ⟨i1, i2, i3, i4, i5⟩ := h
  have lo : ∀ q, pn_up ct r 0 q ≤ ct q := fun q => by
    by_cases z : q = r
    · subst z; rw [pn_up_s]; omega
    · rw [pn_up_n z]; omega
  refine ⟨i1, fun q hq => ?_, fun q hq => ?_, fun q q2 hq hq2 hn hp hp2 => ?_, fun q hq i hi => i5 q hq i (by have := lo q; omega)⟩
  · have := i2 q hq; have := lo q; omega
  · have a := i3 q hq; have := lo q; exact ⟨by omega, fun z => by have := a.2 (by omega); omega⟩
  · have b1 := lo q; have b2 := lo q2
    have := i4 q q2 hq hq2 hn (by omega) (by omega)
    have e1 : pn_up ct r 0 q = ct q := pn_up_n (fun z => by subst z; rw [pn_up_s] at hp; omega)
    have e2 : pn_up ct r 0 q2 = ct q2 := pn_up_n (fun z => by subst z; rw [pn_up_s] at hp2; omega)
    rw [e1, e2]; exact this
theorem pn_st_put {C f : Nat → Int32} {st ct : Nat → Nat} {us n r : Nat} {G : Nat → Nat → Int32} (h : pn_st C st (pn_up ct r 0) us G) (hr : r < 24) (hn : n ≤ 625) (hu : us + n ≤ 17500) : pn_st (va_cpy f C 0 us n) (pn_up st r us) (pn_up ct r n) (us + n) (pn_up G r f) := by
  obtain ⟨i1, i2, i3, i4, i5⟩ := h
  have other : ∀ q, q ≠ r → pn_up ct r 0 q = ct q := fun q z => pn_up_n z
  refine ⟨hu, fun q hq => ?_, fun q hq => ?_, fun q q2 hq hq2 hne hp hp2 => ?_, fun q hq i hi => ?_⟩
  · by_cases z : q = r
    · subst z; rw [pn_up_s]; exact hn
    · rw [pn_up_n z]; have := i2 q hq; rw [other q z] at this; exact this
  · by_cases z : q = r
    · subst z; rw [pn_up_s, pn_up_s]; exact ⟨hu, fun _ => Nat.le_refl _⟩
    · rw [pn_up_n z, pn_up_n z]; have a := i3 q hq; rw [other q z] at a; exact ⟨a.1, fun y => by have := a.2 y; omega⟩
  · by_cases z : q = r
    · subst z
      have z2 : q2 ≠ q := fun y => hne y.symm
      rw [pn_up_s, pn_up_s, pn_up_n z2, pn_up_n z2]
      have a := i3 q2 hq2; rw [other q2 z2] at a
      rw [pn_up_n z2] at hp2
      have := a.2 hp2; omega
    · by_cases z2 : q2 = r
      · subst z2
        rw [pn_up_s, pn_up_s, pn_up_n z, pn_up_n z]
        have a := i3 q hq; rw [other q z] at a
        rw [pn_up_n z] at hp
        have := a.2 hp; omega
      · have a := i4 q q2 hq hq2 hne; rw [other q z, other q2 z2] at a
        rw [pn_up_n z] at hp; rw [pn_up_n z2] at hp2
        rw [pn_up_n z, pn_up_n z2, pn_up_n z, pn_up_n z2]; exact a hp hp2
  · by_cases z : q = r
    · subst z
      rw [pn_up_s] at hi
      rw [pn_up_s, pn_up_s, pk_cpy_in (by omega) (by omega)]
      congr 1; omega
    · rw [pn_up_n z] at hi
      have a := i3 q hq; rw [other q z] at a
      have b := a.2 (by omega)
      rw [pn_up_n z, pn_up_n z, pk_cpy_out (by omega)]
      exact i5 q hq i (by rw [other q z]; exact hi)

set_option maxHeartbeats 4000000 in
set_option maxRecDepth 100000 in
theorem c_S_read (l : Launch) (D : va_G) (cI cZ cB cJ : ClassId) (sz : Nat) (oS qC qS qN qB : Nat) (C : Nat → Int32) (st ct : Nat → Nat) (bl : Nat → Bool) (us : Nat) (ot qt : Nat) (ft : Nat → Int32) (nt : Nat) (bt : Bool) (r : Nat) (hr24 : r < 24) (h1 : st r + ct r ≤ 17500) (h2 : ct r ≤ 632) : pn_Cv l D (pn_ty cI cZ cB cJ) y_S_read w_S_read ({ frames := 1, cells := 0, slots := 0, locals := 40 } : Room) [.ref oS, .int (nI r), .ref ot] [(oS, .inr (2, [.ref qC, .ref qS, .ref qN, .ref qB, .int (nI us)])), (qC, .inl (cI, 17500, .inl C)), (qS, .inl (cI, 24, .inl (fun z9 => nI (st z9)))), (qN, .inl (cI, 24, .inl (fun z9 => nI (ct z9)))), (qB, .inl (cZ, 24, .inl (fun z9 => pn_b (bl z9)))), (ot, .inr (1, [.ref qt, .int (nI nt), .int (pn_b bt)])), (qt, .inl (cI, 632, .inl ft))] sz (S := Nat → Int32) (fun g => ∀ i, i < ct r → g i = C (st r + i)) (fun g => [(oS, .inr (2, [.ref qC, .ref qS, .ref qN, .ref qB, .int (nI us)])), (qC, .inl (cI, 17500, .inl C)), (qS, .inl (cI, 24, .inl (fun z9 => nI (st z9)))), (qN, .inl (cI, 24, .inl (fun z9 => nI (ct z9)))), (qB, .inl (cZ, 24, .inl (fun z9 => pn_b (bl z9)))), (ot, .inr (1, [.ref qt, .int (nI (ct r)), .int (pn_b (bl r))])), (qt, .inl (cI, 632, .inl g))]) := by
  refine pn_start (by decide) (Nat.le_of_ble_eq_true rfl) ?_
  intro p e s m below meth c A Q ls hQ hAe Fx hr hlocks hN hK hP hD hS hA hl
  have hx := Fx.1
  have hb := Fx.2.1
  have hl : lv_has ls 3 [(0, .ref oS), (1, .int (nI r)), (2, .ref ot)] := hl
  refine lv_aload_n hx hb d_S_read_0 rfl (lv_at hl 0 rfl) ?_
  refine pw_get Fx hK hP fld_S 0 rfl 0 (by decide) kw_32 (v := .ref qC) rfl d_S_read_1 ?_
  refine lv_aload_n hx hb d_S_read_4 rfl (lv_at hl 0 rfl) ?_
  refine pw_get Fx hK hP fld_S 0 rfl 1 (by decide) kw_33 (v := .ref qS) rfl d_S_read_5 ?_
  refine lv_iload_n hx hb d_S_read_8 rfl (lv_at hl 1 rfl) ?_
  refine pw_iald Fx hK hP 2 0 (f := fun z9 => nI (st z9)) rfl rfl (k := r) (by omega) (by decide) d_S_read_9 ?_
  refine pn_topi (nI (st r)) rfl ?_
  refine lv_aload_n hx hb d_S_read_10 rfl (lv_at hl 2 rfl) ?_
  refine pw_getN Fx hN hK hP fld_R 5 rfl 0 (by decide) kn_90 (v := .ref qt) rfl d_S_read_11 ?_
  refine lv_iconst (v := nI 0) hx hb d_S_read_14 (by decide) ?_
  refine lv_aload_n hx hb d_S_read_15 rfl (lv_at hl 0 rfl) ?_
  refine pw_get Fx hK hP fld_S 0 rfl 2 (by decide) kw_34 (v := .ref qN) rfl d_S_read_16 ?_
  refine lv_iload_n hx hb d_S_read_19 rfl (lv_at hl 1 rfl) ?_
  refine pw_iald Fx hK hP 3 0 (f := fun z9 => nI (ct z9)) rfl rfl (k := r) (by omega) (by decide) d_S_read_20 ?_
  refine pn_topi (nI (ct r)) rfl ?_
  refine pw_copy Fx (hl.1) kw_274 kw_276 kw_275 kw_13 hK hP hD hS 1 6 0 (f := C) (g := ft) rfl rfl rfl rfl (sp := st r) (dp := 0) (n := ct r) (by omega) (by omega) (by decide) (by decide) (rest := []) (by decide) (Nat.le_of_ble_eq_true rfl) (w' := [(oS, .inr (2, [.ref qC, .ref qS, .ref qN, .ref qB, .int (nI us)])), (qC, .inl (cI, 17500, .inl C)), (qS, .inl (cI, 24, .inl (fun z9 => nI (st z9)))), (qN, .inl (cI, 24, .inl (fun z9 => nI (ct z9)))), (qB, .inl (cZ, 24, .inl (fun z9 => pn_b (bl z9)))), (ot, .inr (1, [.ref qt, .int (nI nt), .int (pn_b bt)])), (qt, .inl (cI, 632, .inl (va_cpy C ft (st r) 0 (ct r))))]) rfl d_S_read_21 (fun H locs hP hD hS => ?_)
  refine lv_aload_n hx hb d_S_read_24 rfl (lv_at hl 2 rfl) ?_
  refine lv_aload_n hx hb d_S_read_25 rfl (lv_at hl 0 rfl) ?_
  refine pw_get Fx hK hP fld_S 0 rfl 2 (by decide) kw_34 (v := .ref qN) rfl d_S_read_26 ?_
  refine lv_iload_n hx hb d_S_read_29 rfl (lv_at hl 1 rfl) ?_
  refine pw_iald Fx hK hP 3 0 (f := fun z9 => nI (ct z9)) rfl rfl (k := r) (by omega) (by decide) d_S_read_30 ?_
  refine pn_topi (nI (ct r)) rfl ?_
  refine pw_putN Fx hN hK hP hD hS fld_R 5 rfl 1 (by decide) kn_96 rfl rfl rfl (Nat.le_of_ble_eq_true rfl) (w' := [(oS, .inr (2, [.ref qC, .ref qS, .ref qN, .ref qB, .int (nI us)])), (qC, .inl (cI, 17500, .inl C)), (qS, .inl (cI, 24, .inl (fun z9 => nI (st z9)))), (qN, .inl (cI, 24, .inl (fun z9 => nI (ct z9)))), (qB, .inl (cZ, 24, .inl (fun z9 => pn_b (bl z9)))), (ot, .inr (1, [.ref qt, .int (nI (ct r)), .int (pn_b bt)])), (qt, .inl (cI, 632, .inl (va_cpy C ft (st r) 0 (ct r))))]) rfl d_S_read_31 (fun H locs hP hD hS => ?_)
  refine lv_aload_n hx hb d_S_read_34 rfl (lv_at hl 2 rfl) ?_
  refine lv_aload_n hx hb d_S_read_35 rfl (lv_at hl 0 rfl) ?_
  refine pw_get Fx hK hP fld_S 0 rfl 3 (by decide) kw_35 (v := .ref qB) rfl d_S_read_36 ?_
  refine lv_iload_n hx hb d_S_read_39 rfl (lv_at hl 1 rfl) ?_
  refine pw_zald Fx hK hP 4 1 (f := fun z9 => pn_b (bl z9)) rfl rfl (k := r) (by omega) (by decide) d_S_read_40 ?_
  refine pn_topi (pn_b (bl r)) rfl ?_
  refine pw_putN Fx hN hK hP hD hS fld_R 5 rfl 2 (by decide) kn_102 rfl (pn_b_nar _) (pn_b_fit _) (Nat.le_of_ble_eq_true rfl) (w' := [(oS, .inr (2, [.ref qC, .ref qS, .ref qN, .ref qB, .int (nI us)])), (qC, .inl (cI, 17500, .inl C)), (qS, .inl (cI, 24, .inl (fun z9 => nI (st z9)))), (qN, .inl (cI, 24, .inl (fun z9 => nI (ct z9)))), (qB, .inl (cZ, 24, .inl (fun z9 => pn_b (bl z9)))), (ot, .inr (1, [.ref qt, .int (nI (ct r)), .int (pn_b (bl r))])), (qt, .inl (cI, 632, .inl (va_cpy C ft (st r) 0 (ct r))))]) rfl d_S_read_41 (fun H locs hP hD hS => ?_)
  exact pn_retv (va_cpy C ft (st r) 0 (ct r)) Fx hr hlocks hQ hAe hP hD hS (by (try dsimp only); first | done | exact (fun i hi => by rw [pk_cpy_in (Nat.zero_le i) (by omega)]; congr 1)) d_S_read_44

set_option maxHeartbeats 4000000 in
set_option maxRecDepth 100000 in
theorem c_S_exchange (l : Launch) (D : va_G) (cI cZ cB cJ : ClassId) (sz : Nat) (oS qC qS qN qB : Nat) (C : Nat → Int32) (st ct : Nat → Nat) (bl : Nat → Bool) (us : Nat) (a b : Nat) (ha : a < 24) (hb9 : b < 24) (hst : ∀ r, r < 24 → st r < 2 ^ 31) (hct : ∀ r, r < 24 → ct r < 2 ^ 31) : pn_Cv l D (pn_ty cI cZ cB cJ) y_S_exchange w_S_exchange ({ frames := 0, cells := 0, slots := 0, locals := 0 } : Room) [.ref oS, .int (nI a), .int (nI b)] [(oS, .inr (2, [.ref qC, .ref qS, .ref qN, .ref qB, .int (nI us)])), (qC, .inl (cI, 17500, .inl C)), (qS, .inl (cI, 24, .inl (fun z9 => nI (st z9)))), (qN, .inl (cI, 24, .inl (fun z9 => nI (ct z9)))), (qB, .inl (cZ, 24, .inl (fun z9 => pn_b (bl z9))))] sz (S := Unit) (fun _ => True) (fun _ => [(oS, .inr (2, [.ref qC, .ref qS, .ref qN, .ref qB, .int (nI us)])), (qC, .inl (cI, 17500, .inl C)), (qS, .inl (cI, 24, .inl (fun z9 => nI ((pn_up (pn_up st a (st b)) b (st a)) z9)))), (qN, .inl (cI, 24, .inl (fun z9 => nI ((pn_up (pn_up ct a (ct b)) b (ct a)) z9)))), (qB, .inl (cZ, 24, .inl (fun z9 => pn_b ((pn_up (pn_up bl a (bl b)) b (bl a)) z9))))]) := by
  refine pn_start (by decide) (Nat.le_of_ble_eq_true rfl) ?_
  intro p e s m below meth c A Q ls hQ hAe Fx hr hlocks hN hK hP hD hS hA hl
  have hx := Fx.1
  have hb := Fx.2.1
  have hl : lv_has ls 6 [(0, .ref oS), (1, .int (nI a)), (2, .int (nI b))] := hl
  refine lv_aload_n hx hb d_S_exchange_0 rfl (lv_at hl 0 rfl) ?_
  refine pw_get Fx hK hP fld_S 0 rfl 1 (by decide) kw_33 (v := .ref qS) rfl d_S_exchange_1 ?_
  refine lv_iload_n hx hb d_S_exchange_4 rfl (lv_at hl 1 rfl) ?_
  refine pw_iald Fx hK hP 2 0 (f := fun z9 => nI (st z9)) rfl rfl (k := a) (by omega) (by decide) d_S_exchange_5 ?_
  refine pn_topi (nI (st a)) rfl ?_
  refine lv_istore_n (lv' := [(3, .int (nI (st a))), (0, .ref oS), (1, .int (nI a)), (2, .int (nI b))]) hx hb d_S_exchange_6 rfl hl (by decide) rfl (fun ls hl => ?_)
  refine lv_aload_n hx hb d_S_exchange_7 rfl (lv_at hl 1 rfl) ?_
  refine pw_get Fx hK hP fld_S 0 rfl 2 (by decide) kw_34 (v := .ref qN) rfl d_S_exchange_8 ?_
  refine lv_iload_n hx hb d_S_exchange_11 rfl (lv_at hl 2 rfl) ?_
  refine pw_iald Fx hK hP 3 0 (f := fun z9 => nI (ct z9)) rfl rfl (k := a) (by omega) (by decide) d_S_exchange_12 ?_
  refine pn_topi (nI (ct a)) rfl ?_
  refine lv_istore (lv' := [(4, .int (nI (ct a))), (3, .int (nI (st a))), (0, .ref oS), (1, .int (nI a)), (2, .int (nI b))]) hx hb d_S_exchange_13 hl (by decide) rfl (fun ls hl => ?_)
  refine lv_aload_n hx hb d_S_exchange_15 rfl (lv_at hl 2 rfl) ?_
  refine pw_get Fx hK hP fld_S 0 rfl 3 (by decide) kw_35 (v := .ref qB) rfl d_S_exchange_16 ?_
  refine lv_iload_n hx hb d_S_exchange_19 rfl (lv_at hl 3 rfl) ?_
  refine pw_zald Fx hK hP 4 1 (f := fun z9 => pn_b (bl z9)) rfl rfl (k := a) (by omega) (by decide) d_S_exchange_20 ?_
  refine pn_topi (pn_b (bl a)) rfl ?_
  refine lv_istore (lv' := [(5, .int (pn_b (bl a))), (4, .int (nI (ct a))), (3, .int (nI (st a))), (0, .ref oS), (1, .int (nI a)), (2, .int (nI b))]) hx hb d_S_exchange_21 hl (by decide) rfl (fun ls hl => ?_)
  refine lv_aload_n hx hb d_S_exchange_23 rfl (lv_at hl 3 rfl) ?_
  refine pw_get Fx hK hP fld_S 0 rfl 1 (by decide) kw_33 (v := .ref qS) rfl d_S_exchange_24 ?_
  refine lv_iload_n hx hb d_S_exchange_27 rfl (lv_at hl 4 rfl) ?_
  refine lv_aload_n hx hb d_S_exchange_28 rfl (lv_at hl 3 rfl) ?_
  refine pw_get Fx hK hP fld_S 0 rfl 1 (by decide) kw_33 (v := .ref qS) rfl d_S_exchange_29 ?_
  refine lv_iload_n hx hb d_S_exchange_32 rfl (lv_at hl 5 rfl) ?_
  refine pw_iald Fx hK hP 2 0 (f := fun z9 => nI (st z9)) rfl rfl (k := b) (by omega) (by decide) d_S_exchange_33 ?_
  refine pn_topi (nI (st b)) rfl ?_
  refine pw_iastN Fx hK hP hD hS 2 0 (g := st) rfl rfl (k := a) (by omega) (by decide) (w' := [(oS, .inr (2, [.ref qC, .ref qS, .ref qN, .ref qB, .int (nI us)])), (qC, .inl (cI, 17500, .inl C)), (qS, .inl (cI, 24, .inl (fun z9 => nI ((pn_up st a (st b)) z9)))), (qN, .inl (cI, 24, .inl (fun z9 => nI (ct z9)))), (qB, .inl (cZ, 24, .inl (fun z9 => pn_b (bl z9))))]) rfl d_S_exchange_34 (fun H locs hP hD hS => ?_)
  refine lv_aload_n hx hb d_S_exchange_35 rfl (lv_at hl 3 rfl) ?_
  refine pw_get Fx hK hP fld_S 0 rfl 2 (by decide) kw_34 (v := .ref qN) rfl d_S_exchange_36 ?_
  refine lv_iload_n hx hb d_S_exchange_39 rfl (lv_at hl 4 rfl) ?_
  refine lv_aload_n hx hb d_S_exchange_40 rfl (lv_at hl 3 rfl) ?_
  refine pw_get Fx hK hP fld_S 0 rfl 2 (by decide) kw_34 (v := .ref qN) rfl d_S_exchange_41 ?_
  refine lv_iload_n hx hb d_S_exchange_44 rfl (lv_at hl 5 rfl) ?_
  refine pw_iald Fx hK hP 3 0 (f := fun z9 => nI (ct z9)) rfl rfl (k := b) (by omega) (by decide) d_S_exchange_45 ?_
  refine pn_topi (nI (ct b)) rfl ?_
  refine pw_iastN Fx hK hP hD hS 3 0 (g := ct) rfl rfl (k := a) (by omega) (by decide) (w' := [(oS, .inr (2, [.ref qC, .ref qS, .ref qN, .ref qB, .int (nI us)])), (qC, .inl (cI, 17500, .inl C)), (qS, .inl (cI, 24, .inl (fun z9 => nI ((pn_up st a (st b)) z9)))), (qN, .inl (cI, 24, .inl (fun z9 => nI ((pn_up ct a (ct b)) z9)))), (qB, .inl (cZ, 24, .inl (fun z9 => pn_b (bl z9))))]) rfl d_S_exchange_46 (fun H locs hP hD hS => ?_)
  refine lv_aload_n hx hb d_S_exchange_47 rfl (lv_at hl 3 rfl) ?_
  refine pw_get Fx hK hP fld_S 0 rfl 3 (by decide) kw_35 (v := .ref qB) rfl d_S_exchange_48 ?_
  refine lv_iload_n hx hb d_S_exchange_51 rfl (lv_at hl 4 rfl) ?_
  refine lv_aload_n hx hb d_S_exchange_52 rfl (lv_at hl 3 rfl) ?_
  refine pw_get Fx hK hP fld_S 0 rfl 3 (by decide) kw_35 (v := .ref qB) rfl d_S_exchange_53 ?_
  refine lv_iload_n hx hb d_S_exchange_56 rfl (lv_at hl 5 rfl) ?_
  refine pw_zald Fx hK hP 4 1 (f := fun z9 => pn_b (bl z9)) rfl rfl (k := b) (by omega) (by decide) d_S_exchange_57 ?_
  refine pn_topi (pn_b (bl b)) rfl ?_
  refine pw_zastN Fx hK hP hD hS 4 1 (g := bl) rfl rfl (k := a) (by omega) (by decide) (w' := [(oS, .inr (2, [.ref qC, .ref qS, .ref qN, .ref qB, .int (nI us)])), (qC, .inl (cI, 17500, .inl C)), (qS, .inl (cI, 24, .inl (fun z9 => nI ((pn_up st a (st b)) z9)))), (qN, .inl (cI, 24, .inl (fun z9 => nI ((pn_up ct a (ct b)) z9)))), (qB, .inl (cZ, 24, .inl (fun z9 => pn_b ((pn_up bl a (bl b)) z9))))]) rfl d_S_exchange_58 (fun H locs hP hD hS => ?_)
  refine lv_aload_n hx hb d_S_exchange_59 rfl (lv_at hl 3 rfl) ?_
  refine pw_get Fx hK hP fld_S 0 rfl 1 (by decide) kw_33 (v := .ref qS) rfl d_S_exchange_60 ?_
  refine lv_iload_n hx hb d_S_exchange_63 rfl (lv_at hl 5 rfl) ?_
  refine lv_iload_n hx hb d_S_exchange_64 rfl (lv_at hl 2 rfl) ?_
  refine pw_iastN Fx hK hP hD hS 2 0 (g := pn_up st a (st b)) rfl rfl (k := b) (by omega) (by decide) (w' := [(oS, .inr (2, [.ref qC, .ref qS, .ref qN, .ref qB, .int (nI us)])), (qC, .inl (cI, 17500, .inl C)), (qS, .inl (cI, 24, .inl (fun z9 => nI ((pn_up (pn_up st a (st b)) b (st a)) z9)))), (qN, .inl (cI, 24, .inl (fun z9 => nI ((pn_up ct a (ct b)) z9)))), (qB, .inl (cZ, 24, .inl (fun z9 => pn_b ((pn_up bl a (bl b)) z9))))]) rfl d_S_exchange_65 (fun H locs hP hD hS => ?_)
  refine lv_aload_n hx hb d_S_exchange_66 rfl (lv_at hl 3 rfl) ?_
  refine pw_get Fx hK hP fld_S 0 rfl 2 (by decide) kw_34 (v := .ref qN) rfl d_S_exchange_67 ?_
  refine lv_iload_n hx hb d_S_exchange_70 rfl (lv_at hl 5 rfl) ?_
  refine lv_iload hx hb d_S_exchange_71 (lv_at hl 1 rfl) ?_
  refine pw_iastN Fx hK hP hD hS 3 0 (g := pn_up ct a (ct b)) rfl rfl (k := b) (by omega) (by decide) (w' := [(oS, .inr (2, [.ref qC, .ref qS, .ref qN, .ref qB, .int (nI us)])), (qC, .inl (cI, 17500, .inl C)), (qS, .inl (cI, 24, .inl (fun z9 => nI ((pn_up (pn_up st a (st b)) b (st a)) z9)))), (qN, .inl (cI, 24, .inl (fun z9 => nI ((pn_up (pn_up ct a (ct b)) b (ct a)) z9)))), (qB, .inl (cZ, 24, .inl (fun z9 => pn_b ((pn_up bl a (bl b)) z9))))]) rfl d_S_exchange_73 (fun H locs hP hD hS => ?_)
  refine lv_aload_n hx hb d_S_exchange_74 rfl (lv_at hl 3 rfl) ?_
  refine pw_get Fx hK hP fld_S 0 rfl 3 (by decide) kw_35 (v := .ref qB) rfl d_S_exchange_75 ?_
  refine lv_iload_n hx hb d_S_exchange_78 rfl (lv_at hl 5 rfl) ?_
  refine lv_iload hx hb d_S_exchange_79 (lv_at hl 0 rfl) ?_
  refine pw_zastN Fx hK hP hD hS 4 1 (g := pn_up bl a (bl b)) rfl rfl (k := b) (by omega) (by decide) (w' := [(oS, .inr (2, [.ref qC, .ref qS, .ref qN, .ref qB, .int (nI us)])), (qC, .inl (cI, 17500, .inl C)), (qS, .inl (cI, 24, .inl (fun z9 => nI ((pn_up (pn_up st a (st b)) b (st a)) z9)))), (qN, .inl (cI, 24, .inl (fun z9 => nI ((pn_up (pn_up ct a (ct b)) b (ct a)) z9)))), (qB, .inl (cZ, 24, .inl (fun z9 => pn_b ((pn_up (pn_up bl a (bl b)) b (bl a)) z9))))]) rfl d_S_exchange_81 (fun H locs hP hD hS => ?_)
  exact pn_retv (()) Fx hr hlocks hQ hAe hP hD hS (by (try dsimp only); first | done | exact (trivial)) d_S_exchange_82

set_option maxHeartbeats 4000000 in
set_option maxRecDepth 100000 in
theorem c_S_turn (l : Launch) (D : va_G) (cI cZ cB cJ : ClassId) (sz : Nat) (oS qC qS qN qB : Nat) (C : Nat → Int32) (st ct : Nat → Nat) (bl : Nat → Bool) (us : Nat) (r : Nat) (hr24 : r < 24) (hct : ct r < 2 ^ 31) : pn_Cv l D (pn_ty cI cZ cB cJ) y_S_turn w_S_turn ({ frames := 0, cells := 0, slots := 0, locals := 0 } : Room) [.ref oS, .int (nI r)] [(oS, .inr (2, [.ref qC, .ref qS, .ref qN, .ref qB, .int (nI us)])), (qC, .inl (cI, 17500, .inl C)), (qS, .inl (cI, 24, .inl (fun z9 => nI (st z9)))), (qN, .inl (cI, 24, .inl (fun z9 => nI (ct z9)))), (qB, .inl (cZ, 24, .inl (fun z9 => pn_b (bl z9))))] sz (S := Bool) (fun z => z = (decide (0 < ct r) && !bl r)) (fun z => [(oS, .inr (2, [.ref qC, .ref qS, .ref qN, .ref qB, .int (nI us)])), (qC, .inl (cI, 17500, .inl C)), (qS, .inl (cI, 24, .inl (fun z9 => nI (st z9)))), (qN, .inl (cI, 24, .inl (fun z9 => nI (ct z9)))), (qB, .inl (cZ, 24, .inl (fun z9 => pn_b ((pn_up bl r z) z9))))]) := by
  refine pn_start (by decide) (Nat.le_of_ble_eq_true rfl) ?_
  intro p e s m below meth c A Q ls hQ hAe Fx hr hlocks hN hK hP hD hS hA hl
  have hx := Fx.1
  have hb := Fx.2.1
  have hl : lv_has ls 2 [(0, .ref oS), (1, .int (nI r))] := hl
  refine lv_aload_n hx hb d_S_turn_0 rfl (lv_at hl 0 rfl) ?_
  refine pw_get Fx hK hP fld_S 0 rfl 3 (by decide) kw_35 (v := .ref qB) rfl d_S_turn_1 ?_
  refine lv_iload_n hx hb d_S_turn_4 rfl (lv_at hl 1 rfl) ?_
  refine lv_aload_n hx hb d_S_turn_5 rfl (lv_at hl 0 rfl) ?_
  refine pw_get Fx hK hP fld_S 0 rfl 2 (by decide) kw_34 (v := .ref qN) rfl d_S_turn_6 ?_
  refine lv_iload_n hx hb d_S_turn_9 rfl (lv_at hl 1 rfl) ?_
  refine pw_iald Fx hK hP 3 0 (f := fun z9 => nI (ct z9)) rfl rfl (k := r) (by omega) (by decide) d_S_turn_10 ?_
  refine pn_topi (nI (ct r)) rfl ?_
  refine pw_if_le (a := ct r) (tgt := 27) hx hb d_S_turn_11 (by decide) (by omega) (fun h_11 => ?_) (fun h_11 => ?_)
  · skip
    have hz : false = (decide (0 < ct r) && !bl r) := by rw [h_11]; rfl
    refine lv_iconst (v := pn_b false) hx hb d_S_turn_27 (by decide) ?_
    refine pw_zastN Fx hK hP hD hS 4 1 (g := bl) rfl rfl (k := r) (by omega) (by decide) (w' := [(oS, .inr (2, [.ref qC, .ref qS, .ref qN, .ref qB, .int (nI us)])), (qC, .inl (cI, 17500, .inl C)), (qS, .inl (cI, 24, .inl (fun z9 => nI (st z9)))), (qN, .inl (cI, 24, .inl (fun z9 => nI (ct z9)))), (qB, .inl (cZ, 24, .inl (fun z9 => pn_b ((pn_up bl r false) z9))))]) rfl d_S_turn_28 (fun H locs hP hD hS => ?_)
    exact pn_retv (false) Fx hr hlocks hQ hAe hP hD hS (by (try dsimp only); first | done | exact (hz)) d_S_turn_29
  · skip
    refine lv_aload_n hx hb d_S_turn_14 rfl (lv_at hl 0 rfl) ?_
    refine pw_get Fx hK hP fld_S 0 rfl 3 (by decide) kw_35 (v := .ref qB) rfl d_S_turn_15 ?_
    refine lv_iload_n hx hb d_S_turn_18 rfl (lv_at hl 1 rfl) ?_
    refine pw_zald Fx hK hP 4 1 (f := fun z9 => pn_b (bl z9)) rfl rfl (k := r) (by omega) (by decide) d_S_turn_19 ?_
    refine pn_topi (pn_b (bl r)) rfl ?_
    refine pw_ifb_ne (tgt := 27) hx hb d_S_turn_20 (by decide) (fun h_20 => ?_) (fun h_20 => ?_)
    · skip
      have hz : false = (decide (0 < ct r) && !bl r) := by rw [h_20]; simp
      refine lv_iconst (v := pn_b false) hx hb d_S_turn_27 (by decide) ?_
      refine pw_zastN Fx hK hP hD hS 4 1 (g := bl) rfl rfl (k := r) (by omega) (by decide) (w' := [(oS, .inr (2, [.ref qC, .ref qS, .ref qN, .ref qB, .int (nI us)])), (qC, .inl (cI, 17500, .inl C)), (qS, .inl (cI, 24, .inl (fun z9 => nI (st z9)))), (qN, .inl (cI, 24, .inl (fun z9 => nI (ct z9)))), (qB, .inl (cZ, 24, .inl (fun z9 => pn_b ((pn_up bl r false) z9))))]) rfl d_S_turn_28 (fun H locs hP hD hS => ?_)
      exact pn_retv (false) Fx hr hlocks hQ hAe hP hD hS (by (try dsimp only); first | done | exact (hz)) d_S_turn_29
    · skip
      have hz : true = (decide (0 < ct r) && !bl r) := by rw [h_20, decide_eq_true h_11]; rfl
      refine lv_iconst (v := pn_b true) hx hb d_S_turn_23 (by decide) ?_
      refine lv_goto (tgt := 28) hx hb d_S_turn_24 (by decide) ?_
      refine pw_zastN Fx hK hP hD hS 4 1 (g := bl) rfl rfl (k := r) (by omega) (by decide) (w' := [(oS, .inr (2, [.ref qC, .ref qS, .ref qN, .ref qB, .int (nI us)])), (qC, .inl (cI, 17500, .inl C)), (qS, .inl (cI, 24, .inl (fun z9 => nI (st z9)))), (qN, .inl (cI, 24, .inl (fun z9 => nI (ct z9)))), (qB, .inl (cZ, 24, .inl (fun z9 => pn_b ((pn_up bl r true) z9))))]) rfl d_S_turn_28 (fun H locs hP hD hS => ?_)
      exact pn_retv (true) Fx hr hlocks hQ hAe hP hD hS (by (try dsimp only); first | done | exact (hz)) d_S_turn_29

set_option maxHeartbeats 4000000 in
set_option maxRecDepth 100000 in
theorem c_S_firstFrom (l : Launch) (D : va_G) (cI cZ cB cJ : ClassId) (sz : Nat) (oS qC qS qN qB : Nat) (C : Nat → Int32) (st ct : Nat → Nat) (bl : Nat → Bool) (us : Nat) (fr : Nat) (hfr : fr < 2 ^ 31) (hst : ∀ r, r < 24 → st r < 2 ^ 31) (hct : ∀ r, r < 24 → ct r < 2 ^ 31) : pn_Ci l D (pn_ty cI cZ cB cJ) y_S_firstFrom w_S_firstFrom ({ frames := 0, cells := 0, slots := 0, locals := 0 } : Room) [.ref oS, .int (nI fr)] [(oS, .inr (2, [.ref qC, .ref qS, .ref qN, .ref qB, .int (nI us)])), (qC, .inl (cI, 17500, .inl C)), (qS, .inl (cI, 24, .inl (fun z9 => nI (st z9)))), (qN, .inl (cI, 24, .inl (fun z9 => nI (ct z9)))), (qB, .inl (cZ, 24, .inl (fun z9 => pn_b (bl z9))))] sz (S := Unit) (fun fv _ => (fv = -1 ∧ ∀ j, j < 24 → 0 < ct j → st j < fr) ∨ (∃ k, k < 24 ∧ fv = nI k ∧ 0 < ct k ∧ fr ≤ st k ∧ ∀ j, j < 24 → 0 < ct j → fr ≤ st j → st k ≤ st j)) (fun _ => [(oS, .inr (2, [.ref qC, .ref qS, .ref qN, .ref qB, .int (nI us)])), (qC, .inl (cI, 17500, .inl C)), (qS, .inl (cI, 24, .inl (fun z9 => nI (st z9)))), (qN, .inl (cI, 24, .inl (fun z9 => nI (ct z9)))), (qB, .inl (cZ, 24, .inl (fun z9 => pn_b (bl z9))))]) := by
  refine pn_start (by decide) (Nat.le_of_ble_eq_true rfl) ?_
  intro p e s m below meth c A Q ls hQ hAe Fx hr hlocks hN hK hP hD hS hA hl
  have hx := Fx.1
  have hb := Fx.2.1
  have hl : lv_has ls 5 [(0, .ref oS), (1, .int (nI fr))] := hl
  refine lv_iconst (v := (-1)) hx hb d_S_firstFrom_0 (by decide) ?_
  refine lv_istore_n (lv' := [(2, .int (-1)), (0, .ref oS), (1, .int (nI fr))]) hx hb d_S_firstFrom_1 rfl hl (by decide) rfl (fun ls hl => ?_)
  refine lv_iconst (v := nI 0) hx hb d_S_firstFrom_2 (by decide) ?_
  refine lv_istore_n (lv' := [(3, .int (nI 0)), (2, .int (-1)), (0, .ref oS), (1, .int (nI fr))]) hx hb d_S_firstFrom_3 rfl hl (by decide) rfl (fun ls hl => ?_)
  have loop4 : ∀ (N : Nat) (i : Nat) (fv : Int32), 24 - i < N → (i ≤ 24) → ((fv = -1 ∧ ∀ j, j < i → 0 < ct j → st j < fr) ∨ (∃ k, k < i ∧ fv = nI k ∧ 0 < ct k ∧ fr ≤ st k ∧ ∀ j, j < i → 0 < ct j → fr ≤ st j → st k ≤ st j)) → ∀ (H : Heap) (locs : List Loc) (ls : Array Slot), lv_has ls 5 [(3, .int (nI i)), (2, .int fv), (0, .ref oS), (1, .int (nI fr))] → va_P D pn_cl [(oS, .inr (2, [.ref qC, .ref qS, .ref qN, .ref qB, .int (nI us)])), (qC, .inl (cI, 17500, .inl C)), (qS, .inl (cI, 24, .inl (fun z9 => nI (st z9)))), (qN, .inl (cI, 24, .inl (fun z9 => nI (ct z9)))), (qB, .inl (cZ, 24, .inl (fun z9 => pn_b (bl z9))))] H → va_D A [(oS, .inr (2, [.ref qC, .ref qS, .ref qN, .ref qB, .int (nI us)])), (qC, .inl (cI, 17500, .inl C)), (qS, .inl (cI, 24, .inl (fun z9 => nI (st z9)))), (qN, .inl (cI, 24, .inl (fun z9 => nI (ct z9)))), (qB, .inl (cZ, 24, .inl (fun z9 => pn_b (bl z9))))] → va_S A s.heap H locs → W p l e ({ frames := 0, cells := 0, slots := 0, locals := 0 } : Room) s m ([.ref oS, .int (nI fr)] : List Value).toArray below meth c H locs 0 0 Q (F0 m 4 ls []) := by
    intro N
    induction N with
    | zero => intro i fv hM; exact absurd hM (Nat.not_lt_zero _)
    | succ N ih4 =>
      intro i fv hM4 hi hF H locs ls hl hP hD hS
      refine lv_iload_n hx hb d_S_firstFrom_4 rfl (lv_at hl 0 rfl) ?_
      refine lv_bipush (v := nI 24) hx hb d_S_firstFrom_5 (by decide) ?_
      refine pw_icmp_ge (a := i) (b := 24) (tgt := 69) hx hb d_S_firstFrom_7 (by decide) (by omega) (by omega) (fun h_7 => ?_) (fun h_7 => ?_)
      · skip
        obtain rfl : 24 = i := by omega
        refine lv_iload_n hx hb d_S_firstFrom_69 rfl (lv_at hl 1 rfl) ?_
        exact pn_reti (()) Fx hr hlocks hQ hAe hP hD hS (by (try dsimp only); first | done | exact (hF)) d_S_firstFrom_70
      · skip
        refine lv_aload_n hx hb d_S_firstFrom_10 rfl (lv_at hl 2 rfl) ?_
        refine pw_get Fx hK hP fld_S 0 rfl 2 (by decide) kw_34 (v := .ref qN) rfl d_S_firstFrom_11 ?_
        refine lv_iload_n hx hb d_S_firstFrom_14 rfl (lv_at hl 0 rfl) ?_
        have hs1 := hst i (by omega)
        have hs2 := hct i (by omega)
        refine pw_iald Fx hK hP 3 0 (f := fun z9 => nI (ct z9)) rfl rfl (k := i) (by omega) (by decide) d_S_firstFrom_15 ?_
        refine pn_topi (nI (ct i)) rfl ?_
        refine pw_if_le (a := ct i) (tgt := 33) hx hb d_S_firstFrom_16 (by decide) (by omega) (fun h_16 => ?_) (fun h_16 => ?_)
        · skip
          have hnw : 0 < ct i → st i < fr := fun z => by omega
          refine lv_iconst (v := pn_b false) hx hb d_S_firstFrom_33 (by decide) ?_
          refine lv_istore (lv' := [(4, .int (pn_b false)), (3, .int (nI i)), (2, .int fv), (0, .ref oS), (1, .int (nI fr))]) hx hb d_S_firstFrom_34 hl (by decide) rfl (fun ls hl => ?_)
          refine lv_iload hx hb d_S_firstFrom_36 (lv_at hl 0 rfl) ?_
          refine pw_ifb_eq (tgt := 63) hx hb d_S_firstFrom_38 (by decide) (fun h_38 => ?_) (fun h_38 => ?_)
          · skip
            refine lv_iinc (v := nI (i + 1)) (lv' := [(3, .int (nI (i + 1))), (4, .int (pn_b false)), (2, .int fv), (0, .ref oS), (1, .int (nI fr))]) hx hb d_S_firstFrom_63 hl (k := 1) rfl (nI_add _ 1) (by decide) rfl (fun ls hl => ?_)
            refine lv_goto (tgt := 4) hx hb d_S_firstFrom_66 (by decide) ?_
            exact ih4 (i + 1) fv (by omega) (by omega) (hF.imp (fun z => ⟨z.1, fun j h1 h2 => (by rcases (show j = i ∨ j < i by omega) with y | y; (· subst y; exact hnw h2); (· exact z.2 j y h2))⟩) (fun z => by obtain ⟨k, a1, a2, a3, a4, a5⟩ := z; exact ⟨k, by omega, a2, a3, a4, fun j h1 h2 h3 => by rcases (show j = i ∨ j < i by omega) with y | y; (· subst y; have := hnw h2; omega); (· exact a5 j y h2 h3)⟩)) _ _ _ (lv_sub hl [0, 2, 3, 4] rfl) hP hD hS
          · skip
            exact absurd h_38 (by decide)
        · skip
          refine lv_aload_n hx hb d_S_firstFrom_19 rfl (lv_at hl 2 rfl) ?_
          refine pw_get Fx hK hP fld_S 0 rfl 1 (by decide) kw_33 (v := .ref qS) rfl d_S_firstFrom_20 ?_
          refine lv_iload_n hx hb d_S_firstFrom_23 rfl (lv_at hl 0 rfl) ?_
          refine pw_iald Fx hK hP 2 0 (f := fun z9 => nI (st z9)) rfl rfl (k := i) (by omega) (by decide) d_S_firstFrom_24 ?_
          refine pn_topi (nI (st i)) rfl ?_
          refine lv_iload_n hx hb d_S_firstFrom_25 rfl (lv_at hl 3 rfl) ?_
          refine pw_icmp_lt (a := st i) (b := fr) (tgt := 33) hx hb d_S_firstFrom_26 (by decide) (by omega) (by omega) (fun h_26 => ?_) (fun h_26 => ?_)
          · skip
            have hnw : 0 < ct i → st i < fr := fun _ => h_26
            refine lv_iconst (v := pn_b false) hx hb d_S_firstFrom_33 (by decide) ?_
            refine lv_istore (lv' := [(4, .int (pn_b false)), (3, .int (nI i)), (2, .int fv), (0, .ref oS), (1, .int (nI fr))]) hx hb d_S_firstFrom_34 hl (by decide) rfl (fun ls hl => ?_)
            refine lv_iload hx hb d_S_firstFrom_36 (lv_at hl 0 rfl) ?_
            refine pw_ifb_eq (tgt := 63) hx hb d_S_firstFrom_38 (by decide) (fun h_38 => ?_) (fun h_38 => ?_)
            · skip
              refine lv_iinc (v := nI (i + 1)) (lv' := [(3, .int (nI (i + 1))), (4, .int (pn_b false)), (2, .int fv), (0, .ref oS), (1, .int (nI fr))]) hx hb d_S_firstFrom_63 hl (k := 1) rfl (nI_add _ 1) (by decide) rfl (fun ls hl => ?_)
              refine lv_goto (tgt := 4) hx hb d_S_firstFrom_66 (by decide) ?_
              exact ih4 (i + 1) fv (by omega) (by omega) (hF.imp (fun z => ⟨z.1, fun j h1 h2 => (by rcases (show j = i ∨ j < i by omega) with y | y; (· subst y; exact hnw h2); (· exact z.2 j y h2))⟩) (fun z => by obtain ⟨k, a1, a2, a3, a4, a5⟩ := z; exact ⟨k, by omega, a2, a3, a4, fun j h1 h2 h3 => by rcases (show j = i ∨ j < i by omega) with y | y; (· subst y; have := hnw h2; omega); (· exact a5 j y h2 h3)⟩)) _ _ _ (lv_sub hl [0, 2, 3, 4] rfl) hP hD hS
            · skip
              exact absurd h_38 (by decide)
          · skip
            refine lv_iconst (v := pn_b true) hx hb d_S_firstFrom_29 (by decide) ?_
            refine lv_goto (tgt := 34) hx hb d_S_firstFrom_30 (by decide) ?_
            refine lv_istore (lv' := [(4, .int (pn_b true)), (3, .int (nI i)), (2, .int fv), (0, .ref oS), (1, .int (nI fr))]) hx hb d_S_firstFrom_34 hl (by decide) rfl (fun ls hl => ?_)
            refine lv_iload hx hb d_S_firstFrom_36 (lv_at hl 0 rfl) ?_
            refine pw_ifb_eq (tgt := 63) hx hb d_S_firstFrom_38 (by decide) (fun h_38 => ?_) (fun h_38 => ?_)
            · skip
              exact absurd h_38 (by decide)
            · skip
              refine lv_iload_n hx hb d_S_firstFrom_41 rfl (lv_at hl 2 rfl) ?_
              refine lv_iconst (v := (-1)) hx hb d_S_firstFrom_42 (by decide) ?_
              refine lv_icmp_eq (tgt := 61) hx hb d_S_firstFrom_43 (by decide) (fun h_43 => ?_) (fun h_43 => ?_)
              · skip
                refine lv_iload_n hx hb d_S_firstFrom_61 rfl (lv_at hl 1 rfl) ?_
                refine lv_istore_n (lv' := [(2, .int (nI i)), (4, .int (pn_b true)), (3, .int (nI i)), (0, .ref oS), (1, .int (nI fr))]) hx hb d_S_firstFrom_62 rfl hl (by decide) rfl (fun ls hl => ?_)
                refine lv_iinc (v := nI (i + 1)) (lv' := [(3, .int (nI (i + 1))), (2, .int (nI i)), (4, .int (pn_b true)), (0, .ref oS), (1, .int (nI fr))]) hx hb d_S_firstFrom_63 hl (k := 2) rfl (nI_add _ 1) (by decide) rfl (fun ls hl => ?_)
                refine lv_goto (tgt := 4) hx hb d_S_firstFrom_66 (by decide) ?_
                exact ih4 (i + 1) (nI i) (by omega) (by omega) (Or.inr ⟨i, by omega, rfl, h_16, h_26, fun j h1 h2 h3 => by rcases (show j = i ∨ j < i by omega) with y | y; (· subst y; exact Nat.le_refl _); (· have z := (hF.resolve_right (fun z => by obtain ⟨k, a1, a2, a3⟩ := z; rw [h_43] at a2; have e := congrArg Int32.toInt a2; rw [nI_toInt (by omega)] at e; have e2 : (-1 : Int32).toInt = -1 := rfl; omega)).2 j y h2; omega)⟩) _ _ _ (lv_sub hl [0, 1, 3, 4] rfl) hP hD hS
              · skip
                obtain ⟨k, hk1, rfl, hk2, hk3, hk4⟩ := hF.resolve_left (fun z => h_43 z.1)
                have hs3 := hst k (by omega)
                refine lv_aload_n hx hb d_S_firstFrom_46 rfl (lv_at hl 3 rfl) ?_
                refine pw_get Fx hK hP fld_S 0 rfl 1 (by decide) kw_33 (v := .ref qS) rfl d_S_firstFrom_47 ?_
                refine lv_iload_n hx hb d_S_firstFrom_50 rfl (lv_at hl 1 rfl) ?_
                refine pw_iald Fx hK hP 2 0 (f := fun z9 => nI (st z9)) rfl rfl (k := i) (by omega) (by decide) d_S_firstFrom_51 ?_
                refine pn_topi (nI (st i)) rfl ?_
                refine lv_aload_n hx hb d_S_firstFrom_52 rfl (lv_at hl 3 rfl) ?_
                refine pw_get Fx hK hP fld_S 0 rfl 1 (by decide) kw_33 (v := .ref qS) rfl d_S_firstFrom_53 ?_
                refine lv_iload_n hx hb d_S_firstFrom_56 rfl (lv_at hl 2 rfl) ?_
                refine pw_iald Fx hK hP 2 0 (f := fun z9 => nI (st z9)) rfl rfl (k := k) (by omega) (by decide) d_S_firstFrom_57 ?_
                refine pn_topi (nI (st k)) rfl ?_
                refine pw_icmp_ge (a := st i) (b := st k) (tgt := 63) hx hb d_S_firstFrom_58 (by decide) (by omega) (by omega) (fun h_58 => ?_) (fun h_58 => ?_)
                · skip
                  refine lv_iinc (v := nI (i + 1)) (lv' := [(3, .int (nI (i + 1))), (4, .int (pn_b true)), (2, .int (nI k)), (0, .ref oS), (1, .int (nI fr))]) hx hb d_S_firstFrom_63 hl (k := 1) rfl (nI_add _ 1) (by decide) rfl (fun ls hl => ?_)
                  refine lv_goto (tgt := 4) hx hb d_S_firstFrom_66 (by decide) ?_
                  exact ih4 (i + 1) (nI k) (by omega) (by omega) (Or.inr ⟨k, by omega, rfl, hk2, hk3, fun j h1 h2 h3 => by rcases (show j = i ∨ j < i by omega) with y | y; (· subst y; exact h_58); (· exact hk4 j y h2 h3)⟩) _ _ _ (lv_sub hl [0, 2, 3, 4] rfl) hP hD hS
                · skip
                  refine lv_iload_n hx hb d_S_firstFrom_61 rfl (lv_at hl 1 rfl) ?_
                  refine lv_istore_n (lv' := [(2, .int (nI i)), (4, .int (pn_b true)), (3, .int (nI i)), (0, .ref oS), (1, .int (nI fr))]) hx hb d_S_firstFrom_62 rfl hl (by decide) rfl (fun ls hl => ?_)
                  refine lv_iinc (v := nI (i + 1)) (lv' := [(3, .int (nI (i + 1))), (2, .int (nI i)), (4, .int (pn_b true)), (0, .ref oS), (1, .int (nI fr))]) hx hb d_S_firstFrom_63 hl (k := 2) rfl (nI_add _ 1) (by decide) rfl (fun ls hl => ?_)
                  refine lv_goto (tgt := 4) hx hb d_S_firstFrom_66 (by decide) ?_
                  exact ih4 (i + 1) (nI i) (by omega) (by omega) (Or.inr ⟨i, by omega, rfl, h_16, h_26, fun j h1 h2 h3 => by rcases (show j = i ∨ j < i by omega) with y | y; (· subst y; exact Nat.le_refl _); (· have := hk4 j y h2 h3; omega)⟩) _ _ _ (lv_sub hl [0, 1, 3, 4] rfl) hP hD hS
  exact loop4 _ 0 (-1) (Nat.lt_succ_self _) (by decide) (Or.inl ⟨rfl, fun j h => by omega⟩) _ _ _ hl hP hD hS
