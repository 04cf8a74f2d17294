abbrev pn_Cr (l : Launch) (D : va_G) (tys : List (ClassId × FieldType)) (y : MethodName) (w : List Cond) (rm : Room) (As : List Value) (w0 : va_W) (sz : Nat) {S : Type} (post : S → Prop) (wf : S → va_W) (adr : S → Nat) : Prop :=
  Met l y w rm (va_Pc As (pn_pre D tys w0 sz)) (va_Qr post (fun u a t => a = adr u ∧ pn_post D (va_A w0 sz) (wf u) t) (va_A w0 sz)) 0 0 (va_A w0 sz)
section PnR
variable {p : Program} {l : Launch} {e : Env} {R : Room} {s : State} {m : MethodId} {args : Array Value} {below : List Frame} {meth : Method} {c : Code} {H : Heap} {locs : List Loc} {cells slots : Nat} {Q : State → Prop}
variable {cc : ByteArray} {pc nL index : Nat} {ls : Array Slot} {own : String} {D : va_G} {w wc wr : va_W} {A A0 : Nat → Prop} {H0 : Heap}
theorem pn_br {S : Type} {post : S → Prop} {wf : S → va_W} {adr : S → Nat} {a : Array Value} {st0 rest : List Value} (isC isR : List Nat) (hP : va_P D pn_cl w H) (hD : va_D A0 w) (hS : va_S A0 H0 H locs) (hA : ∀ q, H0.size ≤ q → A0 q)
    (hr : va_Run p l e R s m args below meth c H locs cells slots 0 0 (F0 m pc ls st0) rest (va_Qr post (fun u a t => a = adr u ∧ pn_post D (va_A wc H.size) (wf u) t) (va_A wc H.size) a) (va_A wc H.size))
    (hC : isC.map (fun i => w[i]?) = wc.map some) (hR : isR.map (fun i => w[i]?) = wr.map some) (hn : va_nd isR = true) (hdis : ∀ i ∈ isR, i ∉ isC)
    (kk : ∀ (u : S) (H1 : Heap) (locs1 : List Loc), post u → va_P D pn_cl (wr ++ wf u) H1 → va_D A0 (wr ++ wf u) → va_S A0 H0 H1 locs1 → W p l e R s m args below meth c H1 locs1 cells slots Q (F0 m (pc + 3) ls (.ref (adr u) :: rest))) :
    W p l e R s m args below meth c H locs cells slots Q (F0 m pc ls st0) := by
  have hF := va_free hD hS hA isC hC
  refine va_callr hr hS (fun q _ h => hF q h) hF (fun u a t H1 locs1 ht hvm hw hB hz hk hS1 => ?_)
  obtain ⟨rfl, hP1, hD1⟩ := hB
  rw [ht] at hP1
  obtain ⟨hP2, hD2⟩ := va_join hP hD isC isR hC hR hn hdis hk hF hP1 hD1
  exact kk u H1 locs1 hw hP2 hD2 hS1
theorem pn_retr {S : Type} {post : S → Prop} {wf : S → va_W} {adr : S → Nat} {w0 : va_W} {sz : Nat} {nm : String} {a : Nat} (u : S) (Fx : CallFix p m c cc nL s args pn_all own) (hr : meth.sig.returnType = some (.object nm)) (hlocks : meth.locks = false) (hQ : Q = MQ below (va_Qr post (fun u a t => a = adr u ∧ pn_post D (va_A w0 sz) (wf u) t) (va_A w0 sz)) args s 0 0 (va_A w0 sz)) (hAe : A = va_A w0 sz) (ha : a = adr u) (hP : va_P D pn_cl (wf u) H) (hD : va_D A (wf u)) (hS : va_S A s.heap H locs) (hp : post u) (hdg : decode cc pc = .ok (.areturn, 1)) :
    W p l e R s m args below meth c H locs 0 0 Q (F0 m pc ls [.ref a]) := by
  subst hQ; subst hAe
  exact W.aret Fx.1 Fx.2.1 hr (Or.inl ⟨nm, rfl⟩) (Or.inr ⟨a, rfl⟩) (fun t ht hW => ⟨⟨u, a, rfl, hp, ha, by rw [ht]; exact hP, hD⟩, hS.F ht⟩) hS.2.2 hdg hlocks
theorem pw_max0 {rest : List Value} (Fx : CallFix p m c cc nL s args pn_all own) (hsz : ls.size = nL) (kl : Cond.methodLink own index Lib.Math.max.name ∈ pn_all) {z : Int} (hz0 : -2147483648 ≤ z) (hz1 : z < 2147483648) (hframes : 1 ≤ R.frames) (hlocals : (rest.map fun v => v.category).sum + 13 ≤ R.locals) (hc : cells ≤ R.cells ∧ slots ≤ R.slots) (hdg : decode cc pc = .ok (.invokestatic index, 3))
    (kk : W p l e R s m args below meth c H locs cells slots Q (F0 m (pc + 3) ls (.int (nI z.toNat) :: rest))) : W p l e R s m args below meth c H locs cells slots Q (F0 m pc ls (.int (nI 0) :: .int (pn_I z) :: rest)) := by
  refine va_mmax Fx.1 Fx.2.1 (Fx.2.2.1.trans hsz.symm) Fx.2.2.2.1 (Fx.2.2.2.2 _ kl) (Fx.2.2.2.2 _ kx_maxS) (Fx.2.2.2.2 _ kx_math) (Fx.2.2.2.2 _ kx_max) hframes hlocals hc.1 hc.2 hdg ?_
  have e : (if pn_I z < nI 0 then nI 0 else pn_I z) = nI z.toNat := by
    have e0 : nI 0 = pn_I 0 := rfl
    by_cases h : z < 0
    · rw [e0, if_pos ((pn_I_lt hz0 hz1 (by omega) (by omega)).mpr h), show z.toNat = 0 by omega]; rfl
    · rw [e0, if_neg (fun y => h ((pn_I_lt hz0 hz1 (by omega) (by omega)).mp y)), ← pn_I_nI]; congr 1; omega
  rw [e]
  exact kk
end PnR
theorem pn_pr_half {P Q : Int} {i : Nat} (hi : i < 40000) (h : P < 2 ^ (40000 - i)) (h2 : 2 * Q ≤ P) : Q < 2 ^ (40000 - (i + 1)) := by
  have e : (2 : Int) ^ (40000 - i) = 2 ^ (40000 - (i + 1)) * 2 := by rw [← Int.pow_succ]; congr 1; omega
  rw [e] at h
  generalize (2 : Int) ^ (40000 - (i + 1)) = X at *
  omega
theorem pn_pr_0 {x y : Int} (hx : 0 ≤ x) (hy : 0 ≤ y) (hl1 : pn_len x ≤ 20000) (hl2 : pn_len y ≤ 20000) : x * y < 2 ^ (40000 - 0) := by
  have a1 := (pn_len_le hx 20000).mp hl1
  have a2 := (pn_len_le hy 20000).mp hl2
  rw [show 40000 - 0 = 20000 + 20000 from rfl, Int.pow_add]
  generalize (2 : Int) ^ 20000 = X at *
  have b1 := pn_mul_le (show x ≤ X - 1 by omega) hy
  have b2 := pn_le_mul (show y ≤ X - 1 by omega) (show 0 ≤ X - 1 by omega)
  have e : (X - 1) * (X - 1) = X * X - 2 * X + 1 := by grind
  omega
theorem pn_pr_end {x y : Int} {i : Nat} (hi : 40000 ≤ i) (hx : 0 ≤ x) (hy : 0 ≤ y) (hyx : y ≤ x) (h : x * y < 2 ^ (40000 - i)) : y = 0 := by
  rw [show 40000 - i = 0 by omega, Int.pow_zero] at h
  rcases (show y = 0 ∨ 1 ≤ y by omega) with z | z
  · exact z
  · have := pn_mul_le (show 1 ≤ x by omega) hy
    omega
theorem pn_gcd_mod (x y : Int) : Int.gcd y (x % y) = Int.gcd x y := by
  rw [Int.emod_def, Int.mul_comm, pn_gcd_step]
theorem pn_mod_half {x y : Int} (hy : 0 < y) (hyx : y ≤ x) : 2 * (y * (x % y)) ≤ x * y := pn_half (q := x / y) (by omega) hyx (by rw [Int.emod_def, Int.mul_comm]) (Int.emod_nonneg _ (by omega)) (Int.emod_lt_of_pos _ hy)
theorem pn_lead {x : Int} {k : Nat} (h0 : 0 ≤ x) (h : x < 2 ^ (k + 62)) : x = 2 ^ k * (x / 2 ^ k) + x % 2 ^ k ∧ 0 ≤ x % 2 ^ k ∧ x % 2 ^ k ≤ 2 ^ k ∧ 0 ≤ x / 2 ^ k ∧ x / 2 ^ k < 4611686018427387904 ∧ (0 : Int) < 2 ^ k := by
  have hp : (0 : Int) < 2 ^ k := by rw [pn_two]; have := Nat.two_pow_pos k; omega
  have e := Int.mul_ediv_add_emod x (2 ^ k)
  have m := Int.emod_lt_of_pos x hp
  refine ⟨by omega, Int.emod_nonneg _ (by omega), by omega, Int.ediv_nonneg h0 (by omega), Int.ediv_lt_of_lt_mul hp ?_, hp⟩
  rw [Int.pow_add, Int.mul_comm] at h
  exact h

set_option maxHeartbeats 4000000 in
set_option maxRecDepth 100000 in
theorem c_E_greatest (l : Launch) (D : va_G) (cI cZ cB cJ : ClassId) (sz : Nat) (oe : Nat) (a0 b0 c0 d0 : Int) (o1 q1 : Nat) (f1 : Nat → Int32) (n1 : Nat) (b1 : Bool) (o2 q2 : Nat) (f2 : Nat → Int32) (n2 : Nat) (b2 : Bool) (ot qt : Nat) (ft : Nat → Int32) (nt : Nat) (bt : Bool) (hn1 : n1 ≤ 630) (hn2 : n2 ≤ 630) (hz1 : pn_nz f1 n1) (hz2 : pn_nz f2 n2) (hl1 : pn_len (pn_V f1 n1) ≤ 20000) (hl2 : pn_len (pn_V f2 n2) ≤ 20000) : pn_Cr l D (pn_ty cI cZ cB cJ) y_E_greatest w_E_greatest ({ frames := 4, cells := 0, slots := 0, locals := 140 } : Room) [.ref oe, .ref o1, .ref o2, .ref ot] [(oe, .inr (0, [.long (pn_L a0), .long (pn_L b0), .long (pn_L c0), .long (pn_L d0)])), (o1, .inr (1, [.ref q1, .int (nI n1), .int (pn_b b1)])), (q1, .inl (cI, 632, .inl f1)), (o2, .inr (1, [.ref q2, .int (nI n2), .int (pn_b b2)])), (q2, .inl (cI, 632, .inl f2)), (ot, .inr (1, [.ref qt, .int (nI nt), .int (pn_b bt)])), (qt, .inl (cI, 632, .inl ft))] sz (S := Bool × ((Nat → Int32) × Nat × Bool) × ((Nat → Int32) × Nat × Bool) × ((Nat → Int32) × Nat × Bool) × (Int × Int × Int × Int)) (fun u => (u.1 = true → u.2.1.2.1 ≤ 630 ∧ pn_nz u.2.1.1 u.2.1.2.1 ∧ pn_V u.2.1.1 u.2.1.2.1 = ((Int.gcd (pn_V f1 n1) (pn_V f2 n2) : Nat) : Int)) ∧ (u.1 = false → u.2.2.1.2.1 ≤ 630 ∧ pn_nz u.2.2.1.1 u.2.2.1.2.1 ∧ pn_V u.2.2.1.1 u.2.2.1.2.1 = ((Int.gcd (pn_V f1 n1) (pn_V f2 n2) : Nat) : Int))) (fun u => [(oe, .inr (0, [.long (pn_L u.2.2.2.2.1), .long (pn_L u.2.2.2.2.2.1), .long (pn_L u.2.2.2.2.2.2.1), .long (pn_L u.2.2.2.2.2.2.2)])), (o1, .inr (1, [.ref q1, .int (nI u.2.1.2.1), .int (pn_b (u.1 != true && u.2.1.2.2))])), (q1, .inl (cI, 632, .inl u.2.1.1)), (o2, .inr (1, [.ref q2, .int (nI u.2.2.1.2.1), .int (pn_b (u.1 && u.2.2.1.2.2))])), (q2, .inl (cI, 632, .inl u.2.2.1.1)), (ot, .inr (1, [.ref qt, .int (nI u.2.2.2.1.2.1), .int (pn_b u.2.2.2.1.2.2)])), (qt, .inl (cI, 632, .inl u.2.2.2.1.1))]) (fun u => if u.1 then o1 else o2) := by
  refine pn_start (by decide) (Nat.le_of_ble_eq_true rfl) ?_
  intro p e s m below meth c A Q ls hQ hAe Fx hr hlocks hN hK hP hD hS hA hl
  have hx := Fx.1
  have hb := Fx.2.1
  have hl : lv_has ls 10 [(0, .ref oe), (1, .ref o1), (2, .ref o2), (3, .ref ot)] := hl
  refine lv_aload_n hx hb d_E_greatest_0 rfl (lv_at hl 1 rfl) ?_
  refine lv_aload_n hx hb d_E_greatest_1 rfl (lv_at hl 2 rfl) ?_
  refine pn_bi (wr := [(oe, .inr (0, [.long (pn_L a0), .long (pn_L b0), .long (pn_L c0), .long (pn_L d0)])), (ot, .inr (1, [.ref qt, .int (nI nt), .int (pn_b bt)])), (qt, .inl (cI, 632, .inl ft))]) [1, 2, 3, 4] [0, 5, 6] hP hD hS hA (pn_rVN [.ref o2] [] Fx hK hN hP hD [1, 2, 3, 4] rfl rfl (c_R_compareSize l D cI cZ cB cJ _ o1 q1 f1 n1 b1 o2 q2 f2 n2 b2 (by omega) (by omega) hz1 hz2) kn_542 cal_R_compareSize inst_R_compareSize sel_R_compareSize ⟨by decide, by decide⟩ ⟨rfl, rfl⟩ 0 rfl rfl rfl rfl hl.1 (Nat.le_of_ble_eq_true rfl) d_E_greatest_2 ⟨Nat.zero_le _, Nat.zero_le _⟩) rfl rfl rfl (by decide) (fun r_2 u_2 H locs hw hP hD hS => ?_)
  obtain ⟨⟩ := u_2
  obtain rfl := hw
  have hP : va_P D pn_cl [(oe, .inr (0, [.long (pn_L a0), .long (pn_L b0), .long (pn_L c0), .long (pn_L d0)])), (ot, .inr (1, [.ref qt, .int (nI nt), .int (pn_b bt)])), (qt, .inl (cI, 632, .inl ft)), (o1, .inr (1, [.ref q1, .int (nI n1), .int (pn_b b1)])), (q1, .inl (cI, 632, .inl f1)), (o2, .inr (1, [.ref q2, .int (nI n2), .int (pn_b b2)])), (q2, .inl (cI, 632, .inl f2))] H := hP
  have hD : va_D A [(oe, .inr (0, [.long (pn_L a0), .long (pn_L b0), .long (pn_L c0), .long (pn_L d0)])), (ot, .inr (1, [.ref qt, .int (nI nt), .int (pn_b bt)])), (qt, .inl (cI, 632, .inl ft)), (o1, .inr (1, [.ref q1, .int (nI n1), .int (pn_b b1)])), (q1, .inl (cI, 632, .inl f1)), (o2, .inr (1, [.ref q2, .int (nI n2), .int (pn_b b2)])), (q2, .inl (cI, 632, .inl f2))] := hD
  refine lv_if_lt (tgt := 12) hx hb d_E_greatest_5 (by decide) (fun h_5 => ?_) (fun h_5 => ?_)
  · skip
    have hge0 : pn_V f1 n1 < pn_V f2 n2 := pn_cmp_neg.mp h_5
    refine lv_iconst (v := pn_b false) hx hb d_E_greatest_12 (by decide) ?_
    refine lv_istore (lv' := [(4, .int (pn_b false)), (0, .ref oe), (1, .ref o1), (2, .ref o2), (3, .ref ot)]) hx hb d_E_greatest_13 hl (by decide) rfl (fun ls hl => ?_)
    refine lv_iload hx hb d_E_greatest_15 (lv_at hl 0 rfl) ?_
    refine pw_ifb_eq (tgt := 24) hx hb d_E_greatest_17 (by decide) (fun h_17 => ?_) (fun h_17 => ?_)
    · skip
      refine lv_aload_n hx hb d_E_greatest_24 rfl (lv_at hl 3 rfl) ?_
      refine lv_astore (lv' := [(5, .ref o2), (4, .int (pn_b false)), (0, .ref oe), (1, .ref o1), (2, .ref o2), (3, .ref ot)]) hx hb d_E_greatest_25 hl (by decide) rfl (fun ls hl => ?_)
      refine lv_iload hx hb d_E_greatest_27 (lv_at hl 1 rfl) ?_
      refine pw_ifb_eq (tgt := 36) hx hb d_E_greatest_29 (by decide) (fun h_29 => ?_) (fun h_29 => ?_)
      · skip
        refine lv_aload_n hx hb d_E_greatest_36 rfl (lv_at hl 3 rfl) ?_
        refine lv_astore (lv' := [(6, .ref o1), (5, .ref o2), (4, .int (pn_b false)), (0, .ref oe), (1, .ref o1), (2, .ref o2), (3, .ref ot)]) hx hb d_E_greatest_37 hl (by decide) rfl (fun ls hl => ?_)
        refine lv_iconst (v := nI 0) hx hb d_E_greatest_39 (by decide) ?_
        refine lv_istore (lv' := [(7, .int (nI 0)), (6, .ref o1), (5, .ref o2), (4, .int (pn_b false)), (0, .ref oe), (1, .ref o1), (2, .ref o2), (3, .ref ot)]) hx hb d_E_greatest_40 hl (by decide) rfl (fun ls hl => ?_)
        have loop42 : ∀ (N : Nat) (i : Nat) (og : Nat) (qg : Nat) (fg : Nat → Int32) (ng : Nat) (bg : Bool) (os : Nat) (qs : Nat) (fs : Nat → Int32) (ns : Nat) (bs : Bool) (fv : Nat → Int32) (nv : Nat) (bv : Bool) (ka : Int) (kb : Int) (kc : Int) (kd : Int), 40000 - i < N → ((o1 = og ∧ q1 = qg ∧ o2 = os ∧ q2 = qs) ∨ (o2 = og ∧ q2 = qg ∧ o1 = os ∧ q1 = qs)) → (i ≤ 40000) → (ng ≤ 630) → (ns ≤ 630) → (pn_nz fg ng) → (pn_nz fs ns) → (pn_V fs ns ≤ pn_V fg ng) → (Int.gcd (pn_V fg ng) (pn_V fs ns) = Int.gcd (pn_V f1 n1) (pn_V f2 n2)) → (pn_V fg ng * pn_V fs ns < 2 ^ (40000 - i)) → (pn_len (pn_V fg ng) ≤ 20000) → ∀ (H : Heap) (locs : List Loc) (ls : Array Slot), lv_has ls 10 [(7, .int (nI i)), (5, .ref og), (6, .ref os), (0, .ref oe), (3, .ref ot)] → va_P D pn_cl [(oe, .inr (0, [.long (pn_L ka), .long (pn_L kb), .long (pn_L kc), .long (pn_L kd)])), (og, .inr (1, [.ref qg, .int (nI ng), .int (pn_b bg)])), (qg, .inl (cI, 632, .inl fg)), (os, .inr (1, [.ref qs, .int (nI ns), .int (pn_b bs)])), (qs, .inl (cI, 632, .inl fs)), (ot, .inr (1, [.ref qt, .int (nI nv), .int (pn_b bv)])), (qt, .inl (cI, 632, .inl fv))] H → va_D A [(oe, .inr (0, [.long (pn_L ka), .long (pn_L kb), .long (pn_L kc), .long (pn_L kd)])), (og, .inr (1, [.ref qg, .int (nI ng), .int (pn_b bg)])), (qg, .inl (cI, 632, .inl fg)), (os, .inr (1, [.ref qs, .int (nI ns), .int (pn_b bs)])), (qs, .inl (cI, 632, .inl fs)), (ot, .inr (1, [.ref qt, .int (nI nv), .int (pn_b bv)])), (qt, .inl (cI, 632, .inl fv))] → va_S A s.heap H locs → W p l e ({ frames := 4, cells := 0, slots := 0, locals := 140 } : Room) s m ([.ref oe, .ref o1, .ref o2, .ref ot] : List Value).toArray below meth c H locs 0 0 Q (F0 m 42 ls []) := by
          intro N
          induction N with
          | zero => intro i og qg fg ng bg os qs fs ns bs fv nv bv ka kb kc kd hM; exact absurd hM (Nat.not_lt_zero _)
          | succ N ih42 =>
            intro i og qg fg ng bg os qs fs ns bs fv nv bv ka kb kc kd hM42 hsw hi hng hns hzg hzs hge hgcd hpr hlen H locs ls hl hP hD hS
            refine lv_iload hx hb d_E_greatest_42 (lv_at hl 0 rfl) ?_
            refine lv_ldc hx hb Fx.2.2.2.1 (Fx.2.2.2.2 _ kw_543) d_E_greatest_44 ?_
            refine pn_topi (nI 40000) (by decide) ?_
            refine pw_icmp_ge (a := i) (b := 40000) (tgt := 135) hx hb d_E_greatest_46 (by decide) (by omega) (by omega) (fun h_46 => ?_) (fun h_46 => ?_)
            · skip
              have hS0 := pn_pr_end h_46 (pn_V_nonneg _ _) (pn_V_nonneg _ _) hge hpr
              refine lv_aload hx hb d_E_greatest_135 (lv_at hl 1 rfl) ?_
              refine lv_iconst (v := nI 0) hx hb d_E_greatest_137 (by decide) ?_
              refine pn_topi (pn_b false) (by decide) ?_
              refine pw_putN Fx hN hK hP hD hS fld_R 1 rfl 2 (by decide) kn_103 rfl (pn_b_nar _) (pn_b_fit _) (Nat.le_of_ble_eq_true rfl) (w' := [(oe, .inr (0, [.long (pn_L ka), .long (pn_L kb), .long (pn_L kc), .long (pn_L kd)])), (og, .inr (1, [.ref qg, .int (nI ng), .int (pn_b false)])), (qg, .inl (cI, 632, .inl fg)), (os, .inr (1, [.ref qs, .int (nI ns), .int (pn_b bs)])), (qs, .inl (cI, 632, .inl fs)), (ot, .inr (1, [.ref qt, .int (nI nv), .int (pn_b bv)])), (qt, .inl (cI, 632, .inl fv))]) rfl d_E_greatest_138 (fun H locs hP hD hS => ?_)
              refine lv_aload hx hb d_E_greatest_141 (lv_at hl 1 rfl) ?_
              rcases hsw with ⟨rfl, rfl, rfl, rfl⟩ | ⟨rfl, rfl, rfl, rfl⟩
              · exact pn_retr ((true, (fg, ng, false), (fs, ns, bs), (fv, nv, bv), (ka, kb, kc, kd))) Fx hr hlocks hQ hAe rfl (hP.sub [0, 1, 2, 3, 4, 5, 6] rfl) (hD.sub [0, 1, 2, 3, 4, 5, 6] (by decide) rfl) hS (⟨fun _ => ⟨by omega, hzg, by rw [← hgcd, hS0, Int.gcd_zero]; exact (Int.natAbs_of_nonneg (pn_V_nonneg _ _)).symm⟩, fun z => absurd (show true = false from z) (by decide)⟩) d_E_greatest_143
              · exact pn_retr ((false, (fs, ns, bs), (fg, ng, false), (fv, nv, bv), (ka, kb, kc, kd))) Fx hr hlocks hQ hAe rfl (hP.sub [0, 3, 4, 1, 2, 5, 6] rfl) (hD.sub [0, 3, 4, 1, 2, 5, 6] (by decide) rfl) hS (⟨fun z => absurd (show false = true from z) (by decide), fun _ => ⟨by omega, hzg, by rw [← hgcd, hS0, Int.gcd_zero]; exact (Int.natAbs_of_nonneg (pn_V_nonneg _ _)).symm⟩⟩) d_E_greatest_143
            · skip
              refine lv_aload hx hb d_E_greatest_49 (lv_at hl 2 rfl) ?_
              refine pw_getN Fx hN hK hP fld_R 3 rfl 1 (by decide) kn_97 (v := .int (nI ns)) rfl d_E_greatest_51 ?_
              refine pw_if_le (a := ns) (tgt := 135) hx hb d_E_greatest_54 (by decide) (by omega) (fun h_54 => ?_) (fun h_54 => ?_)
              · skip
                have hS0 : pn_V fs ns = 0 := by rw [h_54]; rfl
                refine lv_aload hx hb d_E_greatest_135 (lv_at hl 1 rfl) ?_
                refine lv_iconst (v := nI 0) hx hb d_E_greatest_137 (by decide) ?_
                refine pn_topi (pn_b false) (by decide) ?_
                refine pw_putN Fx hN hK hP hD hS fld_R 1 rfl 2 (by decide) kn_103 rfl (pn_b_nar _) (pn_b_fit _) (Nat.le_of_ble_eq_true rfl) (w' := [(oe, .inr (0, [.long (pn_L ka), .long (pn_L kb), .long (pn_L kc), .long (pn_L kd)])), (og, .inr (1, [.ref qg, .int (nI ng), .int (pn_b false)])), (qg, .inl (cI, 632, .inl fg)), (os, .inr (1, [.ref qs, .int (nI ns), .int (pn_b bs)])), (qs, .inl (cI, 632, .inl fs)), (ot, .inr (1, [.ref qt, .int (nI nv), .int (pn_b bv)])), (qt, .inl (cI, 632, .inl fv))]) rfl d_E_greatest_138 (fun H locs hP hD hS => ?_)
                refine lv_aload hx hb d_E_greatest_141 (lv_at hl 1 rfl) ?_
                rcases hsw with ⟨rfl, rfl, rfl, rfl⟩ | ⟨rfl, rfl, rfl, rfl⟩
                · exact pn_retr ((true, (fg, ng, false), (fs, ns, bs), (fv, nv, bv), (ka, kb, kc, kd))) Fx hr hlocks hQ hAe rfl (hP.sub [0, 1, 2, 3, 4, 5, 6] rfl) (hD.sub [0, 1, 2, 3, 4, 5, 6] (by decide) rfl) hS (⟨fun _ => ⟨by omega, hzg, by rw [← hgcd, hS0, Int.gcd_zero]; exact (Int.natAbs_of_nonneg (pn_V_nonneg _ _)).symm⟩, fun z => absurd (show true = false from z) (by decide)⟩) d_E_greatest_143
                · exact pn_retr ((false, (fs, ns, bs), (fg, ng, false), (fv, nv, bv), (ka, kb, kc, kd))) Fx hr hlocks hQ hAe rfl (hP.sub [0, 3, 4, 1, 2, 5, 6] rfl) (hD.sub [0, 3, 4, 1, 2, 5, 6] (by decide) rfl) hS (⟨fun z => absurd (show false = true from z) (by decide), fun _ => ⟨by omega, hzg, by rw [← hgcd, hS0, Int.gcd_zero]; exact (Int.natAbs_of_nonneg (pn_V_nonneg _ _)).symm⟩⟩) d_E_greatest_143
              · skip
                have hSp := pn_V_pos hzs h_54
                have hlb := (pn_len_le (pn_V_nonneg fg ng) (pn_len (pn_V fg ng) - 62 + 62)).mp (by omega)
                have hlc : pn_V fs ns < 2 ^ (pn_len (pn_V fg ng) - 62 + 62) := by generalize (2 : Int) ^ (pn_len (pn_V fg ng) - 62 + 62) = X at *; omega
                have le1 := pn_lead (pn_V_nonneg fg ng) hlb
                have le2 := pn_lead (pn_V_nonneg fs ns) hlc
                refine lv_aload hx hb d_E_greatest_57 (lv_at hl 1 rfl) ?_
                refine pn_bi (wr := [(oe, .inr (0, [.long (pn_L ka), .long (pn_L kb), .long (pn_L kc), .long (pn_L kd)])), (os, .inr (1, [.ref qs, .int (nI ns), .int (pn_b bs)])), (qs, .inl (cI, 632, .inl fs)), (ot, .inr (1, [.ref qt, .int (nI nv), .int (pn_b bv)])), (qt, .inl (cI, 632, .inl fv))]) [1, 2] [0, 3, 4, 5, 6] hP hD hS hA (pn_rVN [] [] Fx hK hN hP hD [1, 2] rfl rfl (c_R_bits l D cI cZ cB cJ _ og qg fg ng bg (by omega) hzg) kn_544 cal_R_bits inst_R_bits sel_R_bits ⟨by decide, by decide⟩ ⟨rfl, rfl⟩ 0 rfl rfl rfl rfl hl.1 (Nat.le_of_ble_eq_true rfl) d_E_greatest_59 ⟨Nat.zero_le _, Nat.zero_le _⟩) rfl rfl rfl (by decide) (fun r_59 u_59 H locs hw hP hD hS => ?_)
                obtain ⟨⟩ := u_59
                obtain rfl := hw
                have hP : va_P D pn_cl [(oe, .inr (0, [.long (pn_L ka), .long (pn_L kb), .long (pn_L kc), .long (pn_L kd)])), (os, .inr (1, [.ref qs, .int (nI ns), .int (pn_b bs)])), (qs, .inl (cI, 632, .inl fs)), (ot, .inr (1, [.ref qt, .int (nI nv), .int (pn_b bv)])), (qt, .inl (cI, 632, .inl fv)), (og, .inr (1, [.ref qg, .int (nI ng), .int (pn_b bg)])), (qg, .inl (cI, 632, .inl fg))] H := hP
                have hD : va_D A [(oe, .inr (0, [.long (pn_L ka), .long (pn_L kb), .long (pn_L kc), .long (pn_L kd)])), (os, .inr (1, [.ref qs, .int (nI ns), .int (pn_b bs)])), (qs, .inl (cI, 632, .inl fs)), (ot, .inr (1, [.ref qt, .int (nI nv), .int (pn_b bv)])), (qt, .inl (cI, 632, .inl fv)), (og, .inr (1, [.ref qg, .int (nI ng), .int (pn_b bg)])), (qg, .inl (cI, 632, .inl fg))] := hD
                refine lv_bipush (v := nI 62) hx hb d_E_greatest_62 (by decide) ?_
                refine lv_isub hx hb d_E_greatest_64 ?_
                refine pn_topi (pn_I ((pn_len (pn_V fg ng) : Int) - 62)) (by rw [← pn_I_nI, ← pn_I_nI, pn_I_sub]; rfl) ?_
                refine lv_iconst (v := nI 0) hx hb d_E_greatest_65 (by decide) ?_
                refine pw_max0 Fx hl.1 kw_545 (z := (pn_len (pn_V fg ng) : Int) - 62) (by omega) (by omega) (rest := []) (by decide) (Nat.le_of_ble_eq_true rfl) ⟨Nat.zero_le _, Nat.zero_le _⟩ d_E_greatest_66 ?_
                refine pn_topi (nI (pn_len (pn_V fg ng) - 62)) (by congr 1; omega) ?_
                refine lv_istore (lv' := [(8, .int (nI (pn_len (pn_V fg ng) - 62))), (7, .int (nI i)), (5, .ref og), (6, .ref os), (0, .ref oe), (3, .ref ot)]) hx hb d_E_greatest_69 hl (by decide) rfl (fun ls hl => ?_)
                refine lv_aload_n hx hb d_E_greatest_71 rfl (lv_at hl 4 rfl) ?_
                refine lv_aload hx hb d_E_greatest_72 (lv_at hl 2 rfl) ?_
                refine lv_iload hx hb d_E_greatest_74 (lv_at hl 0 rfl) ?_
                refine pn_bl (wr := [(oe, .inr (0, [.long (pn_L ka), .long (pn_L kb), .long (pn_L kc), .long (pn_L kd)])), (os, .inr (1, [.ref qs, .int (nI ns), .int (pn_b bs)])), (qs, .inl (cI, 632, .inl fs)), (ot, .inr (1, [.ref qt, .int (nI nv), .int (pn_b bv)])), (qt, .inl (cI, 632, .inl fv))]) [5, 6] [0, 1, 2, 3, 4] hP hD hS hA (pn_rVN [.int (nI (pn_len (pn_V fg ng) - 62))] [.ref oe] Fx hK hN hP hD [5, 6] rfl rfl (c_R_bitsFrom l D cI cZ cB cJ _ og qg fg ng bg (pn_len (pn_V fg ng) - 62) (by omega) (by omega) hlb) kn_546 cal_R_bitsFrom inst_R_bitsFrom sel_R_bitsFrom ⟨by decide, by decide⟩ ⟨rfl, rfl⟩ 0 rfl rfl rfl rfl hl.1 (Nat.le_of_ble_eq_true rfl) d_E_greatest_76 ⟨Nat.zero_le _, Nat.zero_le _⟩) rfl rfl rfl (by decide) (fun r_76 u_76 H locs hw hP hD hS => ?_)
                obtain ⟨⟩ := u_76
                obtain rfl := hw
                have hP : va_P D pn_cl [(oe, .inr (0, [.long (pn_L ka), .long (pn_L kb), .long (pn_L kc), .long (pn_L kd)])), (os, .inr (1, [.ref qs, .int (nI ns), .int (pn_b bs)])), (qs, .inl (cI, 632, .inl fs)), (ot, .inr (1, [.ref qt, .int (nI nv), .int (pn_b bv)])), (qt, .inl (cI, 632, .inl fv)), (og, .inr (1, [.ref qg, .int (nI ng), .int (pn_b bg)])), (qg, .inl (cI, 632, .inl fg))] H := hP
                have hD : va_D A [(oe, .inr (0, [.long (pn_L ka), .long (pn_L kb), .long (pn_L kc), .long (pn_L kd)])), (os, .inr (1, [.ref qs, .int (nI ns), .int (pn_b bs)])), (qs, .inl (cI, 632, .inl fs)), (ot, .inr (1, [.ref qt, .int (nI nv), .int (pn_b bv)])), (qt, .inl (cI, 632, .inl fv)), (og, .inr (1, [.ref qg, .int (nI ng), .int (pn_b bg)])), (qg, .inl (cI, 632, .inl fg))] := hD
                refine lv_aload hx hb d_E_greatest_79 (lv_at hl 3 rfl) ?_
                refine lv_iload hx hb d_E_greatest_81 (lv_at hl 0 rfl) ?_
                refine pn_bl (wr := [(oe, .inr (0, [.long (pn_L ka), .long (pn_L kb), .long (pn_L kc), .long (pn_L kd)])), (ot, .inr (1, [.ref qt, .int (nI nv), .int (pn_b bv)])), (qt, .inl (cI, 632, .inl fv)), (og, .inr (1, [.ref qg, .int (nI ng), .int (pn_b bg)])), (qg, .inl (cI, 632, .inl fg))]) [1, 2] [0, 3, 4, 5, 6] hP hD hS hA (pn_rVN [.int (nI (pn_len (pn_V fg ng) - 62))] [.long (pn_L (pn_V fg ng / 2 ^ (pn_len (pn_V fg ng) - 62))), .ref oe] Fx hK hN hP hD [1, 2] rfl rfl (c_R_bitsFrom l D cI cZ cB cJ _ os qs fs ns bs (pn_len (pn_V fg ng) - 62) (by omega) (by omega) hlc) kn_546 cal_R_bitsFrom inst_R_bitsFrom sel_R_bitsFrom ⟨by decide, by decide⟩ ⟨rfl, rfl⟩ 0 rfl rfl rfl rfl hl.1 (Nat.le_of_ble_eq_true rfl) d_E_greatest_83 ⟨Nat.zero_le _, Nat.zero_le _⟩) rfl rfl rfl (by decide) (fun r_83 u_83 H locs hw hP hD hS => ?_)
                obtain ⟨⟩ := u_83
                obtain rfl := hw
                have hP : va_P D pn_cl [(oe, .inr (0, [.long (pn_L ka), .long (pn_L kb), .long (pn_L kc), .long (pn_L kd)])), (ot, .inr (1, [.ref qt, .int (nI nv), .int (pn_b bv)])), (qt, .inl (cI, 632, .inl fv)), (og, .inr (1, [.ref qg, .int (nI ng), .int (pn_b bg)])), (qg, .inl (cI, 632, .inl fg)), (os, .inr (1, [.ref qs, .int (nI ns), .int (pn_b bs)])), (qs, .inl (cI, 632, .inl fs))] H := hP
                have hD : va_D A [(oe, .inr (0, [.long (pn_L ka), .long (pn_L kb), .long (pn_L kc), .long (pn_L kd)])), (ot, .inr (1, [.ref qt, .int (nI nv), .int (pn_b bv)])), (qt, .inl (cI, 632, .inl fv)), (og, .inr (1, [.ref qg, .int (nI ng), .int (pn_b bg)])), (qg, .inl (cI, 632, .inl fg)), (os, .inr (1, [.ref qs, .int (nI ns), .int (pn_b bs)])), (qs, .inl (cI, 632, .inl fs))] := hD
                refine pn_bv (wr := [(ot, .inr (1, [.ref qt, .int (nI nv), .int (pn_b bv)])), (qt, .inl (cI, 632, .inl fv)), (og, .inr (1, [.ref qg, .int (nI ng), .int (pn_b bg)])), (qg, .inl (cI, 632, .inl fg)), (os, .inr (1, [.ref qs, .int (nI ns), .int (pn_b bs)])), (qs, .inl (cI, 632, .inl fs))]) [0] [1, 2, 3, 4, 5, 6] hP hD hS hA (pn_rV [.long (pn_L (pn_V fg ng / 2 ^ (pn_len (pn_V fg ng) - 62))), .long (pn_L (pn_V fs ns / 2 ^ (pn_len (pn_V fg ng) - 62)))] [] Fx hK hN hP hD [0] rfl rfl (c_E_foresee l D cI cZ cB cJ _ oe ka kb kc kd _ _ (pn_V fg ng) (pn_V fs ns) _ _ _ le1.2.2.2.2.2 le1.1 le2.1 le1.2.1 le1.2.2.1 le2.2.1 le2.2.2.1 le1.2.2.2.1 le1.2.2.2.2.1 le2.2.2.2.1 le2.2.2.2.2.1 hge (pn_V_nonneg _ _)) kw_550 cal_E_foresee inst_E_foresee sel_E_foresee ⟨by decide, by decide⟩ ⟨rfl, rfl⟩ 0 rfl rfl rfl rfl hl.1 (Nat.le_of_ble_eq_true rfl) d_E_greatest_86 ⟨Nat.zero_le _, Nat.zero_le _⟩) rfl rfl rfl (by decide) (fun u_86 H locs hw hP hD hS => ?_)
                obtain ⟨p1, p2, p3, p4⟩ := u_86
                obtain ⟨hS9, hp1, hp2, hp3, hp4, hY9, hG9, hM8⟩ := hw
                have hP : va_P D pn_cl [(ot, .inr (1, [.ref qt, .int (nI nv), .int (pn_b bv)])), (qt, .inl (cI, 632, .inl fv)), (og, .inr (1, [.ref qg, .int (nI ng), .int (pn_b bg)])), (qg, .inl (cI, 632, .inl fg)), (os, .inr (1, [.ref qs, .int (nI ns), .int (pn_b bs)])), (qs, .inl (cI, 632, .inl fs)), (oe, .inr (0, [.long (pn_L p1), .long (pn_L p2), .long (pn_L p3), .long (pn_L p4)]))] H := hP
                have hD : va_D A [(ot, .inr (1, [.ref qt, .int (nI nv), .int (pn_b bv)])), (qt, .inl (cI, 632, .inl fv)), (og, .inr (1, [.ref qg, .int (nI ng), .int (pn_b bg)])), (qg, .inl (cI, 632, .inl fg)), (os, .inr (1, [.ref qs, .int (nI ns), .int (pn_b bs)])), (qs, .inl (cI, 632, .inl fs)), (oe, .inr (0, [.long (pn_L p1), .long (pn_L p2), .long (pn_L p3), .long (pn_L p4)]))] := hD
                dsimp only at hS9 hp1 hp2 hp3 hp4 hY9 hG9 hM8
                have hEg := pn_V_lt fg ng
                refine lv_aload_n hx hb d_E_greatest_89 rfl (lv_at hl 4 rfl) ?_
                refine pw_get Fx hK hP fld_E 6 rfl 1 (by decide) kw_57 (v := .long (pn_L p2)) rfl d_E_greatest_90 ?_
                refine lv_lconst (v := pn_L 0) hx hb d_E_greatest_93 (by decide) ?_
                refine W.lcmp hx hb d_E_greatest_94 ?_
                refine pw_ifl_eq (a := p2) (b := 0) (tgt := 109) hx hb d_E_greatest_95 (by decide) (by omega) (by omega) (by omega) (by omega) (fun h_95 => ?_) (fun h_95 => ?_)
                · skip
                  refine lv_aload hx hb d_E_greatest_109 (lv_at hl 2 rfl) ?_
                  refine lv_aload hx hb d_E_greatest_111 (lv_at hl 3 rfl) ?_
                  refine lv_aload_n hx hb d_E_greatest_113 rfl (lv_at hl 5 rfl) ?_
                  refine pn_bv (wr := [(oe, .inr (0, [.long (pn_L p1), .long (pn_L p2), .long (pn_L p3), .long (pn_L p4)]))]) [2, 3, 4, 5, 0, 1] [6] hP hD hS hA (pn_rSN [.ref og, .ref os, .ref ot] [] Fx hK hN hP hD [2, 3, 4, 5, 0, 1] rfl rfl (c_D_split l D cI cZ cB cJ _ og qg fg ng bg os qs fs ns bs ot qt fv nv bv hng hns hzg hzs h_54) kn_565 cal_D_split stat_D_split ⟨by decide, by decide⟩ ⟨rfl, rfl⟩ rfl hl.1 (Nat.le_of_ble_eq_true rfl) d_E_greatest_114 ⟨Nat.zero_le _, Nat.zero_le _⟩) rfl rfl rfl (by decide) (fun u_114 H locs hw hP hD hS => ?_)
                  obtain ⟨⟨g5, j5⟩, ⟨g6, j6, b6⟩, ⟨g7, j7⟩⟩ := u_114
                  obtain ⟨hA9, hB9, hC9⟩ := hw
                  have hP : va_P D pn_cl [(oe, .inr (0, [.long (pn_L p1), .long (pn_L p2), .long (pn_L p3), .long (pn_L p4)])), (og, .inr (1, [.ref qg, .int (nI j5), .int (pn_b false)])), (qg, .inl (cI, 632, .inl g5)), (os, .inr (1, [.ref qs, .int (nI j6), .int (pn_b b6)])), (qs, .inl (cI, 632, .inl g6)), (ot, .inr (1, [.ref qt, .int (nI j7), .int (pn_b false)])), (qt, .inl (cI, 632, .inl g7))] H := hP
                  have hD : va_D A [(oe, .inr (0, [.long (pn_L p1), .long (pn_L p2), .long (pn_L p3), .long (pn_L p4)])), (og, .inr (1, [.ref qg, .int (nI j5), .int (pn_b false)])), (qg, .inl (cI, 632, .inl g5)), (os, .inr (1, [.ref qs, .int (nI j6), .int (pn_b b6)])), (qs, .inl (cI, 632, .inl g6)), (ot, .inr (1, [.ref qt, .int (nI j7), .int (pn_b false)])), (qt, .inl (cI, 632, .inl g7))] := hD
                  dsimp only at hA9 hB9 hC9
                  refine lv_aload hx hb d_E_greatest_117 (lv_at hl 2 rfl) ?_
                  refine lv_astore (lv' := [(9, .ref og), (8, .int (nI (pn_len (pn_V fg ng) - 62))), (7, .int (nI i)), (5, .ref og), (6, .ref os), (0, .ref oe), (3, .ref ot)]) hx hb d_E_greatest_119 hl (by decide) rfl (fun ls hl => ?_)
                  refine lv_aload hx hb d_E_greatest_121 (lv_at hl 4 rfl) ?_
                  refine lv_astore (lv' := [(5, .ref os), (9, .ref og), (8, .int (nI (pn_len (pn_V fg ng) - 62))), (7, .int (nI i)), (6, .ref os), (0, .ref oe), (3, .ref ot)]) hx hb d_E_greatest_123 hl (by decide) rfl (fun ls hl => ?_)
                  refine lv_aload hx hb d_E_greatest_125 (lv_at hl 1 rfl) ?_
                  refine lv_astore (lv' := [(6, .ref og), (5, .ref os), (9, .ref og), (8, .int (nI (pn_len (pn_V fg ng) - 62))), (7, .int (nI i)), (0, .ref oe), (3, .ref ot)]) hx hb d_E_greatest_127 hl (by decide) rfl (fun ls hl => ?_)
                  refine lv_iinc (v := nI (i + 1)) (lv' := [(7, .int (nI (i + 1))), (6, .ref og), (5, .ref os), (9, .ref og), (8, .int (nI (pn_len (pn_V fg ng) - 62))), (0, .ref oe), (3, .ref ot)]) hx hb d_E_greatest_129 hl (k := 4) rfl (nI_add _ 1) (by decide) rfl (fun ls hl => ?_)
                  refine lv_goto (tgt := 42) hx hb d_E_greatest_132 (by decide) ?_
                  exact ih42 (i + 1) os qs g6 j6 b6 og qg g5 j5 false g7 j7 false p1 p2 p3 p4 (by omega) (hsw.symm.imp (fun z => ⟨z.2.2.1, z.2.2.2, z.1, z.2.1⟩) (fun z => ⟨z.2.2.1, z.2.2.2, z.1, z.2.1⟩)) (by omega) (Nat.le_trans (pn_nz_le (g := fs) (m := ns) hB9.2.1 (Int.le_of_eq hB9.2.2)) hns) (Nat.le_trans (pn_nz_le (g := fs) (m := ns) hA9.2.1 (by rw [hA9.2.2]; exact Int.le_of_lt (Int.emod_lt_of_pos _ hSp))) hns) hB9.2.1 hA9.2.1 (by rw [hA9.2.2, hB9.2.2]; exact Int.le_of_lt (Int.emod_lt_of_pos _ hSp)) (by rw [hA9.2.2, hB9.2.2, pn_gcd_mod]; exact hgcd) (by rw [hA9.2.2, hB9.2.2]; exact pn_pr_half h_46 hpr (pn_mod_half hSp hge)) (by rw [hB9.2.2]; exact Nat.le_trans (pn_len_mono (pn_V_nonneg _ _) hge) hlen) _ _ _ (lv_sub hl [0, 2, 1, 5, 6] rfl) (hP.sub [0, 3, 4, 1, 2, 5, 6] rfl) (hD.sub [0, 3, 4, 1, 2, 5, 6] (by decide) rfl) hS
                · skip
                  have hM9 := hM8 (by omega)
                  refine lv_aload_n hx hb d_E_greatest_98 rfl (lv_at hl 4 rfl) ?_
                  refine lv_aload hx hb d_E_greatest_99 (lv_at hl 2 rfl) ?_
                  refine lv_aload hx hb d_E_greatest_101 (lv_at hl 3 rfl) ?_
                  refine pn_bv (wr := [(ot, .inr (1, [.ref qt, .int (nI nv), .int (pn_b bv)])), (qt, .inl (cI, 632, .inl fv))]) [6, 2, 3, 4, 5] [0, 1] hP hD hS hA (pn_rV [.ref og, .ref os] [] Fx hK hN hP hD [6, 2, 3, 4, 5] rfl rfl (c_E_follow l D cI cZ cB cJ _ oe p1 p2 p3 p4 og qg fg ng bg os qs fs ns bs hS9 hp1 hp2 hp3 hp4 (by omega) (pn_nz_le hzs hge) (by have z := hM9.1; omega) (by have z := hM9.2.1; omega) hY9 (by have z := hM9.1; have z2 := hM9.2.1; omega)) kw_558 cal_E_follow inst_E_follow sel_E_follow ⟨by decide, by decide⟩ ⟨rfl, rfl⟩ 0 rfl rfl rfl rfl hl.1 (Nat.le_of_ble_eq_true rfl) d_E_greatest_103 ⟨Nat.zero_le _, Nat.zero_le _⟩) rfl rfl rfl (by decide) (fun u_103 H locs hw hP hD hS => ?_)
                  obtain ⟨⟨g1, j1⟩, ⟨g2, j2⟩⟩ := u_103
                  have hP : va_P D pn_cl [(ot, .inr (1, [.ref qt, .int (nI nv), .int (pn_b bv)])), (qt, .inl (cI, 632, .inl fv)), (oe, .inr (0, [.long (pn_L p1), .long (pn_L p2), .long (pn_L p3), .long (pn_L p4)])), (og, .inr (1, [.ref qg, .int (nI j1), .int (pn_b false)])), (qg, .inl (cI, 632, .inl g1)), (os, .inr (1, [.ref qs, .int (nI j2), .int (pn_b false)])), (qs, .inl (cI, 632, .inl g2))] H := hP
                  have hD : va_D A [(ot, .inr (1, [.ref qt, .int (nI nv), .int (pn_b bv)])), (qt, .inl (cI, 632, .inl fv)), (oe, .inr (0, [.long (pn_L p1), .long (pn_L p2), .long (pn_L p3), .long (pn_L p4)])), (og, .inr (1, [.ref qg, .int (nI j1), .int (pn_b false)])), (qg, .inl (cI, 632, .inl g1)), (os, .inr (1, [.ref qs, .int (nI j2), .int (pn_b false)])), (qs, .inl (cI, 632, .inl g2))] := hD
                  have hw9 := hw
                  dsimp only at hw9
                  refine lv_goto (tgt := 129) hx hb d_E_greatest_106 (by decide) ?_
                  refine lv_iinc (v := nI (i + 1)) (lv' := [(7, .int (nI (i + 1))), (8, .int (nI (pn_len (pn_V fg ng) - 62))), (5, .ref og), (6, .ref os), (0, .ref oe), (3, .ref ot)]) hx hb d_E_greatest_129 hl (k := 1) rfl (nI_add _ 1) (by decide) rfl (fun ls hl => ?_)
                  refine lv_goto (tgt := 42) hx hb d_E_greatest_132 (by decide) ?_
                  exact ih42 (i + 1) og qg g1 j1 false os qs g2 j2 false fv nv bv p1 p2 p3 p4 (by omega) hsw (by omega) (by omega) (by omega) hw9.1.2.1 hw9.2.2.1 (by rw [hw9.1.2.2, hw9.2.2.2]; have z := hM9.1; omega) (by rw [hw9.1.2.2, hw9.2.2.2, hG9]; exact hgcd) (by rw [hw9.1.2.2, hw9.2.2.2]; exact pn_pr_half h_46 hpr hM9.2.2) (by rw [hw9.1.2.2]; exact Nat.le_trans (pn_len_mono (by have z := hM9.1; omega) (by have z := hM9.2.1; omega)) hlen) _ _ _ (lv_sub hl [0, 2, 3, 4, 5] rfl) (hP.sub [2, 3, 4, 5, 6, 0, 1] rfl) (hD.sub [2, 3, 4, 5, 6, 0, 1] (by decide) rfl) hS
        exact loop42 _ 0 o2 q2 f2 n2 b2 o1 q1 f1 n1 b1 ft nt bt a0 b0 c0 d0 (Nat.lt_succ_self _) (Or.inr ⟨rfl, rfl, rfl, rfl⟩) (by decide) hn2 hn1 hz2 hz1 (by omega) (Int.gcd_comm _ _) (pn_pr_0 (pn_V_nonneg _ _) (pn_V_nonneg _ _) hl2 hl1) hl2 _ _ _ (lv_sub hl [0, 2, 1, 4, 7] rfl) (hP.sub [0, 5, 6, 3, 4, 1, 2] rfl) (hD.sub [0, 5, 6, 3, 4, 1, 2] (by decide) rfl) hS
      · skip
        exact absurd h_29 (by decide)
    · skip
      exact absurd h_17 (by decide)
  · skip
    have hge0 : pn_V f2 n2 ≤ pn_V f1 n1 := Int.not_lt.mp (fun z => h_5 (pn_cmp_neg.mpr z))
    refine lv_iconst (v := pn_b true) hx hb d_E_greatest_8 (by decide) ?_
    refine lv_goto (tgt := 13) hx hb d_E_greatest_9 (by decide) ?_
    refine lv_istore (lv' := [(4, .int (pn_b true)), (0, .ref oe), (1, .ref o1), (2, .ref o2), (3, .ref ot)]) hx hb d_E_greatest_13 hl (by decide) rfl (fun ls hl => ?_)
    refine lv_iload hx hb d_E_greatest_15 (lv_at hl 0 rfl) ?_
    refine pw_ifb_eq (tgt := 24) hx hb d_E_greatest_17 (by decide) (fun h_17 => ?_) (fun h_17 => ?_)
    · skip
      exact absurd h_17 (by decide)
    · skip
      refine lv_aload_n hx hb d_E_greatest_20 rfl (lv_at hl 2 rfl) ?_
      refine lv_goto (tgt := 25) hx hb d_E_greatest_21 (by decide) ?_
      refine lv_astore (lv' := [(5, .ref o1), (4, .int (pn_b true)), (0, .ref oe), (1, .ref o1), (2, .ref o2), (3, .ref ot)]) hx hb d_E_greatest_25 hl (by decide) rfl (fun ls hl => ?_)
      refine lv_iload hx hb d_E_greatest_27 (lv_at hl 1 rfl) ?_
      refine pw_ifb_eq (tgt := 36) hx hb d_E_greatest_29 (by decide) (fun h_29 => ?_) (fun h_29 => ?_)
      · skip
        exact absurd h_29 (by decide)
      · skip
        refine lv_aload_n hx hb d_E_greatest_32 rfl (lv_at hl 4 rfl) ?_
        refine lv_goto (tgt := 37) hx hb d_E_greatest_33 (by decide) ?_
        refine lv_astore (lv' := [(6, .ref o2), (5, .ref o1), (4, .int (pn_b true)), (0, .ref oe), (1, .ref o1), (2, .ref o2), (3, .ref ot)]) hx hb d_E_greatest_37 hl (by decide) rfl (fun ls hl => ?_)
        refine lv_iconst (v := nI 0) hx hb d_E_greatest_39 (by decide) ?_
        refine lv_istore (lv' := [(7, .int (nI 0)), (6, .ref o2), (5, .ref o1), (4, .int (pn_b true)), (0, .ref oe), (1, .ref o1), (2, .ref o2), (3, .ref ot)]) hx hb d_E_greatest_40 hl (by decide) rfl (fun ls hl => ?_)
        have loop42 : ∀ (N : Nat) (i : Nat) (og : Nat) (qg : Nat) (fg : Nat → Int32) (ng : Nat) (bg : Bool) (os : Nat) (qs : Nat) (fs : Nat → Int32) (ns : Nat) (bs : Bool) (fv : Nat → Int32) (nv : Nat) (bv : Bool) (ka : Int) (kb : Int) (kc : Int) (kd : Int), 40000 - i < N → ((o1 = og ∧ q1 = qg ∧ o2 = os ∧ q2 = qs) ∨ (o2 = og ∧ q2 = qg ∧ o1 = os ∧ q1 = qs)) → (i ≤ 40000) → (ng ≤ 630) → (ns ≤ 630) → (pn_nz fg ng) → (pn_nz fs ns) → (pn_V fs ns ≤ pn_V fg ng) → (Int.gcd (pn_V fg ng) (pn_V fs ns) = Int.gcd (pn_V f1 n1) (pn_V f2 n2)) → (pn_V fg ng * pn_V fs ns < 2 ^ (40000 - i)) → (pn_len (pn_V fg ng) ≤ 20000) → ∀ (H : Heap) (locs : List Loc) (ls : Array Slot), lv_has ls 10 [(7, .int (nI i)), (5, .ref og), (6, .ref os), (0, .ref oe), (3, .ref ot)] → va_P D pn_cl [(oe, .inr (0, [.long (pn_L ka), .long (pn_L kb), .long (pn_L kc), .long (pn_L kd)])), (og, .inr (1, [.ref qg, .int (nI ng), .int (pn_b bg)])), (qg, .inl (cI, 632, .inl fg)), (os, .inr (1, [.ref qs, .int (nI ns), .int (pn_b bs)])), (qs, .inl (cI, 632, .inl fs)), (ot, .inr (1, [.ref qt, .int (nI nv), .int (pn_b bv)])), (qt, .inl (cI, 632, .inl fv))] H → va_D A [(oe, .inr (0, [.long (pn_L ka), .long (pn_L kb), .long (pn_L kc), .long (pn_L kd)])), (og, .inr (1, [.ref qg, .int (nI ng), .int (pn_b bg)])), (qg, .inl (cI, 632, .inl fg)), (os, .inr (1, [.ref qs, .int (nI ns), .int (pn_b bs)])), (qs, .inl (cI, 632, .inl fs)), (ot, .inr (1, [.ref qt, .int (nI nv), .int (pn_b bv)])), (qt, .inl (cI, 632, .inl fv))] → va_S A s.heap H locs → W p l e ({ frames := 4, cells := 0, slots := 0, locals := 140 } : Room) s m ([.ref oe, .ref o1, .ref o2, .ref ot] : List Value).toArray below meth c H locs 0 0 Q (F0 m 42 ls []) := by
          intro N
          induction N with
          | zero => intro i og qg fg ng bg os qs fs ns bs fv nv bv ka kb kc kd hM; exact absurd hM (Nat.not_lt_zero _)
          | succ N ih42 =>
            intro i og qg fg ng bg os qs fs ns bs fv nv bv ka kb kc kd hM42 hsw hi hng hns hzg hzs hge hgcd hpr hlen H locs ls hl hP hD hS
            refine lv_iload hx hb d_E_greatest_42 (lv_at hl 0 rfl) ?_
            refine lv_ldc hx hb Fx.2.2.2.1 (Fx.2.2.2.2 _ kw_543) d_E_greatest_44 ?_
            refine pn_topi (nI 40000) (by decide) ?_
            refine pw_icmp_ge (a := i) (b := 40000) (tgt := 135) hx hb d_E_greatest_46 (by decide) (by omega) (by omega) (fun h_46 => ?_) (fun h_46 => ?_)
            · skip
              have hS0 := pn_pr_end h_46 (pn_V_nonneg _ _) (pn_V_nonneg _ _) hge hpr
              refine lv_aload hx hb d_E_greatest_135 (lv_at hl 1 rfl) ?_
              refine lv_iconst (v := nI 0) hx hb d_E_greatest_137 (by decide) ?_
              refine pn_topi (pn_b false) (by decide) ?_
              refine pw_putN Fx hN hK hP hD hS fld_R 1 rfl 2 (by decide) kn_103 rfl (pn_b_nar _) (pn_b_fit _) (Nat.le_of_ble_eq_true rfl) (w' := [(oe, .inr (0, [.long (pn_L ka), .long (pn_L kb), .long (pn_L kc), .long (pn_L kd)])), (og, .inr (1, [.ref qg, .int (nI ng), .int (pn_b false)])), (qg, .inl (cI, 632, .inl fg)), (os, .inr (1, [.ref qs, .int (nI ns), .int (pn_b bs)])), (qs, .inl (cI, 632, .inl fs)), (ot, .inr (1, [.ref qt, .int (nI nv), .int (pn_b bv)])), (qt, .inl (cI, 632, .inl fv))]) rfl d_E_greatest_138 (fun H locs hP hD hS => ?_)
              refine lv_aload hx hb d_E_greatest_141 (lv_at hl 1 rfl) ?_
              rcases hsw with ⟨rfl, rfl, rfl, rfl⟩ | ⟨rfl, rfl, rfl, rfl⟩
              · exact pn_retr ((true, (fg, ng, false), (fs, ns, bs), (fv, nv, bv), (ka, kb, kc, kd))) Fx hr hlocks hQ hAe rfl (hP.sub [0, 1, 2, 3, 4, 5, 6] rfl) (hD.sub [0, 1, 2, 3, 4, 5, 6] (by decide) rfl) hS (⟨fun _ => ⟨by omega, hzg, by rw [← hgcd, hS0, Int.gcd_zero]; exact (Int.natAbs_of_nonneg (pn_V_nonneg _ _)).symm⟩, fun z => absurd (show true = false from z) (by decide)⟩) d_E_greatest_143
              · exact pn_retr ((false, (fs, ns, bs), (fg, ng, false), (fv, nv, bv), (ka, kb, kc, kd))) Fx hr hlocks hQ hAe rfl (hP.sub [0, 3, 4, 1, 2, 5, 6] rfl) (hD.sub [0, 3, 4, 1, 2, 5, 6] (by decide) rfl) hS (⟨fun z => absurd (show false = true from z) (by decide), fun _ => ⟨by omega, hzg, by rw [← hgcd, hS0, Int.gcd_zero]; exact (Int.natAbs_of_nonneg (pn_V_nonneg _ _)).symm⟩⟩) d_E_greatest_143
            · skip
              refine lv_aload hx hb d_E_greatest_49 (lv_at hl 2 rfl) ?_
              refine pw_getN Fx hN hK hP fld_R 3 rfl 1 (by decide) kn_97 (v := .int (nI ns)) rfl d_E_greatest_51 ?_
              refine pw_if_le (a := ns) (tgt := 135) hx hb d_E_greatest_54 (by decide) (by omega) (fun h_54 => ?_) (fun h_54 => ?_)
              · skip
                have hS0 : pn_V fs ns = 0 := by rw [h_54]; rfl
                refine lv_aload hx hb d_E_greatest_135 (lv_at hl 1 rfl) ?_
                refine lv_iconst (v := nI 0) hx hb d_E_greatest_137 (by decide) ?_
                refine pn_topi (pn_b false) (by decide) ?_
                refine pw_putN Fx hN hK hP hD hS fld_R 1 rfl 2 (by decide) kn_103 rfl (pn_b_nar _) (pn_b_fit _) (Nat.le_of_ble_eq_true rfl) (w' := [(oe, .inr (0, [.long (pn_L ka), .long (pn_L kb), .long (pn_L kc), .long (pn_L kd)])), (og, .inr (1, [.ref qg, .int (nI ng), .int (pn_b false)])), (qg, .inl (cI, 632, .inl fg)), (os, .inr (1, [.ref qs, .int (nI ns), .int (pn_b bs)])), (qs, .inl (cI, 632, .inl fs)), (ot, .inr (1, [.ref qt, .int (nI nv), .int (pn_b bv)])), (qt, .inl (cI, 632, .inl fv))]) rfl d_E_greatest_138 (fun H locs hP hD hS => ?_)
                refine lv_aload hx hb d_E_greatest_141 (lv_at hl 1 rfl) ?_
                rcases hsw with ⟨rfl, rfl, rfl, rfl⟩ | ⟨rfl, rfl, rfl, rfl⟩
                · exact pn_retr ((true, (fg, ng, false), (fs, ns, bs), (fv, nv, bv), (ka, kb, kc, kd))) Fx hr hlocks hQ hAe rfl (hP.sub [0, 1, 2, 3, 4, 5, 6] rfl) (hD.sub [0, 1, 2, 3, 4, 5, 6] (by decide) rfl) hS (⟨fun _ => ⟨by omega, hzg, by rw [← hgcd, hS0, Int.gcd_zero]; exact (Int.natAbs_of_nonneg (pn_V_nonneg _ _)).symm⟩, fun z => absurd (show true = false from z) (by decide)⟩) d_E_greatest_143
                · exact pn_retr ((false, (fs, ns, bs), (fg, ng, false), (fv, nv, bv), (ka, kb, kc, kd))) Fx hr hlocks hQ hAe rfl (hP.sub [0, 3, 4, 1, 2, 5, 6] rfl) (hD.sub [0, 3, 4, 1, 2, 5, 6] (by decide) rfl) hS (⟨fun z => absurd (show false = true from z) (by decide), fun _ => ⟨by omega, hzg, by rw [← hgcd, hS0, Int.gcd_zero]; exact (Int.natAbs_of_nonneg (pn_V_nonneg _ _)).symm⟩⟩) d_E_greatest_143
              · skip
                have hSp := pn_V_pos hzs h_54
                have hlb := (pn_len_le (pn_V_nonneg fg ng) (pn_len (pn_V fg ng) - 62 + 62)).mp (by omega)
                have hlc : pn_V fs ns < 2 ^ (pn_len (pn_V fg ng) - 62 + 62) := by generalize (2 : Int) ^ (pn_len (pn_V fg ng) - 62 + 62) = X at *; omega
                have le1 := pn_lead (pn_V_nonneg fg ng) hlb
                have le2 := pn_lead (pn_V_nonneg fs ns) hlc
                refine lv_aload hx hb d_E_greatest_57 (lv_at hl 1 rfl) ?_
                refine pn_bi (wr := [(oe, .inr (0, [.long (pn_L ka), .long (pn_L kb), .long (pn_L kc), .long (pn_L kd)])), (os, .inr (1, [.ref qs, .int (nI ns), .int (pn_b bs)])), (qs, .inl (cI, 632, .inl fs)), (ot, .inr (1, [.ref qt, .int (nI nv), .int (pn_b bv)])), (qt, .inl (cI, 632, .inl fv))]) [1, 2] [0, 3, 4, 5, 6] hP hD hS hA (pn_rVN [] [] Fx hK hN hP hD [1, 2] rfl rfl (c_R_bits l D cI cZ cB cJ _ og qg fg ng bg (by omega) hzg) kn_544 cal_R_bits inst_R_bits sel_R_bits ⟨by decide, by decide⟩ ⟨rfl, rfl⟩ 0 rfl rfl rfl rfl hl.1 (Nat.le_of_ble_eq_true rfl) d_E_greatest_59 ⟨Nat.zero_le _, Nat.zero_le _⟩) rfl rfl rfl (by decide) (fun r_59 u_59 H locs hw hP hD hS => ?_)
                obtain ⟨⟩ := u_59
                obtain rfl := hw
                have hP : va_P D pn_cl [(oe, .inr (0, [.long (pn_L ka), .long (pn_L kb), .long (pn_L kc), .long (pn_L kd)])), (os, .inr (1, [.ref qs, .int (nI ns), .int (pn_b bs)])), (qs, .inl (cI, 632, .inl fs)), (ot, .inr (1, [.ref qt, .int (nI nv), .int (pn_b bv)])), (qt, .inl (cI, 632, .inl fv)), (og, .inr (1, [.ref qg, .int (nI ng), .int (pn_b bg)])), (qg, .inl (cI, 632, .inl fg))] H := hP
                have hD : va_D A [(oe, .inr (0, [.long (pn_L ka), .long (pn_L kb), .long (pn_L kc), .long (pn_L kd)])), (os, .inr (1, [.ref qs, .int (nI ns), .int (pn_b bs)])), (qs, .inl (cI, 632, .inl fs)), (ot, .inr (1, [.ref qt, .int (nI nv), .int (pn_b bv)])), (qt, .inl (cI, 632, .inl fv)), (og, .inr (1, [.ref qg, .int (nI ng), .int (pn_b bg)])), (qg, .inl (cI, 632, .inl fg))] := hD
                refine lv_bipush (v := nI 62) hx hb d_E_greatest_62 (by decide) ?_
                refine lv_isub hx hb d_E_greatest_64 ?_
                refine pn_topi (pn_I ((pn_len (pn_V fg ng) : Int) - 62)) (by rw [← pn_I_nI, ← pn_I_nI, pn_I_sub]; rfl) ?_
                refine lv_iconst (v := nI 0) hx hb d_E_greatest_65 (by decide) ?_
                refine pw_max0 Fx hl.1 kw_545 (z := (pn_len (pn_V fg ng) : Int) - 62) (by omega) (by omega) (rest := []) (by decide) (Nat.le_of_ble_eq_true rfl) ⟨Nat.zero_le _, Nat.zero_le _⟩ d_E_greatest_66 ?_
                refine pn_topi (nI (pn_len (pn_V fg ng) - 62)) (by congr 1; omega) ?_
                refine lv_istore (lv' := [(8, .int (nI (pn_len (pn_V fg ng) - 62))), (7, .int (nI i)), (5, .ref og), (6, .ref os), (0, .ref oe), (3, .ref ot)]) hx hb d_E_greatest_69 hl (by decide) rfl (fun ls hl => ?_)
                refine lv_aload_n hx hb d_E_greatest_71 rfl (lv_at hl 4 rfl) ?_
                refine lv_aload hx hb d_E_greatest_72 (lv_at hl 2 rfl) ?_
                refine lv_iload hx hb d_E_greatest_74 (lv_at hl 0 rfl) ?_
                refine pn_bl (wr := [(oe, .inr (0, [.long (pn_L ka), .long (pn_L kb), .long (pn_L kc), .long (pn_L kd)])), (os, .inr (1, [.ref qs, .int (nI ns), .int (pn_b bs)])), (qs, .inl (cI, 632, .inl fs)), (ot, .inr (1, [.ref qt, .int (nI nv), .int (pn_b bv)])), (qt, .inl (cI, 632, .inl fv))]) [5, 6] [0, 1, 2, 3, 4] hP hD hS hA (pn_rVN [.int (nI (pn_len (pn_V fg ng) - 62))] [.ref oe] Fx hK hN hP hD [5, 6] rfl rfl (c_R_bitsFrom l D cI cZ cB cJ _ og qg fg ng bg (pn_len (pn_V fg ng) - 62) (by omega) (by omega) hlb) kn_546 cal_R_bitsFrom inst_R_bitsFrom sel_R_bitsFrom ⟨by decide, by decide⟩ ⟨rfl, rfl⟩ 0 rfl rfl rfl rfl hl.1 (Nat.le_of_ble_eq_true rfl) d_E_greatest_76 ⟨Nat.zero_le _, Nat.zero_le _⟩) rfl rfl rfl (by decide) (fun r_76 u_76 H locs hw hP hD hS => ?_)
                obtain ⟨⟩ := u_76
                obtain rfl := hw
                have hP : va_P D pn_cl [(oe, .inr (0, [.long (pn_L ka), .long (pn_L kb), .long (pn_L kc), .long (pn_L kd)])), (os, .inr (1, [.ref qs, .int (nI ns), .int (pn_b bs)])), (qs, .inl (cI, 632, .inl fs)), (ot, .inr (1, [.ref qt, .int (nI nv), .int (pn_b bv)])), (qt, .inl (cI, 632, .inl fv)), (og, .inr (1, [.ref qg, .int (nI ng), .int (pn_b bg)])), (qg, .inl (cI, 632, .inl fg))] H := hP
                have hD : va_D A [(oe, .inr (0, [.long (pn_L ka), .long (pn_L kb), .long (pn_L kc), .long (pn_L kd)])), (os, .inr (1, [.ref qs, .int (nI ns), .int (pn_b bs)])), (qs, .inl (cI, 632, .inl fs)), (ot, .inr (1, [.ref qt, .int (nI nv), .int (pn_b bv)])), (qt, .inl (cI, 632, .inl fv)), (og, .inr (1, [.ref qg, .int (nI ng), .int (pn_b bg)])), (qg, .inl (cI, 632, .inl fg))] := hD
                refine lv_aload hx hb d_E_greatest_79 (lv_at hl 3 rfl) ?_
                refine lv_iload hx hb d_E_greatest_81 (lv_at hl 0 rfl) ?_
                refine pn_bl (wr := [(oe, .inr (0, [.long (pn_L ka), .long (pn_L kb), .long (pn_L kc), .long (pn_L kd)])), (ot, .inr (1, [.ref qt, .int (nI nv), .int (pn_b bv)])), (qt, .inl (cI, 632, .inl fv)), (og, .inr (1, [.ref qg, .int (nI ng), .int (pn_b bg)])), (qg, .inl (cI, 632, .inl fg))]) [1, 2] [0, 3, 4, 5, 6] hP hD hS hA (pn_rVN [.int (nI (pn_len (pn_V fg ng) - 62))] [.long (pn_L (pn_V fg ng / 2 ^ (pn_len (pn_V fg ng) - 62))), .ref oe] Fx hK hN hP hD [1, 2] rfl rfl (c_R_bitsFrom l D cI cZ cB cJ _ os qs fs ns bs (pn_len (pn_V fg ng) - 62) (by omega) (by omega) hlc) kn_546 cal_R_bitsFrom inst_R_bitsFrom sel_R_bitsFrom ⟨by decide, by decide⟩ ⟨rfl, rfl⟩ 0 rfl rfl rfl rfl hl.1 (Nat.le_of_ble_eq_true rfl) d_E_greatest_83 ⟨Nat.zero_le _, Nat.zero_le _⟩) rfl rfl rfl (by decide) (fun r_83 u_83 H locs hw hP hD hS => ?_)
                obtain ⟨⟩ := u_83
                obtain rfl := hw
                have hP : va_P D pn_cl [(oe, .inr (0, [.long (pn_L ka), .long (pn_L kb), .long (pn_L kc), .long (pn_L kd)])), (ot, .inr (1, [.ref qt, .int (nI nv), .int (pn_b bv)])), (qt, .inl (cI, 632, .inl fv)), (og, .inr (1, [.ref qg, .int (nI ng), .int (pn_b bg)])), (qg, .inl (cI, 632, .inl fg)), (os, .inr (1, [.ref qs, .int (nI ns), .int (pn_b bs)])), (qs, .inl (cI, 632, .inl fs))] H := hP
                have hD : va_D A [(oe, .inr (0, [.long (pn_L ka), .long (pn_L kb), .long (pn_L kc), .long (pn_L kd)])), (ot, .inr (1, [.ref qt, .int (nI nv), .int (pn_b bv)])), (qt, .inl (cI, 632, .inl fv)), (og, .inr (1, [.ref qg, .int (nI ng), .int (pn_b bg)])), (qg, .inl (cI, 632, .inl fg)), (os, .inr (1, [.ref qs, .int (nI ns), .int (pn_b bs)])), (qs, .inl (cI, 632, .inl fs))] := hD
                refine pn_bv (wr := [(ot, .inr (1, [.ref qt, .int (nI nv), .int (pn_b bv)])), (qt, .inl (cI, 632, .inl fv)), (og, .inr (1, [.ref qg, .int (nI ng), .int (pn_b bg)])), (qg, .inl (cI, 632, .inl fg)), (os, .inr (1, [.ref qs, .int (nI ns), .int (pn_b bs)])), (qs, .inl (cI, 632, .inl fs))]) [0] [1, 2, 3, 4, 5, 6] hP hD hS hA (pn_rV [.long (pn_L (pn_V fg ng / 2 ^ (pn_len (pn_V fg ng) - 62))), .long (pn_L (pn_V fs ns / 2 ^ (pn_len (pn_V fg ng) - 62)))] [] Fx hK hN hP hD [0] rfl rfl (c_E_foresee l D cI cZ cB cJ _ oe ka kb kc kd _ _ (pn_V fg ng) (pn_V fs ns) _ _ _ le1.2.2.2.2.2 le1.1 le2.1 le1.2.1 le1.2.2.1 le2.2.1 le2.2.2.1 le1.2.2.2.1 le1.2.2.2.2.1 le2.2.2.2.1 le2.2.2.2.2.1 hge (pn_V_nonneg _ _)) kw_550 cal_E_foresee inst_E_foresee sel_E_foresee ⟨by decide, by decide⟩ ⟨rfl, rfl⟩ 0 rfl rfl rfl rfl hl.1 (Nat.le_of_ble_eq_true rfl) d_E_greatest_86 ⟨Nat.zero_le _, Nat.zero_le _⟩) rfl rfl rfl (by decide) (fun u_86 H locs hw hP hD hS => ?_)
                obtain ⟨p1, p2, p3, p4⟩ := u_86
                obtain ⟨hS9, hp1, hp2, hp3, hp4, hY9, hG9, hM8⟩ := hw
                have hP : va_P D pn_cl [(ot, .inr (1, [.ref qt, .int (nI nv), .int (pn_b bv)])), (qt, .inl (cI, 632, .inl fv)), (og, .inr (1, [.ref qg, .int (nI ng), .int (pn_b bg)])), (qg, .inl (cI, 632, .inl fg)), (os, .inr (1, [.ref qs, .int (nI ns), .int (pn_b bs)])), (qs, .inl (cI, 632, .inl fs)), (oe, .inr (0, [.long (pn_L p1), .long (pn_L p2), .long (pn_L p3), .long (pn_L p4)]))] H := hP
                have hD : va_D A [(ot, .inr (1, [.ref qt, .int (nI nv), .int (pn_b bv)])), (qt, .inl (cI, 632, .inl fv)), (og, .inr (1, [.ref qg, .int (nI ng), .int (pn_b bg)])), (qg, .inl (cI, 632, .inl fg)), (os, .inr (1, [.ref qs, .int (nI ns), .int (pn_b bs)])), (qs, .inl (cI, 632, .inl fs)), (oe, .inr (0, [.long (pn_L p1), .long (pn_L p2), .long (pn_L p3), .long (pn_L p4)]))] := hD
                dsimp only at hS9 hp1 hp2 hp3 hp4 hY9 hG9 hM8
                have hEg := pn_V_lt fg ng
                refine lv_aload_n hx hb d_E_greatest_89 rfl (lv_at hl 4 rfl) ?_
                refine pw_get Fx hK hP fld_E 6 rfl 1 (by decide) kw_57 (v := .long (pn_L p2)) rfl d_E_greatest_90 ?_
                refine lv_lconst (v := pn_L 0) hx hb d_E_greatest_93 (by decide) ?_
                refine W.lcmp hx hb d_E_greatest_94 ?_
                refine pw_ifl_eq (a := p2) (b := 0) (tgt := 109) hx hb d_E_greatest_95 (by decide) (by omega) (by omega) (by omega) (by omega) (fun h_95 => ?_) (fun h_95 => ?_)
                · skip
                  refine lv_aload hx hb d_E_greatest_109 (lv_at hl 2 rfl) ?_
                  refine lv_aload hx hb d_E_greatest_111 (lv_at hl 3 rfl) ?_
                  refine lv_aload_n hx hb d_E_greatest_113 rfl (lv_at hl 5 rfl) ?_
                  refine pn_bv (wr := [(oe, .inr (0, [.long (pn_L p1), .long (pn_L p2), .long (pn_L p3), .long (pn_L p4)]))]) [2, 3, 4, 5, 0, 1] [6] hP hD hS hA (pn_rSN [.ref og, .ref os, .ref ot] [] Fx hK hN hP hD [2, 3, 4, 5, 0, 1] rfl rfl (c_D_split l D cI cZ cB cJ _ og qg fg ng bg os qs fs ns bs ot qt fv nv bv hng hns hzg hzs h_54) kn_565 cal_D_split stat_D_split ⟨by decide, by decide⟩ ⟨rfl, rfl⟩ rfl hl.1 (Nat.le_of_ble_eq_true rfl) d_E_greatest_114 ⟨Nat.zero_le _, Nat.zero_le _⟩) rfl rfl rfl (by decide) (fun u_114 H locs hw hP hD hS => ?_)
                  obtain ⟨⟨g5, j5⟩, ⟨g6, j6, b6⟩, ⟨g7, j7⟩⟩ := u_114
                  obtain ⟨hA9, hB9, hC9⟩ := hw
                  have hP : va_P D pn_cl [(oe, .inr (0, [.long (pn_L p1), .long (pn_L p2), .long (pn_L p3), .long (pn_L p4)])), (og, .inr (1, [.ref qg, .int (nI j5), .int (pn_b false)])), (qg, .inl (cI, 632, .inl g5)), (os, .inr (1, [.ref qs, .int (nI j6), .int (pn_b b6)])), (qs, .inl (cI, 632, .inl g6)), (ot, .inr (1, [.ref qt, .int (nI j7), .int (pn_b false)])), (qt, .inl (cI, 632, .inl g7))] H := hP
                  have hD : va_D A [(oe, .inr (0, [.long (pn_L p1), .long (pn_L p2), .long (pn_L p3), .long (pn_L p4)])), (og, .inr (1, [.ref qg, .int (nI j5), .int (pn_b false)])), (qg, .inl (cI, 632, .inl g5)), (os, .inr (1, [.ref qs, .int (nI j6), .int (pn_b b6)])), (qs, .inl (cI, 632, .inl g6)), (ot, .inr (1, [.ref qt, .int (nI j7), .int (pn_b false)])), (qt, .inl (cI, 632, .inl g7))] := hD
                  dsimp only at hA9 hB9 hC9
                  refine lv_aload hx hb d_E_greatest_117 (lv_at hl 2 rfl) ?_
                  refine lv_astore (lv' := [(9, .ref og), (8, .int (nI (pn_len (pn_V fg ng) - 62))), (7, .int (nI i)), (5, .ref og), (6, .ref os), (0, .ref oe), (3, .ref ot)]) hx hb d_E_greatest_119 hl (by decide) rfl (fun ls hl => ?_)
                  refine lv_aload hx hb d_E_greatest_121 (lv_at hl 4 rfl) ?_
                  refine lv_astore (lv' := [(5, .ref os), (9, .ref og), (8, .int (nI (pn_len (pn_V fg ng) - 62))), (7, .int (nI i)), (6, .ref os), (0, .ref oe), (3, .ref ot)]) hx hb d_E_greatest_123 hl (by decide) rfl (fun ls hl => ?_)
                  refine lv_aload hx hb d_E_greatest_125 (lv_at hl 1 rfl) ?_
                  refine lv_astore (lv' := [(6, .ref og), (5, .ref os), (9, .ref og), (8, .int (nI (pn_len (pn_V fg ng) - 62))), (7, .int (nI i)), (0, .ref oe), (3, .ref ot)]) hx hb d_E_greatest_127 hl (by decide) rfl (fun ls hl => ?_)
                  refine lv_iinc (v := nI (i + 1)) (lv' := [(7, .int (nI (i + 1))), (6, .ref og), (5, .ref os), (9, .ref og), (8, .int (nI (pn_len (pn_V fg ng) - 62))), (0, .ref oe), (3, .ref ot)]) hx hb d_E_greatest_129 hl (k := 4) rfl (nI_add _ 1) (by decide) rfl (fun ls hl => ?_)
                  refine lv_goto (tgt := 42) hx hb d_E_greatest_132 (by decide) ?_
                  exact ih42 (i + 1) os qs g6 j6 b6 og qg g5 j5 false g7 j7 false p1 p2 p3 p4 (by omega) (hsw.symm.imp (fun z => ⟨z.2.2.1, z.2.2.2, z.1, z.2.1⟩) (fun z => ⟨z.2.2.1, z.2.2.2, z.1, z.2.1⟩)) (by omega) (Nat.le_trans (pn_nz_le (g := fs) (m := ns) hB9.2.1 (Int.le_of_eq hB9.2.2)) hns) (Nat.le_trans (pn_nz_le (g := fs) (m := ns) hA9.2.1 (by rw [hA9.2.2]; exact Int.le_of_lt (Int.emod_lt_of_pos _ hSp))) hns) hB9.2.1 hA9.2.1 (by rw [hA9.2.2, hB9.2.2]; exact Int.le_of_lt (Int.emod_lt_of_pos _ hSp)) (by rw [hA9.2.2, hB9.2.2, pn_gcd_mod]; exact hgcd) (by rw [hA9.2.2, hB9.2.2]; exact pn_pr_half h_46 hpr (pn_mod_half hSp hge)) (by rw [hB9.2.2]; exact Nat.le_trans (pn_len_mono (pn_V_nonneg _ _) hge) hlen) _ _ _ (lv_sub hl [0, 2, 1, 5, 6] rfl) (hP.sub [0, 3, 4, 1, 2, 5, 6] rfl) (hD.sub [0, 3, 4, 1, 2, 5, 6] (by decide) rfl) hS
                · skip
                  have hM9 := hM8 (by omega)
                  refine lv_aload_n hx hb d_E_greatest_98 rfl (lv_at hl 4 rfl) ?_
                  refine lv_aload hx hb d_E_greatest_99 (lv_at hl 2 rfl) ?_
                  refine lv_aload hx hb d_E_greatest_101 (lv_at hl 3 rfl) ?_
                  refine pn_bv (wr := [(ot, .inr (1, [.ref qt, .int (nI nv), .int (pn_b bv)])), (qt, .inl (cI, 632, .inl fv))]) [6, 2, 3, 4, 5] [0, 1] hP hD hS hA (pn_rV [.ref og, .ref os] [] Fx hK hN hP hD [6, 2, 3, 4, 5] rfl rfl (c_E_follow l D cI cZ cB cJ _ oe p1 p2 p3 p4 og qg fg ng bg os qs fs ns bs hS9 hp1 hp2 hp3 hp4 (by omega) (pn_nz_le hzs hge) (by have z := hM9.1; omega) (by have z := hM9.2.1; omega) hY9 (by have z := hM9.1; have z2 := hM9.2.1; omega)) kw_558 cal_E_follow inst_E_follow sel_E_follow ⟨by decide, by decide⟩ ⟨rfl, rfl⟩ 0 rfl rfl rfl rfl hl.1 (Nat.le_of_ble_eq_true rfl) d_E_greatest_103 ⟨Nat.zero_le _, Nat.zero_le _⟩) rfl rfl rfl (by decide) (fun u_103 H locs hw hP hD hS => ?_)
                  obtain ⟨⟨g1, j1⟩, ⟨g2, j2⟩⟩ := u_103
                  have hP : va_P D pn_cl [(ot, .inr (1, [.ref qt, .int (nI nv), .int (pn_b bv)])), (qt, .inl (cI, 632, .inl fv)), (oe, .inr (0, [.long (pn_L p1), .long (pn_L p2), .long (pn_L p3), .long (pn_L p4)])), (og, .inr (1, [.ref qg, .int (nI j1), .int (pn_b false)])), (qg, .inl (cI, 632, .inl g1)), (os, .inr (1, [.ref qs, .int (nI j2), .int (pn_b false)])), (qs, .inl (cI, 632, .inl g2))] H := hP
                  have hD : va_D A [(ot, .inr (1, [.ref qt, .int (nI nv), .int (pn_b bv)])), (qt, .inl (cI, 632, .inl fv)), (oe, .inr (0, [.long (pn_L p1), .long (pn_L p2), .long (pn_L p3), .long (pn_L p4)])), (og, .inr (1, [.ref qg, .int (nI j1), .int (pn_b false)])), (qg, .inl (cI, 632, .inl g1)), (os, .inr (1, [.ref qs, .int (nI j2), .int (pn_b false)])), (qs, .inl (cI, 632, .inl g2))] := hD
                  have hw9 := hw
                  dsimp only at hw9
                  refine lv_goto (tgt := 129) hx hb d_E_greatest_106 (by decide) ?_
                  refine lv_iinc (v := nI (i + 1)) (lv' := [(7, .int (nI (i + 1))), (8, .int (nI (pn_len (pn_V fg ng) - 62))), (5, .ref og), (6, .ref os), (0, .ref oe), (3, .ref ot)]) hx hb d_E_greatest_129 hl (k := 1) rfl (nI_add _ 1) (by decide) rfl (fun ls hl => ?_)
                  refine lv_goto (tgt := 42) hx hb d_E_greatest_132 (by decide) ?_
                  exact ih42 (i + 1) og qg g1 j1 false os qs g2 j2 false fv nv bv p1 p2 p3 p4 (by omega) hsw (by omega) (by omega) (by omega) hw9.1.2.1 hw9.2.2.1 (by rw [hw9.1.2.2, hw9.2.2.2]; have z := hM9.1; omega) (by rw [hw9.1.2.2, hw9.2.2.2, hG9]; exact hgcd) (by rw [hw9.1.2.2, hw9.2.2.2]; exact pn_pr_half h_46 hpr hM9.2.2) (by rw [hw9.1.2.2]; exact Nat.le_trans (pn_len_mono (by have z := hM9.1; omega) (by have z := hM9.2.1; omega)) hlen) _ _ _ (lv_sub hl [0, 2, 3, 4, 5] rfl) (hP.sub [2, 3, 4, 5, 6, 0, 1] rfl) (hD.sub [2, 3, 4, 5, 6, 0, 1] (by decide) rfl) hS
        exact loop42 _ 0 o1 q1 f1 n1 b1 o2 q2 f2 n2 b2 ft nt bt a0 b0 c0 d0 (Nat.lt_succ_self _) (Or.inl ⟨rfl, rfl, rfl, rfl⟩) (by decide) hn1 hn2 hz1 hz2 hge0 rfl (pn_pr_0 (pn_V_nonneg _ _) (pn_V_nonneg _ _) hl1 hl2) hl1 _ _ _ (lv_sub hl [0, 2, 1, 4, 7] rfl) (hP.sub [0, 3, 4, 5, 6, 1, 2] rfl) (hD.sub [0, 3, 4, 5, 6, 1, 2] (by decide) rfl) hS
