theorem lw_reg0 : pn_reg (fun _ => nI 0) (fun _ => 0) (fun _ => 0) (fun _ => false) 0 (fun _ => 0) := by
  refine ⟨fun _ _ => nI 0, ⟨by omega, fun r hr => by simp, fun r hr => by simp, fun r q hr hq hne h1 => absurd h1 (by simp), fun r hr i hi => rfl⟩, fun r hr => ⟨by simp, fun k hk => absurd hk (by simp), fun h => (by cases h), Nat.zero_le _, rfl⟩⟩
theorem lw_mreg0 : pm_regs (fun _ => 0) (fun _ => 0) (fun _ => nI 0) (fun _ => 0) := by
  intro r hr
  exact ⟨⟨by simp, fun i hi => by simp, fun k hk => absurd hk (by simp), rfl⟩, (show nI 0 = pn_cmp 0 0 by decide), Nat.zero_le _⟩
theorem lw_T0 : lw_T (fun _ => 0) 6031 0 (fun _ => 0) := ⟨by omega, by omega, fun i hi => rfl⟩
theorem lw_known {s : State} {args : Array Value} (hts : ∀ w ∈ pn_all, w.before args s = true) : ∃ (D : va_G) (cI cZ cB cJ : ClassId), va_K D pn_cl (pn_ty cI cZ cB cJ) s := by
  obtain ⟨c0, i0, h0⟩ := u_known hts fld_E.2.1 (hts _ kw_51)
  obtain ⟨c1, i1, h1⟩ := u_known hts fld_R.2.1 (hts _ kw_84)
  obtain ⟨c2, i2, h2⟩ := u_known hts fld_S.2.1 (hts _ kw_27)
  obtain ⟨c3, i3, h3⟩ := u_known hts fld_T.2.1 (hts _ kw_70)
  obtain ⟨c4, i4, h4⟩ := u_known hts fld_P.2.1 (hts _ kw_19)
  obtain ⟨c5, i5, h5⟩ := u_known hts fld_M.2.1 (hts _ kw_624)
  obtain ⟨cI, kI, mI, fI, gI, eI⟩ := Cond.arrayClass_spec (hts _ kw_48)
  obtain ⟨cZ, kZ, mZ, fZ, gZ, eZ⟩ := Cond.arrayClass_spec (hts _ kw_49)
  obtain ⟨cB, kB, mB, fB, gB, eB⟩ := Cond.arrayClass_spec (hts _ kw_82)
  obtain ⟨cJ, kJ, mJ, fJ, gJ, eJ⟩ := Cond.arrayClass_spec (hts _ kw_830)
  refine ⟨(fun c => match c with | 0 => c0 | 1 => c1 | 2 => c2 | 3 => c3 | 4 => c4 | _ => c5, fun c => match c with | 0 => i0 | 1 => i1 | 2 => i2 | 3 => i3 | 4 => i4 | _ => i5), cI, cZ, cB, cJ, fun c q hq => ?_, fun k q hq => ?_⟩
  · match c, hq with
    | 0, hq => cases hq; exact h0
    | 1, hq => cases hq; exact h1
    | 2, hq => cases hq; exact h2
    | 3, hq => cases hq; exact h3
    | 4, hq => cases hq; exact h4
    | 5, hq => cases hq; exact h5
    | n + 6, hq => exact absurd hq (by simp)
  · match k, hq with
    | 0, hq => cases hq; exact ⟨fun n z => ⟨fun k h => (by cases h), kI, gI, mI, eI⟩, fI⟩
    | 1, hq => cases hq; exact ⟨fun n z => ⟨fun k h => (by cases h), kZ, gZ, mZ, eZ⟩, fZ⟩
    | 2, hq => cases hq; exact ⟨fun n z => ⟨fun k h => (by cases h), kB, gB, mB, eB⟩, fB⟩
    | 3, hq => cases hq; exact ⟨fun n z => ⟨fun k h => (by cases h), kJ, gJ, mJ, eJ⟩, fJ⟩
    | n + 4, hq => exact absurd hq (by simp)
theorem lw_sl {s : State} {args : Array Value} {k : Nat} {tx : String} (h1 : (Cond.stringRef R_P k tx).before args s = true) (h2 : (Cond.exactly (.string R_P k) "java/lang/String").before args s = true) : ∃ sa, vk_R R_P k tx sa s := by
  obtain ⟨a, c, cell, kc, e1, -⟩ := Cond.exactly_spec h2
  exact ⟨a, vk_R.of h1 e1⟩
set_option maxRecDepth 100000 in
theorem lw_ex {s : State} {args : Array Value} (hts : ∀ w ∈ lw_tbl, w.before args s = true) (hg : (Jvm.Cond.and given_1 narrow_1).before args s = true) : pn_ex (fun q => s.heap.size ≤ q) s s.heap := by
  have hs := flat_of_before _ hg
  refine ⟨fun w hw => ?_, fun q hq => ?_, ?_, ?_⟩
  · have h1 := List.mem_filter.mp hw
    refine va_Nw.of ?_ (hts w h1.1)
    cases w <;> first | rfl | exact absurd h1.2 (by simp [pn_isX])
  · rcases List.mem_cons.mp hq with rfl | hq
    · exact lw_sl (hts _ (List.mem_append_right _ (List.mem_of_getElem? (i := 196) (by decide +kernel)))) (hs _ (by decide +kernel))
    rcases List.mem_cons.mp hq with rfl | hq
    · exact lw_sl (hts _ (List.mem_append_right _ (List.mem_of_getElem? (i := 255) (by decide +kernel)))) (hs _ (by decide +kernel))
    rcases List.mem_cons.mp hq with rfl | hq
    · exact lw_sl (hts _ (List.mem_append_right _ (List.mem_of_getElem? (i := 429) (by decide +kernel)))) (hs _ (by decide +kernel))
    rcases List.mem_cons.mp hq with rfl | hq
    · exact lw_sl (hts _ (List.mem_append_right _ (List.mem_of_getElem? (i := 453) (by decide +kernel)))) (hs _ (by decide +kernel))
    rcases List.mem_cons.mp hq with rfl | hq
    · exact lw_sl (hts _ (List.mem_append_right _ (List.mem_of_getElem? (i := 516) (by decide +kernel)))) (hs _ (by decide +kernel))
    rcases List.mem_cons.mp hq with rfl | hq
    · exact lw_sl (hts _ (List.mem_append_right _ (List.mem_of_getElem? (i := 517) (by decide +kernel)))) (hs _ (by decide +kernel))
    rcases List.mem_cons.mp hq with rfl | hq
    · exact lw_sl (hts _ (List.mem_append_right _ (List.mem_of_getElem? (i := 591) (by decide +kernel)))) (hs _ (by decide +kernel))
    rcases List.mem_cons.mp hq with rfl | hq
    · exact lw_sl (hts _ (List.mem_append_right _ (List.mem_of_getElem? (i := 600) (by decide +kernel)))) (hs _ (by decide +kernel))
    exact absurd hq List.not_mem_nil
  · exact vx_Zqof (hts _ (List.mem_append_right _ (List.mem_of_getElem? (i := 181) (by decide +kernel)))) (hts _ (List.mem_filter.mp kw_7).1) (hs _ (by decide +kernel)) (fun a ha h => absurd h (by omega))
  · exact vx_Zqof (hts _ (List.mem_append_right _ (List.mem_of_getElem? (i := 183) (by decide +kernel)))) (hts _ (List.mem_filter.mp kw_7).1) (hs _ (by decide +kernel)) (fun a ha h => absurd h (by omega))
set_option maxRecDepth 100000 in
theorem lw_nc {s : State} {args : Array Value} (hg : (Jvm.Cond.and given_1 narrow_1).before args s = true) : pn_NC s := by
  have hs := flat_of_before _ hg
  intro q hq
  rcases List.mem_cons.mp hq with rfl | hq
  · exact va_Nc.of (hs _ (by decide +kernel))
  rcases List.mem_cons.mp hq with rfl | hq
  · exact va_Nc.of (hs _ (by decide +kernel))
  rcases List.mem_cons.mp hq with rfl | hq
  · exact va_Nc.of (hs _ (by decide +kernel))
  rcases List.mem_cons.mp hq with rfl | hq
  · exact va_Nc.of (hs _ (by decide +kernel))
  exact absurd hq List.not_mem_nil
theorem lw_n {s : State} {args : Array Value} (hts : ∀ w ∈ lw_tbl, w.before args s = true) : pn_N s := by
  intro w hw
  have h1 := List.mem_filter.mp hw
  refine va_Nw.of ?_ (hts w h1.1)
  cases w <;> first | rfl | exact absurd h1.2 (by simp [pn_isN])
set_option maxHeartbeats 4000000 in
set_option maxRecDepth 100000 in
theorem whole_start {p : Program} {e : Env} {s : State} {m : MethodId} {below : List Frame} {meth : Method} {c : Code} (l : Launch) (hl0 : l.stackTraces = false) {b L : Nat} {xs : Nat → Int32} (hL : L ≤ 2560) (C0 : lw_At p s m meth c b L xs) : W p l e room_1 s m #[Value.ref b] below meth c s.heap [] 0 0 (lw_Z below #[Value.ref b] s) (entryFrame m ([Value.ref b] : List Value).toArray 7) := by
  obtain ⟨hx, hb, hr, hml, hown, hts, hX, hbl, hlocks, hg⟩ := C0
  have Fx : CallFix p m c code 7 s #[Value.ref b] pn_all R_L := ⟨hx, hb, hml, hown, fun w hw => hts w (List.mem_filter.mp hw).1⟩
  obtain ⟨D, cI, cZ, cB, cJ, hK⟩ := lw_known Fx.2.2.2.2
  obtain ⟨A, hAd⟩ : ∃ A : Nat → Prop, A = fun q => s.heap.size ≤ q := ⟨_, rfl⟩
  have hE : pn_ex A s s.heap := by rw [hAd]; exact lw_ex hts hg
  have hNC := lw_nc hg
  have hN := lw_n hts
  have hA : ∀ q : Nat, s.heap.size ≤ q → A q := fun q h => by rw [hAd]; exact h
  have hAe : ∀ q : Nat, A q → s.heap.size ≤ q := fun q h => by rw [hAd] at h; exact h
  have hbA : ¬ A b := fun h => absurd (hAe b h) (by omega)
  clear hAd
  have hl := lv_entry [Value.ref b] (n := 7) (Nat.le_of_ble_eq_true rfl)
  rw [lg_entry_eq]
  generalize (lg_sl [Value.ref b] ++ List.replicate (7 - (lg_sl [Value.ref b]).length) Slot.unset).toArray = ls at hl ⊢
  have hl : lv_has ls 7 [(0, .ref b)] := hl
  have hP : va_P D pn_cl [] s.heap := fun k q h => by cases h
  have hD : va_D A [] := ⟨fun i j p q h => (by cases h), fun k q h => (by cases h)⟩
  have hS : va_S A s.heap s.heap [] := va_S.rf
  obtain ⟨H, eH⟩ : ∃ H, H = s.heap := ⟨_, rfl⟩
  rw [show W p l e room_1 s m #[Value.ref b] below meth c s.heap [] 0 0 (lw_Z below #[Value.ref b] s) (F0 m 0 ls []) = W p l e ({ frames := 13, cells := 601024, slots := 7293034, locals := 482 } : Room) s m #[Value.ref b] below meth c s.heap [] 0 0 (lw_Z below #[Value.ref b] s) (F0 m 0 ls []) from rfl]
  clear eH H
  refine pw_new Fx hK hP hD hS hA fld_P kw_18 kw_19 kw_1 (fs := [.null, .null, .null, .null, .null, .null, .null]) (fun j hj => by rcases (show j = 0 ∨ j = 1 ∨ j = 2 ∨ j = 3 ∨ j = 4 ∨ j = 5 ∨ j = 6 by omega) with rfl | rfl | rfl | rfl | rfl | rfl | rfl <;> rfl) (Nat.le_of_ble_eq_true rfl) (Nat.le_of_ble_eq_true rfl) d_L_law_0 (fun oP H hP hD hS => ?_)
  have hP : va_P D pn_cl [(oP, .inr (4, [.null, .null, .null, .null, .null, .null, .null]))] H := hP
  have hD : va_D A [(oP, .inr (4, [.null, .null, .null, .null, .null, .null, .null]))] := hD
  refine lv_dup hx hb d_L_law_3 rfl ?_
  refine pn_bvm (wr := []) [0] [] hP hD hS hA (pn_rI [.ref oP] Fx hK hN hP hD [0] rfl rfl (c_P_init l D cI cZ cB cJ _ oP) kw_20 cal_P_init inst_P_init rfl ⟨by decide, by decide⟩ ⟨rfl, rfl⟩ hl.1 (Nat.le_of_ble_eq_true rfl) d_L_law_4 ⟨by decide, by decide⟩) rfl rfl rfl (by decide) (fun u_4 H locs hw hP hD hS => ?_)
  obtain ⟨oS, qC, qS, qN, qB, oe, oT, qT, o1, q1, o2, q2, o3, q3, o4, q4⟩ := u_4
  have hP : va_P D pn_cl [(oP, .inr (4, [.ref oS, .ref oe, .ref oT, .ref o1, .ref o2, .ref o3, .ref o4])), (oS, .inr (2, [.ref qC, .ref qS, .ref qN, .ref qB, .int (nI 0)])), (qC, .inl (cI, 17500, .inl (fun _ => nI 0))), (qS, .inl (cI, 24, .inl (fun z9 => nI ((fun _ => 0) z9)))), (qN, .inl (cI, 24, .inl (fun z9 => nI ((fun _ => 0) z9)))), (qB, .inl (cZ, 24, .inl (fun z9 => pn_b ((fun _ => false) z9)))), (oe, .inr (0, [.long (pn_L 1), .long (pn_L 0), .long (pn_L 0), .long (pn_L 1)])), (oT, .inr (3, [.ref qT, .int (nI 6031)])), (qT, .inl (cB, 6031, .inl (fun z9 => nI ((fun _ => 0) z9)))), (o1, .inr (1, [.ref q1, .int (nI 0), .int (pn_b false)])), (q1, .inl (cI, 632, .inl (fun _ => nI 0))), (o2, .inr (1, [.ref q2, .int (nI 0), .int (pn_b false)])), (q2, .inl (cI, 632, .inl (fun _ => nI 0))), (o3, .inr (1, [.ref q3, .int (nI 0), .int (pn_b false)])), (q3, .inl (cI, 632, .inl (fun _ => nI 0))), (o4, .inr (1, [.ref q4, .int (nI 0), .int (pn_b false)])), (q4, .inl (cI, 632, .inl (fun _ => nI 0)))] H := hP
  have hD : va_D A [(oP, .inr (4, [.ref oS, .ref oe, .ref oT, .ref o1, .ref o2, .ref o3, .ref o4])), (oS, .inr (2, [.ref qC, .ref qS, .ref qN, .ref qB, .int (nI 0)])), (qC, .inl (cI, 17500, .inl (fun _ => nI 0))), (qS, .inl (cI, 24, .inl (fun z9 => nI ((fun _ => 0) z9)))), (qN, .inl (cI, 24, .inl (fun z9 => nI ((fun _ => 0) z9)))), (qB, .inl (cZ, 24, .inl (fun z9 => pn_b ((fun _ => false) z9)))), (oe, .inr (0, [.long (pn_L 1), .long (pn_L 0), .long (pn_L 0), .long (pn_L 1)])), (oT, .inr (3, [.ref qT, .int (nI 6031)])), (qT, .inl (cB, 6031, .inl (fun z9 => nI ((fun _ => 0) z9)))), (o1, .inr (1, [.ref q1, .int (nI 0), .int (pn_b false)])), (q1, .inl (cI, 632, .inl (fun _ => nI 0))), (o2, .inr (1, [.ref q2, .int (nI 0), .int (pn_b false)])), (q2, .inl (cI, 632, .inl (fun _ => nI 0))), (o3, .inr (1, [.ref q3, .int (nI 0), .int (pn_b false)])), (q3, .inl (cI, 632, .inl (fun _ => nI 0))), (o4, .inr (1, [.ref q4, .int (nI 0), .int (pn_b false)])), (q4, .inl (cI, 632, .inl (fun _ => nI 0)))] := hD
  refine lv_astore_n (lv' := [(1, .ref oP), (0, .ref b)]) hx hb d_L_law_7 rfl hl (by decide) rfl (fun ls hl => ?_)
  refine pw_new Fx hK hP hD hS hA fld_M kw_623 kw_624 kw_6 (fs := [.int (nI 0), .null, .null, .null, .null, .null, .null, .null, .int (nI 0)]) (fun j hj => by rcases (show j = 0 ∨ j = 1 ∨ j = 2 ∨ j = 3 ∨ j = 4 ∨ j = 5 ∨ j = 6 ∨ j = 7 ∨ j = 8 by omega) with rfl | rfl | rfl | rfl | rfl | rfl | rfl | rfl | rfl <;> rfl) (Nat.le_of_ble_eq_true rfl) (Nat.le_of_ble_eq_true rfl) d_L_law_8 (fun oM H hP hD hS => ?_)
  have hP : va_P D pn_cl [(oP, .inr (4, [.ref oS, .ref oe, .ref oT, .ref o1, .ref o2, .ref o3, .ref o4])), (oS, .inr (2, [.ref qC, .ref qS, .ref qN, .ref qB, .int (nI 0)])), (qC, .inl (cI, 17500, .inl (fun _ => nI 0))), (qS, .inl (cI, 24, .inl (fun z9 => nI ((fun _ => 0) z9)))), (qN, .inl (cI, 24, .inl (fun z9 => nI ((fun _ => 0) z9)))), (qB, .inl (cZ, 24, .inl (fun z9 => pn_b ((fun _ => false) z9)))), (oe, .inr (0, [.long (pn_L 1), .long (pn_L 0), .long (pn_L 0), .long (pn_L 1)])), (oT, .inr (3, [.ref qT, .int (nI 6031)])), (qT, .inl (cB, 6031, .inl (fun z9 => nI ((fun _ => 0) z9)))), (o1, .inr (1, [.ref q1, .int (nI 0), .int (pn_b false)])), (q1, .inl (cI, 632, .inl (fun _ => nI 0))), (o2, .inr (1, [.ref q2, .int (nI 0), .int (pn_b false)])), (q2, .inl (cI, 632, .inl (fun _ => nI 0))), (o3, .inr (1, [.ref q3, .int (nI 0), .int (pn_b false)])), (q3, .inl (cI, 632, .inl (fun _ => nI 0))), (o4, .inr (1, [.ref q4, .int (nI 0), .int (pn_b false)])), (q4, .inl (cI, 632, .inl (fun _ => nI 0))), (oM, .inr (5, [.int (nI 0), .null, .null, .null, .null, .null, .null, .null, .int (nI 0)]))] H := hP
  have hD : va_D A [(oP, .inr (4, [.ref oS, .ref oe, .ref oT, .ref o1, .ref o2, .ref o3, .ref o4])), (oS, .inr (2, [.ref qC, .ref qS, .ref qN, .ref qB, .int (nI 0)])), (qC, .inl (cI, 17500, .inl (fun _ => nI 0))), (qS, .inl (cI, 24, .inl (fun z9 => nI ((fun _ => 0) z9)))), (qN, .inl (cI, 24, .inl (fun z9 => nI ((fun _ => 0) z9)))), (qB, .inl (cZ, 24, .inl (fun z9 => pn_b ((fun _ => false) z9)))), (oe, .inr (0, [.long (pn_L 1), .long (pn_L 0), .long (pn_L 0), .long (pn_L 1)])), (oT, .inr (3, [.ref qT, .int (nI 6031)])), (qT, .inl (cB, 6031, .inl (fun z9 => nI ((fun _ => 0) z9)))), (o1, .inr (1, [.ref q1, .int (nI 0), .int (pn_b false)])), (q1, .inl (cI, 632, .inl (fun _ => nI 0))), (o2, .inr (1, [.ref q2, .int (nI 0), .int (pn_b false)])), (q2, .inl (cI, 632, .inl (fun _ => nI 0))), (o3, .inr (1, [.ref q3, .int (nI 0), .int (pn_b false)])), (q3, .inl (cI, 632, .inl (fun _ => nI 0))), (o4, .inr (1, [.ref q4, .int (nI 0), .int (pn_b false)])), (q4, .inl (cI, 632, .inl (fun _ => nI 0))), (oM, .inr (5, [.int (nI 0), .null, .null, .null, .null, .null, .null, .null, .int (nI 0)]))] := hD
  refine lv_dup hx hb d_L_law_11 rfl ?_
  refine pn_bvm (wr := [(oP, .inr (4, [.ref oS, .ref oe, .ref oT, .ref o1, .ref o2, .ref o3, .ref o4])), (oS, .inr (2, [.ref qC, .ref qS, .ref qN, .ref qB, .int (nI 0)])), (qC, .inl (cI, 17500, .inl (fun _ => nI 0))), (qS, .inl (cI, 24, .inl (fun z9 => nI ((fun _ => 0) z9)))), (qN, .inl (cI, 24, .inl (fun z9 => nI ((fun _ => 0) z9)))), (qB, .inl (cZ, 24, .inl (fun z9 => pn_b ((fun _ => false) z9)))), (oe, .inr (0, [.long (pn_L 1), .long (pn_L 0), .long (pn_L 0), .long (pn_L 1)])), (oT, .inr (3, [.ref qT, .int (nI 6031)])), (qT, .inl (cB, 6031, .inl (fun z9 => nI ((fun _ => 0) z9)))), (o1, .inr (1, [.ref q1, .int (nI 0), .int (pn_b false)])), (q1, .inl (cI, 632, .inl (fun _ => nI 0))), (o2, .inr (1, [.ref q2, .int (nI 0), .int (pn_b false)])), (q2, .inl (cI, 632, .inl (fun _ => nI 0))), (o3, .inr (1, [.ref q3, .int (nI 0), .int (pn_b false)])), (q3, .inl (cI, 632, .inl (fun _ => nI 0))), (o4, .inr (1, [.ref q4, .int (nI 0), .int (pn_b false)])), (q4, .inl (cI, 632, .inl (fun _ => nI 0)))]) [17] [0, 1, 2, 3, 4, 5, 6, 7, 8, 9, 10, 11, 12, 13, 14, 15, 16] hP hD hS hA (pn_rI [.ref oM] Fx hK hN hP hD [17] rfl rfl (c_M_init l D cI cZ cB cJ _ oM) kw_625 cal_M_init inst_M_init rfl ⟨by decide, by decide⟩ ⟨rfl, rfl⟩ hl.1 (Nat.le_of_ble_eq_true rfl) d_L_law_12 ⟨by decide, by decide⟩) rfl rfl rfl (by decide) (fun u_12 H locs hw hP hD hS => ?_)
  obtain ⟨qW, qM, qK, qJ, qG, qH, qP⟩ := u_12
  have hP : va_P D pn_cl [(oP, .inr (4, [.ref oS, .ref oe, .ref oT, .ref o1, .ref o2, .ref o3, .ref o4])), (oS, .inr (2, [.ref qC, .ref qS, .ref qN, .ref qB, .int (nI 0)])), (qC, .inl (cI, 17500, .inl (fun _ => nI 0))), (qS, .inl (cI, 24, .inl (fun z9 => nI ((fun _ => 0) z9)))), (qN, .inl (cI, 24, .inl (fun z9 => nI ((fun _ => 0) z9)))), (qB, .inl (cZ, 24, .inl (fun z9 => pn_b ((fun _ => false) z9)))), (oe, .inr (0, [.long (pn_L 1), .long (pn_L 0), .long (pn_L 0), .long (pn_L 1)])), (oT, .inr (3, [.ref qT, .int (nI 6031)])), (qT, .inl (cB, 6031, .inl (fun z9 => nI ((fun _ => 0) z9)))), (o1, .inr (1, [.ref q1, .int (nI 0), .int (pn_b false)])), (q1, .inl (cI, 632, .inl (fun _ => nI 0))), (o2, .inr (1, [.ref q2, .int (nI 0), .int (pn_b false)])), (q2, .inl (cI, 632, .inl (fun _ => nI 0))), (o3, .inr (1, [.ref q3, .int (nI 0), .int (pn_b false)])), (q3, .inl (cI, 632, .inl (fun _ => nI 0))), (o4, .inr (1, [.ref q4, .int (nI 0), .int (pn_b false)])), (q4, .inl (cI, 632, .inl (fun _ => nI 0))), (oM, .inr (5, [.int (nI 0), .ref qW, .ref qM, .ref qK, .ref qJ, .ref qG, .ref qH, .ref qP, .int (nI 0)])), (qW, .inl (cI, 22400, .inl (fun z9 => nI ((fun _ => 0) z9)))), (qM, .inl (cI, 7, .inl (fun z9 => nI ((fun _ => 0) z9)))), (qK, .inl (cI, 36480, .inl (fun z9 => nI ((fun _ => 0) z9)))), (qJ, .inl (cI, 24, .inl (fun z9 => nI ((fun _ => 0) z9)))), (qG, .inl (cI, 24, .inl (fun _ => nI 0))), (qH, .inl (cI, 2700, .inl (fun z9 => nI ((fun _ => 0) z9)))), (qP, .inl (cI, 6100, .inl (fun z9 => nI ((fun _ => 0) z9))))] H := hP
  have hD : va_D A [(oP, .inr (4, [.ref oS, .ref oe, .ref oT, .ref o1, .ref o2, .ref o3, .ref o4])), (oS, .inr (2, [.ref qC, .ref qS, .ref qN, .ref qB, .int (nI 0)])), (qC, .inl (cI, 17500, .inl (fun _ => nI 0))), (qS, .inl (cI, 24, .inl (fun z9 => nI ((fun _ => 0) z9)))), (qN, .inl (cI, 24, .inl (fun z9 => nI ((fun _ => 0) z9)))), (qB, .inl (cZ, 24, .inl (fun z9 => pn_b ((fun _ => false) z9)))), (oe, .inr (0, [.long (pn_L 1), .long (pn_L 0), .long (pn_L 0), .long (pn_L 1)])), (oT, .inr (3, [.ref qT, .int (nI 6031)])), (qT, .inl (cB, 6031, .inl (fun z9 => nI ((fun _ => 0) z9)))), (o1, .inr (1, [.ref q1, .int (nI 0), .int (pn_b false)])), (q1, .inl (cI, 632, .inl (fun _ => nI 0))), (o2, .inr (1, [.ref q2, .int (nI 0), .int (pn_b false)])), (q2, .inl (cI, 632, .inl (fun _ => nI 0))), (o3, .inr (1, [.ref q3, .int (nI 0), .int (pn_b false)])), (q3, .inl (cI, 632, .inl (fun _ => nI 0))), (o4, .inr (1, [.ref q4, .int (nI 0), .int (pn_b false)])), (q4, .inl (cI, 632, .inl (fun _ => nI 0))), (oM, .inr (5, [.int (nI 0), .ref qW, .ref qM, .ref qK, .ref qJ, .ref qG, .ref qH, .ref qP, .int (nI 0)])), (qW, .inl (cI, 22400, .inl (fun z9 => nI ((fun _ => 0) z9)))), (qM, .inl (cI, 7, .inl (fun z9 => nI ((fun _ => 0) z9)))), (qK, .inl (cI, 36480, .inl (fun z9 => nI ((fun _ => 0) z9)))), (qJ, .inl (cI, 24, .inl (fun z9 => nI ((fun _ => 0) z9)))), (qG, .inl (cI, 24, .inl (fun _ => nI 0))), (qH, .inl (cI, 2700, .inl (fun z9 => nI ((fun _ => 0) z9)))), (qP, .inl (cI, 6100, .inl (fun z9 => nI ((fun _ => 0) z9))))] := hD
  refine lv_astore_n (lv' := [(2, .ref oM), (1, .ref oP), (0, .ref b)]) hx hb d_L_law_15 rfl hl (by decide) rfl (fun ls hl => ?_)
  refine lv_iconst (v := nI 1) hx hb d_L_law_16 (by decide) ?_
  refine pw_newa Fx hK hP hD hS hA 3 (N' := 1) (a0 := (1, .inr (.inl (fun _ => pn_L 0)))) rfl rfl (fun _ h => h) kw_830 (pn_aj _) (by decide) (by decide) (Nat.le_of_ble_eq_true rfl) (Nat.le_of_ble_eq_true rfl) d_L_law_17 (fun qO H hP hD hS => ?_)
  have hP : va_P D pn_cl [(oP, .inr (4, [.ref oS, .ref oe, .ref oT, .ref o1, .ref o2, .ref o3, .ref o4])), (oS, .inr (2, [.ref qC, .ref qS, .ref qN, .ref qB, .int (nI 0)])), (qC, .inl (cI, 17500, .inl (fun _ => nI 0))), (qS, .inl (cI, 24, .inl (fun z9 => nI ((fun _ => 0) z9)))), (qN, .inl (cI, 24, .inl (fun z9 => nI ((fun _ => 0) z9)))), (qB, .inl (cZ, 24, .inl (fun z9 => pn_b ((fun _ => false) z9)))), (oe, .inr (0, [.long (pn_L 1), .long (pn_L 0), .long (pn_L 0), .long (pn_L 1)])), (oT, .inr (3, [.ref qT, .int (nI 6031)])), (qT, .inl (cB, 6031, .inl (fun z9 => nI ((fun _ => 0) z9)))), (o1, .inr (1, [.ref q1, .int (nI 0), .int (pn_b false)])), (q1, .inl (cI, 632, .inl (fun _ => nI 0))), (o2, .inr (1, [.ref q2, .int (nI 0), .int (pn_b false)])), (q2, .inl (cI, 632, .inl (fun _ => nI 0))), (o3, .inr (1, [.ref q3, .int (nI 0), .int (pn_b false)])), (q3, .inl (cI, 632, .inl (fun _ => nI 0))), (o4, .inr (1, [.ref q4, .int (nI 0), .int (pn_b false)])), (q4, .inl (cI, 632, .inl (fun _ => nI 0))), (oM, .inr (5, [.int (nI 0), .ref qW, .ref qM, .ref qK, .ref qJ, .ref qG, .ref qH, .ref qP, .int (nI 0)])), (qW, .inl (cI, 22400, .inl (fun z9 => nI ((fun _ => 0) z9)))), (qM, .inl (cI, 7, .inl (fun z9 => nI ((fun _ => 0) z9)))), (qK, .inl (cI, 36480, .inl (fun z9 => nI ((fun _ => 0) z9)))), (qJ, .inl (cI, 24, .inl (fun z9 => nI ((fun _ => 0) z9)))), (qG, .inl (cI, 24, .inl (fun _ => nI 0))), (qH, .inl (cI, 2700, .inl (fun z9 => nI ((fun _ => 0) z9)))), (qP, .inl (cI, 6100, .inl (fun z9 => nI ((fun _ => 0) z9)))), (qO, .inl (cJ, 1, .inr (.inl (fun _ => pn_L 0))))] H := hP
  have hD : va_D A [(oP, .inr (4, [.ref oS, .ref oe, .ref oT, .ref o1, .ref o2, .ref o3, .ref o4])), (oS, .inr (2, [.ref qC, .ref qS, .ref qN, .ref qB, .int (nI 0)])), (qC, .inl (cI, 17500, .inl (fun _ => nI 0))), (qS, .inl (cI, 24, .inl (fun z9 => nI ((fun _ => 0) z9)))), (qN, .inl (cI, 24, .inl (fun z9 => nI ((fun _ => 0) z9)))), (qB, .inl (cZ, 24, .inl (fun z9 => pn_b ((fun _ => false) z9)))), (oe, .inr (0, [.long (pn_L 1), .long (pn_L 0), .long (pn_L 0), .long (pn_L 1)])), (oT, .inr (3, [.ref qT, .int (nI 6031)])), (qT, .inl (cB, 6031, .inl (fun z9 => nI ((fun _ => 0) z9)))), (o1, .inr (1, [.ref q1, .int (nI 0), .int (pn_b false)])), (q1, .inl (cI, 632, .inl (fun _ => nI 0))), (o2, .inr (1, [.ref q2, .int (nI 0), .int (pn_b false)])), (q2, .inl (cI, 632, .inl (fun _ => nI 0))), (o3, .inr (1, [.ref q3, .int (nI 0), .int (pn_b false)])), (q3, .inl (cI, 632, .inl (fun _ => nI 0))), (o4, .inr (1, [.ref q4, .int (nI 0), .int (pn_b false)])), (q4, .inl (cI, 632, .inl (fun _ => nI 0))), (oM, .inr (5, [.int (nI 0), .ref qW, .ref qM, .ref qK, .ref qJ, .ref qG, .ref qH, .ref qP, .int (nI 0)])), (qW, .inl (cI, 22400, .inl (fun z9 => nI ((fun _ => 0) z9)))), (qM, .inl (cI, 7, .inl (fun z9 => nI ((fun _ => 0) z9)))), (qK, .inl (cI, 36480, .inl (fun z9 => nI ((fun _ => 0) z9)))), (qJ, .inl (cI, 24, .inl (fun z9 => nI ((fun _ => 0) z9)))), (qG, .inl (cI, 24, .inl (fun _ => nI 0))), (qH, .inl (cI, 2700, .inl (fun z9 => nI ((fun _ => 0) z9)))), (qP, .inl (cI, 6100, .inl (fun z9 => nI ((fun _ => 0) z9)))), (qO, .inl (cJ, 1, .inr (.inl (fun _ => pn_L 0))))] := hD
  refine lv_astore_n (lv' := [(3, .ref qO), (2, .ref oM), (1, .ref oP), (0, .ref b)]) hx hb d_L_law_19 rfl hl (by decide) rfl (fun ls hl => ?_)
  refine lv_iconst (v := nI 0) hx hb d_L_law_20 (by decide) ?_
  refine lv_istore (lv' := [(4, .int (nI 0)), (3, .ref qO), (2, .ref oM), (1, .ref oP), (0, .ref b)]) hx hb d_L_law_21 hl (by decide) rfl (fun ls hl => ?_)
  exact lw_loop hl0 Fx hN hE hNC hK hA hX hbl hbA hL rfl hr hlocks hAe 512 0 _ _ (by omega) (by omega) (by decide) (by decide) (fun _ => nI 0) (fun _ => 0) (fun _ => 0) (fun _ => false) 0 (fun _ => nI 0) 0 false (fun _ => nI 0) 0 false (fun _ => nI 0) 0 false (fun _ => nI 0) 0 false 1 0 0 1 (fun _ => 0) 6031 0 0 (fun _ => 0) (fun _ => 0) (fun _ => 0) (fun _ => 0) (fun _ => 0) (fun _ => nI 0) (fun _ => 0) (fun _ => pn_L 0) (fun _ => 0) lw_reg0 lw_mreg0 lw_T0 _ _ _ hl (hP.sub [0, 1, 2, 3, 4, 5, 9, 10, 11, 12, 13, 14, 15, 16, 6, 7, 8, 17, 18, 19, 23, 20, 21, 22, 24, 25] rfl) (hD.sub [0, 1, 2, 3, 4, 5, 9, 10, 11, 12, 13, 14, 15, 16, 6, 7, 8, 17, 18, 19, 23, 20, 21, 22, 24, 25] (by decide) rfl) hS
