def pn_ln (n : Nat) : Nat := pn_len (n : Int)
theorem pn_ln_le (n L : Nat) : pn_ln n ≤ L ↔ n < 2 ^ L := by
  unfold pn_ln
  rw [pn_len_le (Int.natCast_nonneg n), pn_two]
  omega
theorem pn_ln_lt (n L : Nat) : L < pn_ln n ↔ 2 ^ L ≤ n := by
  have := pn_ln_le n L
  omega
theorem pn_ln_is {n L : Nat} (h1 : 2 ^ L ≤ n) (h2 : n < 2 ^ (L + 1)) : pn_ln n = L + 1 := by
  have a := (pn_ln_le n (L + 1)).mpr h2
  have b := (pn_ln_lt n L).mpr h1
  omega
theorem pn_ln_shift {v k : Nat} (h : 2 ^ k ≤ v) : pn_ln (v / 2 ^ k) + k = pn_ln v := by
  have hp := Nat.two_pow_pos k
  have hw : 1 ≤ v / 2 ^ k := (Nat.le_div_iff_mul_le hp).mpr (by omega)
  obtain ⟨j, hj⟩ : ∃ j, pn_ln (v / 2 ^ k) = j + 1 := ⟨pn_ln (v / 2 ^ k) - 1, by have := (pn_ln_lt (v / 2 ^ k) 0).mpr (by simpa using hw); omega⟩
  have a1 := (pn_ln_le (v / 2 ^ k) (j + 1)).mp (by omega)
  have a2 := (pn_ln_lt (v / 2 ^ k) j).mp (by omega)
  have b1 : v < 2 ^ (j + 1) * 2 ^ k := (Nat.div_lt_iff_lt_mul hp).mp a1
  have b2 : 2 ^ j * 2 ^ k ≤ v := (Nat.le_div_iff_mul_le hp).mp a2
  have c : pn_ln v = (j + k) + 1 := pn_ln_is (by rw [Nat.pow_add]; exact b2) (by rw [show j + k + 1 = (j + 1) + k by omega, Nat.pow_add]; exact b1)
  omega
theorem pn_ln_4 {v : Nat} (h1 : 1 ≤ v) (h2 : v < 4) : pn_ln v = 1 + v / 2 := by
  rcases (show v = 1 ∨ v = 2 ∨ v = 3 by omega) with rfl | rfl | rfl <;> decide
theorem pn_u_nI {n : Nat} (h : n < 2 ^ 31) : pn_u (nI n) = (n : Int) := by
  rw [← pn_I_nI, pn_u_Ilt (by omega) (by omega)]
theorem pn_u_neg {x : Int32} (h : x < 0) : 2147483648 ≤ pn_u x := by
  have h1 := Int32.lt_iff_toInt_lt.mp h
  have h2 := pn_u_toInt x
  have h3 : (0 : Int32).toInt = 0 := rfl
  have h4 := Int32.minValue_le_toInt x
  have h5 : Int32.minValue.toInt = -2147483648 := rfl
  omega

set_option maxHeartbeats 4000000 in
set_option maxRecDepth 100000 in
theorem c_J_nlz (l : Launch) (D : va_G) (cI cZ cB cJ : ClassId) (sz : Nat) (x : Int32) : pn_Ci l D (pn_ty cI cZ cB cJ) y_J_nlz w_J_nlz ({ frames := 0, cells := 0, slots := 0, locals := 0 } : Room) [.int x] [] sz (S := Unit) (fun r _ => r = nI (32 - pn_len (pn_u x))) (fun _ => []) := by
  refine pn_start (by decide) (Nat.le_of_ble_eq_true rfl) ?_
  intro p e s m below meth c A Q ls hQ hAe Fx hr hlocks hN hK hP hD hS hA hl
  have hx := Fx.1
  have hb := Fx.2.1
  have hl : lv_has ls 2 [(0, .int x)] := hl
  refine lv_iload_n hx hb d_J_nlz_0 rfl (lv_at hl 0 rfl) ?_
  refine lv_if_gt (tgt := 15) hx hb d_J_nlz_1 (by decide) (fun h_1 => ?_) (fun h_1 => ?_)
  · skip
    obtain ⟨v, hv, rfl⟩ := nI_of (x := x) (fun z => absurd h_1 (by rw [Int32.lt_iff_toInt_lt] at *; have e : (0 : Int32).toInt = 0 := rfl; omega))
    have hv1 : 1 ≤ v := by rcases Nat.eq_zero_or_pos v with z | z; (· subst z; exact absurd h_1 (by decide)); (· exact z)
    have hI : pn_ln v + 0 = pn_ln v := rfl
    refine lv_bipush (v := nI 31) hx hb d_J_nlz_15 (by decide) ?_
    refine lv_istore_n (lv' := [(1, .int (nI 31)), (0, .int (nI v))]) hx hb d_J_nlz_17 rfl hl (by decide) rfl (fun ls hl => ?_)
    refine lv_iload_n hx hb d_J_nlz_18 rfl (lv_at hl 1 rfl) ?_
    refine lv_ldcw hx hb Fx.2.2.2.1 (Fx.2.2.2.2 _ kw_241) d_J_nlz_19 ?_
    refine pn_topi (nI 65536) (by decide) ?_
    refine pw_icmp_lt (a := v) (b := 65536) (tgt := 33) hx hb d_J_nlz_22 (by decide) (by omega) (by omega) (fun h_22 => ?_) (fun h_22 => ?_)
    · skip
      refine lv_iload_n hx hb d_J_nlz_33 rfl (lv_at hl 1 rfl) ?_
      refine lv_sipush (v := nI 256) hx hb d_J_nlz_34 (by decide) ?_
      refine pw_icmp_lt (a := v) (b := 256) (tgt := 48) hx hb d_J_nlz_37 (by decide) (by omega) (by omega) (fun h_37 => ?_) (fun h_37 => ?_)
      · skip
        refine lv_iload_n hx hb d_J_nlz_48 rfl (lv_at hl 1 rfl) ?_
        refine lv_bipush (v := nI 16) hx hb d_J_nlz_49 (by decide) ?_
        refine pw_icmp_lt (a := v) (b := 16) (tgt := 61) hx hb d_J_nlz_51 (by decide) (by omega) (by omega) (fun h_51 => ?_) (fun h_51 => ?_)
        · skip
          refine lv_iload_n hx hb d_J_nlz_61 rfl (lv_at hl 1 rfl) ?_
          refine lv_iconst (v := nI 4) hx hb d_J_nlz_62 (by decide) ?_
          refine pw_icmp_lt (a := v) (b := 4) (tgt := 73) hx hb d_J_nlz_63 (by decide) (by omega) (by omega) (fun h_63 => ?_) (fun h_63 => ?_)
          · skip
            refine lv_iload_n hx hb d_J_nlz_73 rfl (lv_at hl 0 rfl) ?_
            refine lv_iload_n hx hb d_J_nlz_74 rfl (lv_at hl 1 rfl) ?_
            refine lv_iconst (v := 1) hx hb d_J_nlz_75 (by decide) ?_
            refine lv_iushr (v := nI (v / 2 ^ 1)) hx hb d_J_nlz_76 (pk_ushrN (by omega) 1 1 (by decide)) ?_
            have e4 := pn_ln_4 (v := v) (by omega) (by omega)
            have e5 := pn_len_u (nI v)
            have hz : nI (31 - v / 2 ^ 1) = nI (32 - pn_len (pn_u (nI v))) := by have e6 : pn_len (pn_u (nI v)) = pn_ln v := (by rw [pn_u_nI hv]; rfl); rw [e6]; congr 1; omega
            refine pw_isub hx hb d_J_nlz_77 (by omega) ?_
            exact pn_reti (()) Fx hr hlocks hQ hAe hP hD hS (hz) d_J_nlz_78
          · skip
            have hI : pn_ln (v / 2 ^ 2) + 2 = pn_ln v := by have e := pn_ln_shift (v := v) (k := 2) (by omega); omega
            refine lv_iinc (v := nI 29) (lv' := [(1, .int (nI 29)), (0, .int (nI v))]) hx hb d_J_nlz_66 hl (k := 0) rfl (by decide) (by decide) rfl (fun ls hl => ?_)
            refine lv_iload_n hx hb d_J_nlz_69 rfl (lv_at hl 1 rfl) ?_
            refine lv_iconst (v := 2) hx hb d_J_nlz_70 (by decide) ?_
            refine lv_iushr (v := nI (v / 2 ^ 2)) hx hb d_J_nlz_71 (pk_ushrN (by omega) 2 2 (by decide)) ?_
            refine lv_istore_n (lv' := [(0, .int (nI (v / 2 ^ 2))), (1, .int (nI 29))]) hx hb d_J_nlz_72 rfl hl (by decide) rfl (fun ls hl => ?_)
            refine lv_iload_n hx hb d_J_nlz_73 rfl (lv_at hl 1 rfl) ?_
            refine lv_iload_n hx hb d_J_nlz_74 rfl (lv_at hl 0 rfl) ?_
            refine lv_iconst (v := 1) hx hb d_J_nlz_75 (by decide) ?_
            refine lv_iushr (v := nI ((v / 2 ^ 2) / 2 ^ 1)) hx hb d_J_nlz_76 (pk_ushrN (by omega) 1 1 (by decide)) ?_
            have e4 := pn_ln_4 (v := v / 2 ^ 2) (by omega) (by omega)
            have e5 := pn_len_u (nI v)
            have hz : nI (29 - (v / 2 ^ 2) / 2 ^ 1) = nI (32 - pn_len (pn_u (nI v))) := by have e6 : pn_len (pn_u (nI v)) = pn_ln v := (by rw [pn_u_nI hv]; rfl); rw [e6]; congr 1; omega
            refine pw_isub hx hb d_J_nlz_77 (by omega) ?_
            exact pn_reti (()) Fx hr hlocks hQ hAe hP hD hS (hz) d_J_nlz_78
        · skip
          have hI : pn_ln (v / 2 ^ 4) + 4 = pn_ln v := by have e := pn_ln_shift (v := v) (k := 4) (by omega); omega
          refine lv_iinc (v := nI 27) (lv' := [(1, .int (nI 27)), (0, .int (nI v))]) hx hb d_J_nlz_54 hl (k := 0) rfl (by decide) (by decide) rfl (fun ls hl => ?_)
          refine lv_iload_n hx hb d_J_nlz_57 rfl (lv_at hl 1 rfl) ?_
          refine lv_iconst (v := 4) hx hb d_J_nlz_58 (by decide) ?_
          refine lv_iushr (v := nI (v / 2 ^ 4)) hx hb d_J_nlz_59 (pk_ushrN (by omega) 4 4 (by decide)) ?_
          refine lv_istore_n (lv' := [(0, .int (nI (v / 2 ^ 4))), (1, .int (nI 27))]) hx hb d_J_nlz_60 rfl hl (by decide) rfl (fun ls hl => ?_)
          refine lv_iload_n hx hb d_J_nlz_61 rfl (lv_at hl 0 rfl) ?_
          refine lv_iconst (v := nI 4) hx hb d_J_nlz_62 (by decide) ?_
          refine pw_icmp_lt (a := v / 2 ^ 4) (b := 4) (tgt := 73) hx hb d_J_nlz_63 (by decide) (by omega) (by omega) (fun h_63 => ?_) (fun h_63 => ?_)
          · skip
            refine lv_iload_n hx hb d_J_nlz_73 rfl (lv_at hl 1 rfl) ?_
            refine lv_iload_n hx hb d_J_nlz_74 rfl (lv_at hl 0 rfl) ?_
            refine lv_iconst (v := 1) hx hb d_J_nlz_75 (by decide) ?_
            refine lv_iushr (v := nI ((v / 2 ^ 4) / 2 ^ 1)) hx hb d_J_nlz_76 (pk_ushrN (by omega) 1 1 (by decide)) ?_
            have e4 := pn_ln_4 (v := v / 2 ^ 4) (by omega) (by omega)
            have e5 := pn_len_u (nI v)
            have hz : nI (27 - (v / 2 ^ 4) / 2 ^ 1) = nI (32 - pn_len (pn_u (nI v))) := by have e6 : pn_len (pn_u (nI v)) = pn_ln v := (by rw [pn_u_nI hv]; rfl); rw [e6]; congr 1; omega
            refine pw_isub hx hb d_J_nlz_77 (by omega) ?_
            exact pn_reti (()) Fx hr hlocks hQ hAe hP hD hS (hz) d_J_nlz_78
          · skip
            have hI : pn_ln ((v / 2 ^ 4) / 2 ^ 2) + 6 = pn_ln v := by have e := pn_ln_shift (v := v / 2 ^ 4) (k := 2) (by omega); omega
            refine lv_iinc (v := nI 25) (lv' := [(1, .int (nI 25)), (0, .int (nI (v / 2 ^ 4)))]) hx hb d_J_nlz_66 hl (k := 1) rfl (by decide) (by decide) rfl (fun ls hl => ?_)
            refine lv_iload_n hx hb d_J_nlz_69 rfl (lv_at hl 1 rfl) ?_
            refine lv_iconst (v := 2) hx hb d_J_nlz_70 (by decide) ?_
            refine lv_iushr (v := nI ((v / 2 ^ 4) / 2 ^ 2)) hx hb d_J_nlz_71 (pk_ushrN (by omega) 2 2 (by decide)) ?_
            refine lv_istore_n (lv' := [(0, .int (nI ((v / 2 ^ 4) / 2 ^ 2))), (1, .int (nI 25))]) hx hb d_J_nlz_72 rfl hl (by decide) rfl (fun ls hl => ?_)
            refine lv_iload_n hx hb d_J_nlz_73 rfl (lv_at hl 1 rfl) ?_
            refine lv_iload_n hx hb d_J_nlz_74 rfl (lv_at hl 0 rfl) ?_
            refine lv_iconst (v := 1) hx hb d_J_nlz_75 (by decide) ?_
            refine lv_iushr (v := nI (((v / 2 ^ 4) / 2 ^ 2) / 2 ^ 1)) hx hb d_J_nlz_76 (pk_ushrN (by omega) 1 1 (by decide)) ?_
            have e4 := pn_ln_4 (v := (v / 2 ^ 4) / 2 ^ 2) (by omega) (by omega)
            have e5 := pn_len_u (nI v)
            have hz : nI (25 - ((v / 2 ^ 4) / 2 ^ 2) / 2 ^ 1) = nI (32 - pn_len (pn_u (nI v))) := by have e6 : pn_len (pn_u (nI v)) = pn_ln v := (by rw [pn_u_nI hv]; rfl); rw [e6]; congr 1; omega
            refine pw_isub hx hb d_J_nlz_77 (by omega) ?_
            exact pn_reti (()) Fx hr hlocks hQ hAe hP hD hS (hz) d_J_nlz_78
      · skip
        have hI : pn_ln (v / 2 ^ 8) + 8 = pn_ln v := by have e := pn_ln_shift (v := v) (k := 8) (by omega); omega
        refine lv_iinc (v := nI 23) (lv' := [(1, .int (nI 23)), (0, .int (nI v))]) hx hb d_J_nlz_40 hl (k := 0) rfl (by decide) (by decide) rfl (fun ls hl => ?_)
        refine lv_iload_n hx hb d_J_nlz_43 rfl (lv_at hl 1 rfl) ?_
        refine lv_bipush (v := 8) hx hb d_J_nlz_44 (by decide) ?_
        refine lv_iushr (v := nI (v / 2 ^ 8)) hx hb d_J_nlz_46 (pk_ushrN (by omega) 8 8 (by decide)) ?_
        refine lv_istore_n (lv' := [(0, .int (nI (v / 2 ^ 8))), (1, .int (nI 23))]) hx hb d_J_nlz_47 rfl hl (by decide) rfl (fun ls hl => ?_)
        refine lv_iload_n hx hb d_J_nlz_48 rfl (lv_at hl 0 rfl) ?_
        refine lv_bipush (v := nI 16) hx hb d_J_nlz_49 (by decide) ?_
        refine pw_icmp_lt (a := v / 2 ^ 8) (b := 16) (tgt := 61) hx hb d_J_nlz_51 (by decide) (by omega) (by omega) (fun h_51 => ?_) (fun h_51 => ?_)
        · skip
          refine lv_iload_n hx hb d_J_nlz_61 rfl (lv_at hl 0 rfl) ?_
          refine lv_iconst (v := nI 4) hx hb d_J_nlz_62 (by decide) ?_
          refine pw_icmp_lt (a := v / 2 ^ 8) (b := 4) (tgt := 73) hx hb d_J_nlz_63 (by decide) (by omega) (by omega) (fun h_63 => ?_) (fun h_63 => ?_)
          · skip
            refine lv_iload_n hx hb d_J_nlz_73 rfl (lv_at hl 1 rfl) ?_
            refine lv_iload_n hx hb d_J_nlz_74 rfl (lv_at hl 0 rfl) ?_
            refine lv_iconst (v := 1) hx hb d_J_nlz_75 (by decide) ?_
            refine lv_iushr (v := nI ((v / 2 ^ 8) / 2 ^ 1)) hx hb d_J_nlz_76 (pk_ushrN (by omega) 1 1 (by decide)) ?_
            have e4 := pn_ln_4 (v := v / 2 ^ 8) (by omega) (by omega)
            have e5 := pn_len_u (nI v)
            have hz : nI (23 - (v / 2 ^ 8) / 2 ^ 1) = nI (32 - pn_len (pn_u (nI v))) := by have e6 : pn_len (pn_u (nI v)) = pn_ln v := (by rw [pn_u_nI hv]; rfl); rw [e6]; congr 1; omega
            refine pw_isub hx hb d_J_nlz_77 (by omega) ?_
            exact pn_reti (()) Fx hr hlocks hQ hAe hP hD hS (hz) d_J_nlz_78
          · skip
            have hI : pn_ln ((v / 2 ^ 8) / 2 ^ 2) + 10 = pn_ln v := by have e := pn_ln_shift (v := v / 2 ^ 8) (k := 2) (by omega); omega
            refine lv_iinc (v := nI 21) (lv' := [(1, .int (nI 21)), (0, .int (nI (v / 2 ^ 8)))]) hx hb d_J_nlz_66 hl (k := 1) rfl (by decide) (by decide) rfl (fun ls hl => ?_)
            refine lv_iload_n hx hb d_J_nlz_69 rfl (lv_at hl 1 rfl) ?_
            refine lv_iconst (v := 2) hx hb d_J_nlz_70 (by decide) ?_
            refine lv_iushr (v := nI ((v / 2 ^ 8) / 2 ^ 2)) hx hb d_J_nlz_71 (pk_ushrN (by omega) 2 2 (by decide)) ?_
            refine lv_istore_n (lv' := [(0, .int (nI ((v / 2 ^ 8) / 2 ^ 2))), (1, .int (nI 21))]) hx hb d_J_nlz_72 rfl hl (by decide) rfl (fun ls hl => ?_)
            refine lv_iload_n hx hb d_J_nlz_73 rfl (lv_at hl 1 rfl) ?_
            refine lv_iload_n hx hb d_J_nlz_74 rfl (lv_at hl 0 rfl) ?_
            refine lv_iconst (v := 1) hx hb d_J_nlz_75 (by decide) ?_
            refine lv_iushr (v := nI (((v / 2 ^ 8) / 2 ^ 2) / 2 ^ 1)) hx hb d_J_nlz_76 (pk_ushrN (by omega) 1 1 (by decide)) ?_
            have e4 := pn_ln_4 (v := (v / 2 ^ 8) / 2 ^ 2) (by omega) (by omega)
            have e5 := pn_len_u (nI v)
            have hz : nI (21 - ((v / 2 ^ 8) / 2 ^ 2) / 2 ^ 1) = nI (32 - pn_len (pn_u (nI v))) := by have e6 : pn_len (pn_u (nI v)) = pn_ln v := (by rw [pn_u_nI hv]; rfl); rw [e6]; congr 1; omega
            refine pw_isub hx hb d_J_nlz_77 (by omega) ?_
            exact pn_reti (()) Fx hr hlocks hQ hAe hP hD hS (hz) d_J_nlz_78
        · skip
          have hI : pn_ln ((v / 2 ^ 8) / 2 ^ 4) + 12 = pn_ln v := by have e := pn_ln_shift (v := v / 2 ^ 8) (k := 4) (by omega); omega
          refine lv_iinc (v := nI 19) (lv' := [(1, .int (nI 19)), (0, .int (nI (v / 2 ^ 8)))]) hx hb d_J_nlz_54 hl (k := 1) rfl (by decide) (by decide) rfl (fun ls hl => ?_)
          refine lv_iload_n hx hb d_J_nlz_57 rfl (lv_at hl 1 rfl) ?_
          refine lv_iconst (v := 4) hx hb d_J_nlz_58 (by decide) ?_
          refine lv_iushr (v := nI ((v / 2 ^ 8) / 2 ^ 4)) hx hb d_J_nlz_59 (pk_ushrN (by omega) 4 4 (by decide)) ?_
          refine lv_istore_n (lv' := [(0, .int (nI ((v / 2 ^ 8) / 2 ^ 4))), (1, .int (nI 19))]) hx hb d_J_nlz_60 rfl hl (by decide) rfl (fun ls hl => ?_)
          refine lv_iload_n hx hb d_J_nlz_61 rfl (lv_at hl 0 rfl) ?_
          refine lv_iconst (v := nI 4) hx hb d_J_nlz_62 (by decide) ?_
          refine pw_icmp_lt (a := (v / 2 ^ 8) / 2 ^ 4) (b := 4) (tgt := 73) hx hb d_J_nlz_63 (by decide) (by omega) (by omega) (fun h_63 => ?_) (fun h_63 => ?_)
          · skip
            refine lv_iload_n hx hb d_J_nlz_73 rfl (lv_at hl 1 rfl) ?_
            refine lv_iload_n hx hb d_J_nlz_74 rfl (lv_at hl 0 rfl) ?_
            refine lv_iconst (v := 1) hx hb d_J_nlz_75 (by decide) ?_
            refine lv_iushr (v := nI (((v / 2 ^ 8) / 2 ^ 4) / 2 ^ 1)) hx hb d_J_nlz_76 (pk_ushrN (by omega) 1 1 (by decide)) ?_
            have e4 := pn_ln_4 (v := (v / 2 ^ 8) / 2 ^ 4) (by omega) (by omega)
            have e5 := pn_len_u (nI v)
            have hz : nI (19 - ((v / 2 ^ 8) / 2 ^ 4) / 2 ^ 1) = nI (32 - pn_len (pn_u (nI v))) := by have e6 : pn_len (pn_u (nI v)) = pn_ln v := (by rw [pn_u_nI hv]; rfl); rw [e6]; congr 1; omega
            refine pw_isub hx hb d_J_nlz_77 (by omega) ?_
            exact pn_reti (()) Fx hr hlocks hQ hAe hP hD hS (hz) d_J_nlz_78
          · skip
            have hI : pn_ln (((v / 2 ^ 8) / 2 ^ 4) / 2 ^ 2) + 14 = pn_ln v := by have e := pn_ln_shift (v := (v / 2 ^ 8) / 2 ^ 4) (k := 2) (by omega); omega
            refine lv_iinc (v := nI 17) (lv' := [(1, .int (nI 17)), (0, .int (nI ((v / 2 ^ 8) / 2 ^ 4)))]) hx hb d_J_nlz_66 hl (k := 1) rfl (by decide) (by decide) rfl (fun ls hl => ?_)
            refine lv_iload_n hx hb d_J_nlz_69 rfl (lv_at hl 1 rfl) ?_
            refine lv_iconst (v := 2) hx hb d_J_nlz_70 (by decide) ?_
            refine lv_iushr (v := nI (((v / 2 ^ 8) / 2 ^ 4) / 2 ^ 2)) hx hb d_J_nlz_71 (pk_ushrN (by omega) 2 2 (by decide)) ?_
            refine lv_istore_n (lv' := [(0, .int (nI (((v / 2 ^ 8) / 2 ^ 4) / 2 ^ 2))), (1, .int (nI 17))]) hx hb d_J_nlz_72 rfl hl (by decide) rfl (fun ls hl => ?_)
            refine lv_iload_n hx hb d_J_nlz_73 rfl (lv_at hl 1 rfl) ?_
            refine lv_iload_n hx hb d_J_nlz_74 rfl (lv_at hl 0 rfl) ?_
            refine lv_iconst (v := 1) hx hb d_J_nlz_75 (by decide) ?_
            refine lv_iushr (v := nI ((((v / 2 ^ 8) / 2 ^ 4) / 2 ^ 2) / 2 ^ 1)) hx hb d_J_nlz_76 (pk_ushrN (by omega) 1 1 (by decide)) ?_
            have e4 := pn_ln_4 (v := ((v / 2 ^ 8) / 2 ^ 4) / 2 ^ 2) (by omega) (by omega)
            have e5 := pn_len_u (nI v)
            have hz : nI (17 - (((v / 2 ^ 8) / 2 ^ 4) / 2 ^ 2) / 2 ^ 1) = nI (32 - pn_len (pn_u (nI v))) := by have e6 : pn_len (pn_u (nI v)) = pn_ln v := (by rw [pn_u_nI hv]; rfl); rw [e6]; congr 1; omega
            refine pw_isub hx hb d_J_nlz_77 (by omega) ?_
            exact pn_reti (()) Fx hr hlocks hQ hAe hP hD hS (hz) d_J_nlz_78
    · skip
      have hI : pn_ln (v / 2 ^ 16) + 16 = pn_ln v := by have e := pn_ln_shift (v := v) (k := 16) (by omega); omega
      refine lv_iinc (v := nI 15) (lv' := [(1, .int (nI 15)), (0, .int (nI v))]) hx hb d_J_nlz_25 hl (k := 0) rfl (by decide) (by decide) rfl (fun ls hl => ?_)
      refine lv_iload_n hx hb d_J_nlz_28 rfl (lv_at hl 1 rfl) ?_
      refine lv_bipush (v := 16) hx hb d_J_nlz_29 (by decide) ?_
      refine lv_iushr (v := nI (v / 2 ^ 16)) hx hb d_J_nlz_31 (pk_ushrN (by omega) 16 16 (by decide)) ?_
      refine lv_istore_n (lv' := [(0, .int (nI (v / 2 ^ 16))), (1, .int (nI 15))]) hx hb d_J_nlz_32 rfl hl (by decide) rfl (fun ls hl => ?_)
      refine lv_iload_n hx hb d_J_nlz_33 rfl (lv_at hl 0 rfl) ?_
      refine lv_sipush (v := nI 256) hx hb d_J_nlz_34 (by decide) ?_
      refine pw_icmp_lt (a := v / 2 ^ 16) (b := 256) (tgt := 48) hx hb d_J_nlz_37 (by decide) (by omega) (by omega) (fun h_37 => ?_) (fun h_37 => ?_)
      · skip
        refine lv_iload_n hx hb d_J_nlz_48 rfl (lv_at hl 0 rfl) ?_
        refine lv_bipush (v := nI 16) hx hb d_J_nlz_49 (by decide) ?_
        refine pw_icmp_lt (a := v / 2 ^ 16) (b := 16) (tgt := 61) hx hb d_J_nlz_51 (by decide) (by omega) (by omega) (fun h_51 => ?_) (fun h_51 => ?_)
        · skip
          refine lv_iload_n hx hb d_J_nlz_61 rfl (lv_at hl 0 rfl) ?_
          refine lv_iconst (v := nI 4) hx hb d_J_nlz_62 (by decide) ?_
          refine pw_icmp_lt (a := v / 2 ^ 16) (b := 4) (tgt := 73) hx hb d_J_nlz_63 (by decide) (by omega) (by omega) (fun h_63 => ?_) (fun h_63 => ?_)
          · skip
            refine lv_iload_n hx hb d_J_nlz_73 rfl (lv_at hl 1 rfl) ?_
            refine lv_iload_n hx hb d_J_nlz_74 rfl (lv_at hl 0 rfl) ?_
            refine lv_iconst (v := 1) hx hb d_J_nlz_75 (by decide) ?_
            refine lv_iushr (v := nI ((v / 2 ^ 16) / 2 ^ 1)) hx hb d_J_nlz_76 (pk_ushrN (by omega) 1 1 (by decide)) ?_
            have e4 := pn_ln_4 (v := v / 2 ^ 16) (by omega) (by omega)
            have e5 := pn_len_u (nI v)
            have hz : nI (15 - (v / 2 ^ 16) / 2 ^ 1) = nI (32 - pn_len (pn_u (nI v))) := by have e6 : pn_len (pn_u (nI v)) = pn_ln v := (by rw [pn_u_nI hv]; rfl); rw [e6]; congr 1; omega
            refine pw_isub hx hb d_J_nlz_77 (by omega) ?_
            exact pn_reti (()) Fx hr hlocks hQ hAe hP hD hS (hz) d_J_nlz_78
          · skip
            have hI : pn_ln ((v / 2 ^ 16) / 2 ^ 2) + 18 = pn_ln v := by have e := pn_ln_shift (v := v / 2 ^ 16) (k := 2) (by omega); omega
            refine lv_iinc (v := nI 13) (lv' := [(1, .int (nI 13)), (0, .int (nI (v / 2 ^ 16)))]) hx hb d_J_nlz_66 hl (k := 1) rfl (by decide) (by decide) rfl (fun ls hl => ?_)
            refine lv_iload_n hx hb d_J_nlz_69 rfl (lv_at hl 1 rfl) ?_
            refine lv_iconst (v := 2) hx hb d_J_nlz_70 (by decide) ?_
            refine lv_iushr (v := nI ((v / 2 ^ 16) / 2 ^ 2)) hx hb d_J_nlz_71 (pk_ushrN (by omega) 2 2 (by decide)) ?_
            refine lv_istore_n (lv' := [(0, .int (nI ((v / 2 ^ 16) / 2 ^ 2))), (1, .int (nI 13))]) hx hb d_J_nlz_72 rfl hl (by decide) rfl (fun ls hl => ?_)
            refine lv_iload_n hx hb d_J_nlz_73 rfl (lv_at hl 1 rfl) ?_
            refine lv_iload_n hx hb d_J_nlz_74 rfl (lv_at hl 0 rfl) ?_
            refine lv_iconst (v := 1) hx hb d_J_nlz_75 (by decide) ?_
            refine lv_iushr (v := nI (((v / 2 ^ 16) / 2 ^ 2) / 2 ^ 1)) hx hb d_J_nlz_76 (pk_ushrN (by omega) 1 1 (by decide)) ?_
            have e4 := pn_ln_4 (v := (v / 2 ^ 16) / 2 ^ 2) (by omega) (by omega)
            have e5 := pn_len_u (nI v)
            have hz : nI (13 - ((v / 2 ^ 16) / 2 ^ 2) / 2 ^ 1) = nI (32 - pn_len (pn_u (nI v))) := by have e6 : pn_len (pn_u (nI v)) = pn_ln v := (by rw [pn_u_nI hv]; rfl); rw [e6]; congr 1; omega
            refine pw_isub hx hb d_J_nlz_77 (by omega) ?_
            exact pn_reti (()) Fx hr hlocks hQ hAe hP hD hS (hz) d_J_nlz_78
        · skip
          have hI : pn_ln ((v / 2 ^ 16) / 2 ^ 4) + 20 = pn_ln v := by have e := pn_ln_shift (v := v / 2 ^ 16) (k := 4) (by omega); omega
          refine lv_iinc (v := nI 11) (lv' := [(1, .int (nI 11)), (0, .int (nI (v / 2 ^ 16)))]) hx hb d_J_nlz_54 hl (k := 1) rfl (by decide) (by decide) rfl (fun ls hl => ?_)
          refine lv_iload_n hx hb d_J_nlz_57 rfl (lv_at hl 1 rfl) ?_
          refine lv_iconst (v := 4) hx hb d_J_nlz_58 (by decide) ?_
          refine lv_iushr (v := nI ((v / 2 ^ 16) / 2 ^ 4)) hx hb d_J_nlz_59 (pk_ushrN (by omega) 4 4 (by decide)) ?_
          refine lv_istore_n (lv' := [(0, .int (nI ((v / 2 ^ 16) / 2 ^ 4))), (1, .int (nI 11))]) hx hb d_J_nlz_60 rfl hl (by decide) rfl (fun ls hl => ?_)
          refine lv_iload_n hx hb d_J_nlz_61 rfl (lv_at hl 0 rfl) ?_
          refine lv_iconst (v := nI 4) hx hb d_J_nlz_62 (by decide) ?_
          refine pw_icmp_lt (a := (v / 2 ^ 16) / 2 ^ 4) (b := 4) (tgt := 73) hx hb d_J_nlz_63 (by decide) (by omega) (by omega) (fun h_63 => ?_) (fun h_63 => ?_)
          · skip
            refine lv_iload_n hx hb d_J_nlz_73 rfl (lv_at hl 1 rfl) ?_
            refine lv_iload_n hx hb d_J_nlz_74 rfl (lv_at hl 0 rfl) ?_
            refine lv_iconst (v := 1) hx hb d_J_nlz_75 (by decide) ?_
            refine lv_iushr (v := nI (((v / 2 ^ 16) / 2 ^ 4) / 2 ^ 1)) hx hb d_J_nlz_76 (pk_ushrN (by omega) 1 1 (by decide)) ?_
            have e4 := pn_ln_4 (v := (v / 2 ^ 16) / 2 ^ 4) (by omega) (by omega)
            have e5 := pn_len_u (nI v)
            have hz : nI (11 - ((v / 2 ^ 16) / 2 ^ 4) / 2 ^ 1) = nI (32 - pn_len (pn_u (nI v))) := by have e6 : pn_len (pn_u (nI v)) = pn_ln v := (by rw [pn_u_nI hv]; rfl); rw [e6]; congr 1; omega
            refine pw_isub hx hb d_J_nlz_77 (by omega) ?_
            exact pn_reti (()) Fx hr hlocks hQ hAe hP hD hS (hz) d_J_nlz_78
          · skip
            have hI : pn_ln (((v / 2 ^ 16) / 2 ^ 4) / 2 ^ 2) + 22 = pn_ln v := by have e := pn_ln_shift (v := (v / 2 ^ 16) / 2 ^ 4) (k := 2) (by omega); omega
            refine lv_iinc (v := nI 9) (lv' := [(1, .int (nI 9)), (0, .int (nI ((v / 2 ^ 16) / 2 ^ 4)))]) hx hb d_J_nlz_66 hl (k := 1) rfl (by decide) (by decide) rfl (fun ls hl => ?_)
            refine lv_iload_n hx hb d_J_nlz_69 rfl (lv_at hl 1 rfl) ?_
            refine lv_iconst (v := 2) hx hb d_J_nlz_70 (by decide) ?_
            refine lv_iushr (v := nI (((v / 2 ^ 16) / 2 ^ 4) / 2 ^ 2)) hx hb d_J_nlz_71 (pk_ushrN (by omega) 2 2 (by decide)) ?_
            refine lv_istore_n (lv' := [(0, .int (nI (((v / 2 ^ 16) / 2 ^ 4) / 2 ^ 2))), (1, .int (nI 9))]) hx hb d_J_nlz_72 rfl hl (by decide) rfl (fun ls hl => ?_)
            refine lv_iload_n hx hb d_J_nlz_73 rfl (lv_at hl 1 rfl) ?_
            refine lv_iload_n hx hb d_J_nlz_74 rfl (lv_at hl 0 rfl) ?_
            refine lv_iconst (v := 1) hx hb d_J_nlz_75 (by decide) ?_
            refine lv_iushr (v := nI ((((v / 2 ^ 16) / 2 ^ 4) / 2 ^ 2) / 2 ^ 1)) hx hb d_J_nlz_76 (pk_ushrN (by omega) 1 1 (by decide)) ?_
            have e4 := pn_ln_4 (v := ((v / 2 ^ 16) / 2 ^ 4) / 2 ^ 2) (by omega) (by omega)
            have e5 := pn_len_u (nI v)
            have hz : nI (9 - (((v / 2 ^ 16) / 2 ^ 4) / 2 ^ 2) / 2 ^ 1) = nI (32 - pn_len (pn_u (nI v))) := by have e6 : pn_len (pn_u (nI v)) = pn_ln v := (by rw [pn_u_nI hv]; rfl); rw [e6]; congr 1; omega
            refine pw_isub hx hb d_J_nlz_77 (by omega) ?_
            exact pn_reti (()) Fx hr hlocks hQ hAe hP hD hS (hz) d_J_nlz_78
      · skip
        have hI : pn_ln ((v / 2 ^ 16) / 2 ^ 8) + 24 = pn_ln v := by have e := pn_ln_shift (v := v / 2 ^ 16) (k := 8) (by omega); omega
        refine lv_iinc (v := nI 7) (lv' := [(1, .int (nI 7)), (0, .int (nI (v / 2 ^ 16)))]) hx hb d_J_nlz_40 hl (k := 1) rfl (by decide) (by decide) rfl (fun ls hl => ?_)
        refine lv_iload_n hx hb d_J_nlz_43 rfl (lv_at hl 1 rfl) ?_
        refine lv_bipush (v := 8) hx hb d_J_nlz_44 (by decide) ?_
        refine lv_iushr (v := nI ((v / 2 ^ 16) / 2 ^ 8)) hx hb d_J_nlz_46 (pk_ushrN (by omega) 8 8 (by decide)) ?_
        refine lv_istore_n (lv' := [(0, .int (nI ((v / 2 ^ 16) / 2 ^ 8))), (1, .int (nI 7))]) hx hb d_J_nlz_47 rfl hl (by decide) rfl (fun ls hl => ?_)
        refine lv_iload_n hx hb d_J_nlz_48 rfl (lv_at hl 0 rfl) ?_
        refine lv_bipush (v := nI 16) hx hb d_J_nlz_49 (by decide) ?_
        refine pw_icmp_lt (a := (v / 2 ^ 16) / 2 ^ 8) (b := 16) (tgt := 61) hx hb d_J_nlz_51 (by decide) (by omega) (by omega) (fun h_51 => ?_) (fun h_51 => ?_)
        · skip
          refine lv_iload_n hx hb d_J_nlz_61 rfl (lv_at hl 0 rfl) ?_
          refine lv_iconst (v := nI 4) hx hb d_J_nlz_62 (by decide) ?_
          refine pw_icmp_lt (a := (v / 2 ^ 16) / 2 ^ 8) (b := 4) (tgt := 73) hx hb d_J_nlz_63 (by decide) (by omega) (by omega) (fun h_63 => ?_) (fun h_63 => ?_)
          · skip
            refine lv_iload_n hx hb d_J_nlz_73 rfl (lv_at hl 1 rfl) ?_
            refine lv_iload_n hx hb d_J_nlz_74 rfl (lv_at hl 0 rfl) ?_
            refine lv_iconst (v := 1) hx hb d_J_nlz_75 (by decide) ?_
            refine lv_iushr (v := nI (((v / 2 ^ 16) / 2 ^ 8) / 2 ^ 1)) hx hb d_J_nlz_76 (pk_ushrN (by omega) 1 1 (by decide)) ?_
            have e4 := pn_ln_4 (v := (v / 2 ^ 16) / 2 ^ 8) (by omega) (by omega)
            have e5 := pn_len_u (nI v)
            have hz : nI (7 - ((v / 2 ^ 16) / 2 ^ 8) / 2 ^ 1) = nI (32 - pn_len (pn_u (nI v))) := by have e6 : pn_len (pn_u (nI v)) = pn_ln v := (by rw [pn_u_nI hv]; rfl); rw [e6]; congr 1; omega
            refine pw_isub hx hb d_J_nlz_77 (by omega) ?_
            exact pn_reti (()) Fx hr hlocks hQ hAe hP hD hS (hz) d_J_nlz_78
          · skip
            have hI : pn_ln (((v / 2 ^ 16) / 2 ^ 8) / 2 ^ 2) + 26 = pn_ln v := by have e := pn_ln_shift (v := (v / 2 ^ 16) / 2 ^ 8) (k := 2) (by omega); omega
            refine lv_iinc (v := nI 5) (lv' := [(1, .int (nI 5)), (0, .int (nI ((v / 2 ^ 16) / 2 ^ 8)))]) hx hb d_J_nlz_66 hl (k := 1) rfl (by decide) (by decide) rfl (fun ls hl => ?_)
            refine lv_iload_n hx hb d_J_nlz_69 rfl (lv_at hl 1 rfl) ?_
            refine lv_iconst (v := 2) hx hb d_J_nlz_70 (by decide) ?_
            refine lv_iushr (v := nI (((v / 2 ^ 16) / 2 ^ 8) / 2 ^ 2)) hx hb d_J_nlz_71 (pk_ushrN (by omega) 2 2 (by decide)) ?_
            refine lv_istore_n (lv' := [(0, .int (nI (((v / 2 ^ 16) / 2 ^ 8) / 2 ^ 2))), (1, .int (nI 5))]) hx hb d_J_nlz_72 rfl hl (by decide) rfl (fun ls hl => ?_)
            refine lv_iload_n hx hb d_J_nlz_73 rfl (lv_at hl 1 rfl) ?_
            refine lv_iload_n hx hb d_J_nlz_74 rfl (lv_at hl 0 rfl) ?_
            refine lv_iconst (v := 1) hx hb d_J_nlz_75 (by decide) ?_
            refine lv_iushr (v := nI ((((v / 2 ^ 16) / 2 ^ 8) / 2 ^ 2) / 2 ^ 1)) hx hb d_J_nlz_76 (pk_ushrN (by omega) 1 1 (by decide)) ?_
            have e4 := pn_ln_4 (v := ((v / 2 ^ 16) / 2 ^ 8) / 2 ^ 2) (by omega) (by omega)
            have e5 := pn_len_u (nI v)
            have hz : nI (5 - (((v / 2 ^ 16) / 2 ^ 8) / 2 ^ 2) / 2 ^ 1) = nI (32 - pn_len (pn_u (nI v))) := by have e6 : pn_len (pn_u (nI v)) = pn_ln v := (by rw [pn_u_nI hv]; rfl); rw [e6]; congr 1; omega
            refine pw_isub hx hb d_J_nlz_77 (by omega) ?_
            exact pn_reti (()) Fx hr hlocks hQ hAe hP hD hS (hz) d_J_nlz_78
        · skip
          have hI : pn_ln (((v / 2 ^ 16) / 2 ^ 8) / 2 ^ 4) + 28 = pn_ln v := by have e := pn_ln_shift (v := (v / 2 ^ 16) / 2 ^ 8) (k := 4) (by omega); omega
          refine lv_iinc (v := nI 3) (lv' := [(1, .int (nI 3)), (0, .int (nI ((v / 2 ^ 16) / 2 ^ 8)))]) hx hb d_J_nlz_54 hl (k := 1) rfl (by decide) (by decide) rfl (fun ls hl => ?_)
          refine lv_iload_n hx hb d_J_nlz_57 rfl (lv_at hl 1 rfl) ?_
          refine lv_iconst (v := 4) hx hb d_J_nlz_58 (by decide) ?_
          refine lv_iushr (v := nI (((v / 2 ^ 16) / 2 ^ 8) / 2 ^ 4)) hx hb d_J_nlz_59 (pk_ushrN (by omega) 4 4 (by decide)) ?_
          refine lv_istore_n (lv' := [(0, .int (nI (((v / 2 ^ 16) / 2 ^ 8) / 2 ^ 4))), (1, .int (nI 3))]) hx hb d_J_nlz_60 rfl hl (by decide) rfl (fun ls hl => ?_)
          refine lv_iload_n hx hb d_J_nlz_61 rfl (lv_at hl 0 rfl) ?_
          refine lv_iconst (v := nI 4) hx hb d_J_nlz_62 (by decide) ?_
          refine pw_icmp_lt (a := ((v / 2 ^ 16) / 2 ^ 8) / 2 ^ 4) (b := 4) (tgt := 73) hx hb d_J_nlz_63 (by decide) (by omega) (by omega) (fun h_63 => ?_) (fun h_63 => ?_)
          · skip
            refine lv_iload_n hx hb d_J_nlz_73 rfl (lv_at hl 1 rfl) ?_
            refine lv_iload_n hx hb d_J_nlz_74 rfl (lv_at hl 0 rfl) ?_
            refine lv_iconst (v := 1) hx hb d_J_nlz_75 (by decide) ?_
            refine lv_iushr (v := nI ((((v / 2 ^ 16) / 2 ^ 8) / 2 ^ 4) / 2 ^ 1)) hx hb d_J_nlz_76 (pk_ushrN (by omega) 1 1 (by decide)) ?_
            have e4 := pn_ln_4 (v := ((v / 2 ^ 16) / 2 ^ 8) / 2 ^ 4) (by omega) (by omega)
            have e5 := pn_len_u (nI v)
            have hz : nI (3 - (((v / 2 ^ 16) / 2 ^ 8) / 2 ^ 4) / 2 ^ 1) = nI (32 - pn_len (pn_u (nI v))) := by have e6 : pn_len (pn_u (nI v)) = pn_ln v := (by rw [pn_u_nI hv]; rfl); rw [e6]; congr 1; omega
            refine pw_isub hx hb d_J_nlz_77 (by omega) ?_
            exact pn_reti (()) Fx hr hlocks hQ hAe hP hD hS (hz) d_J_nlz_78
          · skip
            have hI : pn_ln ((((v / 2 ^ 16) / 2 ^ 8) / 2 ^ 4) / 2 ^ 2) + 30 = pn_ln v := by have e := pn_ln_shift (v := ((v / 2 ^ 16) / 2 ^ 8) / 2 ^ 4) (k := 2) (by omega); omega
            refine lv_iinc (v := nI 1) (lv' := [(1, .int (nI 1)), (0, .int (nI (((v / 2 ^ 16) / 2 ^ 8) / 2 ^ 4)))]) hx hb d_J_nlz_66 hl (k := 1) rfl (by decide) (by decide) rfl (fun ls hl => ?_)
            refine lv_iload_n hx hb d_J_nlz_69 rfl (lv_at hl 1 rfl) ?_
            refine lv_iconst (v := 2) hx hb d_J_nlz_70 (by decide) ?_
            refine lv_iushr (v := nI ((((v / 2 ^ 16) / 2 ^ 8) / 2 ^ 4) / 2 ^ 2)) hx hb d_J_nlz_71 (pk_ushrN (by omega) 2 2 (by decide)) ?_
            refine lv_istore_n (lv' := [(0, .int (nI ((((v / 2 ^ 16) / 2 ^ 8) / 2 ^ 4) / 2 ^ 2))), (1, .int (nI 1))]) hx hb d_J_nlz_72 rfl hl (by decide) rfl (fun ls hl => ?_)
            refine lv_iload_n hx hb d_J_nlz_73 rfl (lv_at hl 1 rfl) ?_
            refine lv_iload_n hx hb d_J_nlz_74 rfl (lv_at hl 0 rfl) ?_
            refine lv_iconst (v := 1) hx hb d_J_nlz_75 (by decide) ?_
            refine lv_iushr (v := nI (((((v / 2 ^ 16) / 2 ^ 8) / 2 ^ 4) / 2 ^ 2) / 2 ^ 1)) hx hb d_J_nlz_76 (pk_ushrN (by omega) 1 1 (by decide)) ?_
            have e4 := pn_ln_4 (v := (((v / 2 ^ 16) / 2 ^ 8) / 2 ^ 4) / 2 ^ 2) (by omega) (by omega)
            have e5 := pn_len_u (nI v)
            have hz : nI (1 - ((((v / 2 ^ 16) / 2 ^ 8) / 2 ^ 4) / 2 ^ 2) / 2 ^ 1) = nI (32 - pn_len (pn_u (nI v))) := by have e6 : pn_len (pn_u (nI v)) = pn_ln v := (by rw [pn_u_nI hv]; rfl); rw [e6]; congr 1; omega
            refine pw_isub hx hb d_J_nlz_77 (by omega) ?_
            exact pn_reti (()) Fx hr hlocks hQ hAe hP hD hS (hz) d_J_nlz_78
  · skip
    refine lv_iload_n hx hb d_J_nlz_4 rfl (lv_at hl 0 rfl) ?_
    refine lv_if_ne (tgt := 13) hx hb d_J_nlz_5 (by decide) (fun h_5 => ?_) (fun h_5 => ?_)
    · skip
      have hz : nI 0 = nI (32 - pn_len (pn_u x)) := by have e : 31 < pn_len (pn_u x) := (pn_len_lt (pn_u_nonneg x) 31).mpr (pn_u_neg (by rw [Int32.lt_iff_toInt_lt] at *; have e : (0 : Int32).toInt = 0 := rfl; have e2 : x.toInt ≠ 0 := fun z => h_5 (Int32.toInt_inj.mp z); omega)); have e2 := pn_len_u x; rw [show 32 - pn_len (pn_u x) = 0 by omega]
      refine lv_iconst (v := nI 0) hx hb d_J_nlz_13 (by decide) ?_
      exact pn_reti (()) Fx hr hlocks hQ hAe hP hD hS (hz) d_J_nlz_14
    · skip
      have hz : nI 32 = nI (32 - pn_len (pn_u x)) := by rw [h_5]; decide
      refine lv_bipush (v := nI 32) hx hb d_J_nlz_8 (by decide) ?_
      refine lv_goto (tgt := 14) hx hb d_J_nlz_10 (by decide) ?_
      exact pn_reti (()) Fx hr hlocks hQ hAe hP hD hS (hz) d_J_nlz_14
