/-! ===== the reference's methods, beside the class's ===== -/
abbrev PMX (E : xE) (M : xM) (av : List Value) (h : xHp) (w : Nat) (D : xMd) (x : Int32) (O' : xO) : Prop := PMet E M av (MH E h w D) (fun v h' => v = some (.int x) ∧ ∃ D', Rel O' D' ∧ h' = MH E h w D')
theorem bit1 (x a : Nat) : x / 2 ^ a &&& 1 = (x.testBit a).toNat := by
  rw [bit_and1, tb_div]
  by_cases h : x / 2 ^ a % 2 = 1
  · rw [h]; rfl
  · rw [decide_eq_false h]
    show _ = 0
    omega
theorem lcg {d : Nat} (hd : d < 2 ^ 31) : ((nI d).toInt64 * 1103515245 + 12345 - ((nI d).toInt64 * 1103515245 + 12345) / 2147483648 * 2147483648).toInt32 = nI ((d * 1103515245 + 12345) % 2147483648) := by
  have e1 : (nI d).toInt64 * 1103515245 + 12345 = lN (d * 1103515245 + 12345) := by
    rw [nI_l hd]
    exact (congrArg (· + lN 12345) (lN_mul d 1103515245)).trans (lN_add _ _)
  have e2 : (2147483648 : Int64) = lN 2147483648 := rfl
  rw [e1, e2, pk_lRem (by omega) (by decide) (by decide), lN_i]
set_option maxHeartbeats 4000000 in
set_option maxRecDepth 100000 in
theorem c_X6_apprentice_n {E : xE} {h : xHp} {w : Nat} {D : xMd} {O : xO} (hR : Rel O D) (k s c : Int32) (hx : ¬ ((nI 0 ≤ k ∧ k ≤ nI 4) ∧ (nI 0 ≤ s ∧ s ≤ nI 3) ∧ (nI 0 ≤ c ∧ c ≤ nI 9))) : PMX E mX6_apprentice [.ref w, .int k, .int s, .int c] h w D (-1) O := by
  have R := hR.1.1
  have hOK := hR.1.2.1.1
  have hm6 := hOK.1.1
  have hm4 := hOK.1.2.1
  have hN9 := hR.1.2.1.2
  refine pm_of [some (.ref w), some (.int k), some (.int s), some (.int c)] (by decide +kernel) (Nat.le_of_ble_eq_true rfl) rfl ?_
  refine px_iload_n dX6_apprentice_0 rfl ?_
  refine px_iconst (v := nI 0) dX6_apprentice_1 (by decide) ?_
  refine px_iconst (v := nI 4) dX6_apprentice_2 (by decide) ?_
  refine px_si (c_X6_in (k) (nI 0) (nI 4)) mw_X6_in wt_X6_in (Or.inl ml_X6_38) dX6_apprentice_3 (by decide) rfl rfl (Nat.le_of_ble_eq_true rfl) ⟨rfl, rfl⟩ ?_
  refine px_if_eqB 28 dX6_apprentice_6 (by decide) (fun c6 => ?_) (fun c6 => ?_)
  · refine px_iconst (v := -1) dX6_apprentice_28 (by decide) ?_
    exact px_iret dX6_apprentice_29 rfl rfl rfl ⟨rfl, D, hR, rfl⟩
  · refine px_iload_n dX6_apprentice_9 rfl ?_
    refine px_iconst (v := nI 0) dX6_apprentice_10 (by decide) ?_
    refine px_iconst (v := nI 3) dX6_apprentice_11 (by decide) ?_
    refine px_si (c_X6_in (s) (nI 0) (nI 3)) mw_X6_in wt_X6_in (Or.inl ml_X6_38) dX6_apprentice_12 (by decide) rfl rfl (Nat.le_of_ble_eq_true rfl) ⟨rfl, rfl⟩ ?_
    refine px_if_eqB 28 dX6_apprentice_15 (by decide) (fun c15 => ?_) (fun c15 => ?_)
    · refine px_iconst (v := -1) dX6_apprentice_28 (by decide) ?_
      exact px_iret dX6_apprentice_29 rfl rfl rfl ⟨rfl, D, hR, rfl⟩
    · refine px_iload_n dX6_apprentice_18 rfl ?_
      refine px_iconst (v := nI 0) dX6_apprentice_19 (by decide) ?_
      refine px_bipush (v := nI 9) dX6_apprentice_20 (by decide) ?_
      refine px_si (c_X6_in (c) (nI 0) (nI 9)) mw_X6_in wt_X6_in (Or.inl ml_X6_38) dX6_apprentice_22 (by decide) rfl rfl (Nat.le_of_ble_eq_true rfl) ⟨rfl, rfl⟩ ?_
      refine px_if_neB 30 dX6_apprentice_25 (by decide) (fun c25 => ?_) (fun c25 => ?_)
      · exact absurd ⟨of_decide_eq_true c6, of_decide_eq_true c15, of_decide_eq_true c25⟩ hx
      · refine px_iconst (v := -1) dX6_apprentice_28 (by decide) ?_
        exact px_iret dX6_apprentice_29 rfl rfl rfl ⟨rfl, D, hR, rfl⟩
set_option maxHeartbeats 4000000 in
set_option maxRecDepth 100000 in
theorem c_X6_apprentice_f {E : xE} {h : xHp} {w : Nat} {D : xMd} {O : xO} (hR : Rel O D) (k s c : Nat) (hk : k ≤ 4) (hs : s ≤ 3) (hc : c ≤ 9) (ha : 6 ≤ (O.1.1 0).2 0) : PMX E mX6_apprentice [.ref w, .int (nI k), .int (nI s), .int (nI c)] h w D (-3) O := by
  have R := hR.1.1
  have hOK := hR.1.2.1.1
  have hm6 := hOK.1.1
  have hm4 := hOK.1.2.1
  have hN9 := hR.1.2.1.2
  refine pm_of [some (.ref w), some (.int (nI k)), some (.int (nI s)), some (.int (nI c))] (by decide +kernel) (Nat.le_of_ble_eq_true rfl) rfl ?_
  refine px_iload_n dX6_apprentice_0 rfl ?_
  refine px_iconst (v := nI 0) dX6_apprentice_1 (by decide) ?_
  refine px_iconst (v := nI 4) dX6_apprentice_2 (by decide) ?_
  refine px_si (c_X6_in (nI k) (nI 0) (nI 4)) mw_X6_in wt_X6_in (Or.inl ml_X6_38) dX6_apprentice_3 (by decide) rfl rfl (Nat.le_of_ble_eq_true rfl) ⟨rfl, rfl⟩ ?_
  refine px_if_eqB 28 dX6_apprentice_6 (by decide) (fun c6 => ?_) (fun c6 => ?_)
  · rw [in_t (by omega) (by omega) (by decide)] at c6
    cases c6
  · refine px_iload_n dX6_apprentice_9 rfl ?_
    refine px_iconst (v := nI 0) dX6_apprentice_10 (by decide) ?_
    refine px_iconst (v := nI 3) dX6_apprentice_11 (by decide) ?_
    refine px_si (c_X6_in (nI s) (nI 0) (nI 3)) mw_X6_in wt_X6_in (Or.inl ml_X6_38) dX6_apprentice_12 (by decide) rfl rfl (Nat.le_of_ble_eq_true rfl) ⟨rfl, rfl⟩ ?_
    refine px_if_eqB 28 dX6_apprentice_15 (by decide) (fun c15 => ?_) (fun c15 => ?_)
    · rw [in_t (by omega) (by omega) (by decide)] at c15
      cases c15
    · refine px_iload_n dX6_apprentice_18 rfl ?_
      refine px_iconst (v := nI 0) dX6_apprentice_19 (by decide) ?_
      refine px_bipush (v := nI 9) dX6_apprentice_20 (by decide) ?_
      refine px_si (c_X6_in (nI c) (nI 0) (nI 9)) mw_X6_in wt_X6_in (Or.inl ml_X6_38) dX6_apprentice_22 (by decide) rfl rfl (Nat.le_of_ble_eq_true rfl) ⟨rfl, rfl⟩ ?_
      refine px_if_neB 30 dX6_apprentice_25 (by decide) (fun c25 => ?_) (fun c25 => ?_)
      · refine px_aload_n dX6_apprentice_30 rfl ?_
        refine px_get xk_X6 7 dX6_apprentice_31 (Or.inl fl_X6_23) MH_obj (by decide) rfl ?_
        refine px_bipush (v := nI 23) dX6_apprentice_34 (by decide) ?_
        refine px_bL (b := 0) rfl dX6_apprentice_36 (by decide) (by omega) (R.mn) ?_
        refine px_bipush (v := nI 6) dX6_apprentice_37 (by decide) ?_
        refine px_icmp_neN 45 dX6_apprentice_39 (by decide) (by first | omega | exact hOK.lt (by decide) | exact hOK.lts (by decide)) (by first | omega | exact hOK.lt (by decide) | exact hOK.lts (by decide)) (fun c39 => ?_) (fun c39 => ?_)
        · omega
        · refine px_bipush (v := -3) dX6_apprentice_42 (by decide) ?_
          exact px_iret dX6_apprentice_44 rfl rfl rfl ⟨rfl, D, hR, rfl⟩
      · rw [in_t (by omega) (by omega) (by decide)] at c25
        cases c25
set_option maxHeartbeats 4000000 in
set_option maxRecDepth 100000 in
theorem c_X6_apprentice {E : xE} {h : xHp} {w : Nat} {D : xMd} {O : xO} (hR : Rel O D) (k s c : Nat) (hk : k ≤ 4) (hs : s ≤ 3) (hc : c ≤ 9) (ha : (O.1.1 0).2 0 < 6) : PMX E mX6_apprentice [.ref w, .int (nI k), .int (nI s), .int (nI c)] h w D (nI ((O.1.1 0).2 0)) (oT (oP O 0 ((O.1.2 0).1, (O.1.2 0).2.1, 0)) 0 (taddA (O.1.1 0) k s c)) := by
  have R := hR.1.1
  have hOK := hR.1.2.1.1
  have hm6 := hOK.1.1
  have hm4 := hOK.1.2.1
  have hN9 := hR.1.2.1.2
  refine pm_of [some (.ref w), some (.int (nI k)), some (.int (nI s)), some (.int (nI c))] (by decide +kernel) (Nat.le_of_ble_eq_true rfl) rfl ?_
  refine px_iload_n dX6_apprentice_0 rfl ?_
  refine px_iconst (v := nI 0) dX6_apprentice_1 (by decide) ?_
  refine px_iconst (v := nI 4) dX6_apprentice_2 (by decide) ?_
  refine px_si (c_X6_in (nI k) (nI 0) (nI 4)) mw_X6_in wt_X6_in (Or.inl ml_X6_38) dX6_apprentice_3 (by decide) rfl rfl (Nat.le_of_ble_eq_true rfl) ⟨rfl, rfl⟩ ?_
  refine px_if_eqB 28 dX6_apprentice_6 (by decide) (fun c6 => ?_) (fun c6 => ?_)
  · rw [in_t (by omega) (by omega) (by decide)] at c6
    cases c6
  · refine px_iload_n dX6_apprentice_9 rfl ?_
    refine px_iconst (v := nI 0) dX6_apprentice_10 (by decide) ?_
    refine px_iconst (v := nI 3) dX6_apprentice_11 (by decide) ?_
    refine px_si (c_X6_in (nI s) (nI 0) (nI 3)) mw_X6_in wt_X6_in (Or.inl ml_X6_38) dX6_apprentice_12 (by decide) rfl rfl (Nat.le_of_ble_eq_true rfl) ⟨rfl, rfl⟩ ?_
    refine px_if_eqB 28 dX6_apprentice_15 (by decide) (fun c15 => ?_) (fun c15 => ?_)
    · rw [in_t (by omega) (by omega) (by decide)] at c15
      cases c15
    · refine px_iload_n dX6_apprentice_18 rfl ?_
      refine px_iconst (v := nI 0) dX6_apprentice_19 (by decide) ?_
      refine px_bipush (v := nI 9) dX6_apprentice_20 (by decide) ?_
      refine px_si (c_X6_in (nI c) (nI 0) (nI 9)) mw_X6_in wt_X6_in (Or.inl ml_X6_38) dX6_apprentice_22 (by decide) rfl rfl (Nat.le_of_ble_eq_true rfl) ⟨rfl, rfl⟩ ?_
      refine px_if_neB 30 dX6_apprentice_25 (by decide) (fun c25 => ?_) (fun c25 => ?_)
      · refine px_aload_n dX6_apprentice_30 rfl ?_
        refine px_get xk_X6 7 dX6_apprentice_31 (Or.inl fl_X6_23) MH_obj (by decide) rfl ?_
        refine px_bipush (v := nI 23) dX6_apprentice_34 (by decide) ?_
        refine px_bL (b := 0) rfl dX6_apprentice_36 (by decide) (by omega) (R.mn) ?_
        refine px_bipush (v := nI 6) dX6_apprentice_37 (by decide) ?_
        refine px_icmp_neN 45 dX6_apprentice_39 (by decide) (by first | omega | exact hOK.lt (by decide) | exact hOK.lts (by decide)) (by first | omega | exact hOK.lt (by decide) | exact hOK.lts (by decide)) (fun c39 => ?_) (fun c39 => ?_)
        · refine px_aload_n dX6_apprentice_45 rfl ?_
          refine px_get xk_X6 7 dX6_apprentice_46 (Or.inl fl_X6_23) MH_obj (by decide) rfl ?_
          refine px_bipush (v := nI 39) dX6_apprentice_49 (by decide) ?_
          refine px_iconst (v := nI 0) dX6_apprentice_51 (by decide) ?_
          refine px_bW (b := 0) dX6_apprentice_52 (by decide) (by decide) ?_
          refine px_aload_n dX6_apprentice_53 rfl ?_
          refine px_get xk_X6 7 dX6_apprentice_54 (Or.inl fl_X6_23) MH_obj (by decide) rfl ?_
          refine px_iload_n dX6_apprentice_57 rfl ?_
          refine px_iload_n dX6_apprentice_58 rfl ?_
          refine px_iload_n dX6_apprentice_59 rfl ?_
          refine px_si (c_X6_addOne (k := 0) (by decide) (R.cong hm6 hm4 (fun i hi => va_up_ne _ _ (by omega))) hOK ha k s c) mw_X6_addOne wt_X6_addOne (Or.inl ml_X6_42) dX6_apprentice_60 (by decide) rfl rfl (Nat.le_of_ble_eq_true rfl) ⟨rfl, rfl⟩ ?_
          exact px_iret dX6_apprentice_63 rfl rfl rfl ⟨rfl, _, hR.setN (pr := mPr D) (RN.none ((R.cong hm6 hm4 (fun i hi => va_up_ne _ _ (by omega))).addA ha hm4) (taddA_ok hOK ha hk hs hc) hN9 (by rw [va_up_ne _ _ (by omega), va_up_ne _ _ (by omega), va_up_ne _ _ (by omega), va_up_ne _ _ (by omega), va_up_ne _ _ (by omega), va_up_ne _ _ (by omega), va_up_self]) hR.1.2.2.2.2.1), rfl⟩
        · omega
      · rw [in_t (by omega) (by omega) (by decide)] at c25
        cases c25
set_option maxHeartbeats 4000000 in
set_option maxRecDepth 100000 in
theorem c_X6_thief_n {E : xE} {h : xHp} {w : Nat} {D : xMd} {O : xO} (hR : Rel O D) (k c : Int32) (hx : ¬ ((nI 0 ≤ k ∧ k ≤ nI 9) ∧ (nI 0 ≤ c ∧ c ≤ nI 4))) : PMX E mX6_thief [.ref w, .int k, .int c] h w D (-1) O := by
  have R := hR.1.1
  have hOK := hR.1.2.1.1
  have hm6 := hOK.1.1
  have hm4 := hOK.1.2.1
  have hN9 := hR.1.2.1.2
  refine pm_of [some (.ref w), some (.int k), some (.int c)] (by decide +kernel) (Nat.le_of_ble_eq_true rfl) rfl ?_
  refine px_iload_n dX6_thief_0 rfl ?_
  refine px_iconst (v := nI 0) dX6_thief_1 (by decide) ?_
  refine px_bipush (v := nI 9) dX6_thief_2 (by decide) ?_
  refine px_si (c_X6_in (k) (nI 0) (nI 9)) mw_X6_in wt_X6_in (Or.inl ml_X6_38) dX6_thief_4 (by decide) rfl rfl (Nat.le_of_ble_eq_true rfl) ⟨rfl, rfl⟩ ?_
  refine px_if_eqB 19 dX6_thief_7 (by decide) (fun c7 => ?_) (fun c7 => ?_)
  · refine px_iconst (v := -1) dX6_thief_19 (by decide) ?_
    exact px_iret dX6_thief_20 rfl rfl rfl ⟨rfl, D, hR, rfl⟩
  · refine px_iload_n dX6_thief_10 rfl ?_
    refine px_iconst (v := nI 0) dX6_thief_11 (by decide) ?_
    refine px_iconst (v := nI 4) dX6_thief_12 (by decide) ?_
    refine px_si (c_X6_in (c) (nI 0) (nI 4)) mw_X6_in wt_X6_in (Or.inl ml_X6_38) dX6_thief_13 (by decide) rfl rfl (Nat.le_of_ble_eq_true rfl) ⟨rfl, rfl⟩ ?_
    refine px_if_neB 21 dX6_thief_16 (by decide) (fun c16 => ?_) (fun c16 => ?_)
    · exact absurd ⟨of_decide_eq_true c7, of_decide_eq_true c16⟩ hx
    · refine px_iconst (v := -1) dX6_thief_19 (by decide) ?_
      exact px_iret dX6_thief_20 rfl rfl rfl ⟨rfl, D, hR, rfl⟩
set_option maxHeartbeats 4000000 in
set_option maxRecDepth 100000 in
theorem c_X6_thief_f {E : xE} {h : xHp} {w : Nat} {D : xMd} {O : xO} (hR : Rel O D) (k c : Nat) (hk : k ≤ 9) (hc : c ≤ 4) (ha : 4 ≤ (O.1.1 0).2 1) : PMX E mX6_thief [.ref w, .int (nI k), .int (nI c)] h w D (-3) O := by
  have R := hR.1.1
  have hOK := hR.1.2.1.1
  have hm6 := hOK.1.1
  have hm4 := hOK.1.2.1
  have hN9 := hR.1.2.1.2
  refine pm_of [some (.ref w), some (.int (nI k)), some (.int (nI c))] (by decide +kernel) (Nat.le_of_ble_eq_true rfl) rfl ?_
  refine px_iload_n dX6_thief_0 rfl ?_
  refine px_iconst (v := nI 0) dX6_thief_1 (by decide) ?_
  refine px_bipush (v := nI 9) dX6_thief_2 (by decide) ?_
  refine px_si (c_X6_in (nI k) (nI 0) (nI 9)) mw_X6_in wt_X6_in (Or.inl ml_X6_38) dX6_thief_4 (by decide) rfl rfl (Nat.le_of_ble_eq_true rfl) ⟨rfl, rfl⟩ ?_
  refine px_if_eqB 19 dX6_thief_7 (by decide) (fun c7 => ?_) (fun c7 => ?_)
  · rw [in_t (by omega) (by omega) (by decide)] at c7
    cases c7
  · refine px_iload_n dX6_thief_10 rfl ?_
    refine px_iconst (v := nI 0) dX6_thief_11 (by decide) ?_
    refine px_iconst (v := nI 4) dX6_thief_12 (by decide) ?_
    refine px_si (c_X6_in (nI c) (nI 0) (nI 4)) mw_X6_in wt_X6_in (Or.inl ml_X6_38) dX6_thief_13 (by decide) rfl rfl (Nat.le_of_ble_eq_true rfl) ⟨rfl, rfl⟩ ?_
    refine px_if_neB 21 dX6_thief_16 (by decide) (fun c16 => ?_) (fun c16 => ?_)
    · refine px_aload_n dX6_thief_21 rfl ?_
      refine px_get xk_X6 7 dX6_thief_22 (Or.inl fl_X6_23) MH_obj (by decide) rfl ?_
      refine px_bipush (v := nI 30) dX6_thief_25 (by decide) ?_
      refine px_bL (b := 0) rfl dX6_thief_27 (by decide) (by omega) (R.th) ?_
      refine px_iconst (v := nI 4) dX6_thief_28 (by decide) ?_
      refine px_icmp_neN 35 dX6_thief_29 (by decide) (by first | omega | exact hOK.lt (by decide) | exact hOK.lts (by decide)) (by first | omega | exact hOK.lt (by decide) | exact hOK.lts (by decide)) (fun c29 => ?_) (fun c29 => ?_)
      · omega
      · refine px_bipush (v := -3) dX6_thief_32 (by decide) ?_
        exact px_iret dX6_thief_34 rfl rfl rfl ⟨rfl, D, hR, rfl⟩
    · rw [in_t (by omega) (by omega) (by decide)] at c16
      cases c16
set_option maxHeartbeats 4000000 in
set_option maxRecDepth 100000 in
theorem c_X6_thief {E : xE} {h : xHp} {w : Nat} {D : xMd} {O : xO} (hR : Rel O D) (k c : Nat) (hk : k ≤ 9) (hc : c ≤ 4) (ha : (O.1.1 0).2 1 < 4) : PMX E mX6_thief [.ref w, .int (nI k), .int (nI c)] h w D (nI ((O.1.1 0).2 1)) (oT (oP O 0 ((O.1.2 0).1, (O.1.2 0).2.1, 0)) 0 (taddT (O.1.1 0) k c)) := by
  have R := hR.1.1
  have hOK := hR.1.2.1.1
  have hm6 := hOK.1.1
  have hm4 := hOK.1.2.1
  have hN9 := hR.1.2.1.2
  refine pm_of [some (.ref w), some (.int (nI k)), some (.int (nI c))] (by decide +kernel) (Nat.le_of_ble_eq_true rfl) rfl ?_
  refine px_iload_n dX6_thief_0 rfl ?_
  refine px_iconst (v := nI 0) dX6_thief_1 (by decide) ?_
  refine px_bipush (v := nI 9) dX6_thief_2 (by decide) ?_
  refine px_si (c_X6_in (nI k) (nI 0) (nI 9)) mw_X6_in wt_X6_in (Or.inl ml_X6_38) dX6_thief_4 (by decide) rfl rfl (Nat.le_of_ble_eq_true rfl) ⟨rfl, rfl⟩ ?_
  refine px_if_eqB 19 dX6_thief_7 (by decide) (fun c7 => ?_) (fun c7 => ?_)
  · rw [in_t (by omega) (by omega) (by decide)] at c7
    cases c7
  · refine px_iload_n dX6_thief_10 rfl ?_
    refine px_iconst (v := nI 0) dX6_thief_11 (by decide) ?_
    refine px_iconst (v := nI 4) dX6_thief_12 (by decide) ?_
    refine px_si (c_X6_in (nI c) (nI 0) (nI 4)) mw_X6_in wt_X6_in (Or.inl ml_X6_38) dX6_thief_13 (by decide) rfl rfl (Nat.le_of_ble_eq_true rfl) ⟨rfl, rfl⟩ ?_
    refine px_if_neB 21 dX6_thief_16 (by decide) (fun c16 => ?_) (fun c16 => ?_)
    · refine px_aload_n dX6_thief_21 rfl ?_
      refine px_get xk_X6 7 dX6_thief_22 (Or.inl fl_X6_23) MH_obj (by decide) rfl ?_
      refine px_bipush (v := nI 30) dX6_thief_25 (by decide) ?_
      refine px_bL (b := 0) rfl dX6_thief_27 (by decide) (by omega) (R.th) ?_
      refine px_iconst (v := nI 4) dX6_thief_28 (by decide) ?_
      refine px_icmp_neN 35 dX6_thief_29 (by decide) (by first | omega | exact hOK.lt (by decide) | exact hOK.lts (by decide)) (by first | omega | exact hOK.lt (by decide) | exact hOK.lts (by decide)) (fun c29 => ?_) (fun c29 => ?_)
      · refine px_aload_n dX6_thief_35 rfl ?_
        refine px_get xk_X6 7 dX6_thief_36 (Or.inl fl_X6_23) MH_obj (by decide) rfl ?_
        refine px_bipush (v := nI 39) dX6_thief_39 (by decide) ?_
        refine px_iconst (v := nI 0) dX6_thief_41 (by decide) ?_
        refine px_bW (b := 0) dX6_thief_42 (by decide) (by decide) ?_
        refine px_aload_n dX6_thief_43 rfl ?_
        refine px_get xk_X6 7 dX6_thief_44 (Or.inl fl_X6_23) MH_obj (by decide) rfl ?_
        refine px_iload_n dX6_thief_47 rfl ?_
        refine px_iload_n dX6_thief_48 rfl ?_
        refine px_si (c_X6_addThief (k := 0) (by decide) (R.cong hm6 hm4 (fun i hi => va_up_ne _ _ (by omega))) hOK ha k c) mw_X6_addThief wt_X6_addThief (Or.inl ml_X6_46) dX6_thief_49 (by decide) rfl rfl (Nat.le_of_ble_eq_true rfl) ⟨rfl, rfl⟩ ?_
        exact px_iret dX6_thief_52 rfl rfl rfl ⟨rfl, _, hR.setN (pr := mPr D) (RN.none ((R.cong hm6 hm4 (fun i hi => va_up_ne _ _ (by omega))).addT hm6 ha) (taddT_ok hOK ha hk hc) hN9 (by rw [va_up_ne _ _ (by omega), va_up_ne _ _ (by omega), va_up_ne _ _ (by omega), va_up_self]) hR.1.2.2.2.2.1), rfl⟩
      · omega
    · rw [in_t (by omega) (by omega) (by decide)] at c16
      cases c16
set_option maxHeartbeats 4000000 in
set_option maxRecDepth 100000 in
theorem c_X6_bar_n {E : xE} {h : xHp} {w : Nat} {D : xMd} {O : xO} (hR : Rel O D) (v : Int32) (hx : ¬ ((nI 0 ≤ v ∧ v ≤ nI 99))) : PMX E mX6_bar [.ref w, .int v] h w D (-1) O := by
  have R := hR.1.1
  have hOK := hR.1.2.1.1
  have hm6 := hOK.1.1
  have hm4 := hOK.1.2.1
  have hN9 := hR.1.2.1.2
  refine pm_of [some (.ref w), some (.int v), none] (by decide +kernel) (Nat.le_of_ble_eq_true rfl) rfl ?_
  refine px_iload_n dX6_bar_0 rfl ?_
  refine px_iconst (v := nI 0) dX6_bar_1 (by decide) ?_
  refine px_bipush (v := nI 99) dX6_bar_2 (by decide) ?_
  refine px_si (c_X6_in (v) (nI 0) (nI 99)) mw_X6_in wt_X6_in (Or.inl ml_X6_38) dX6_bar_4 (by decide) rfl rfl (Nat.le_of_ble_eq_true rfl) ⟨rfl, rfl⟩ ?_
  refine px_if_neB 12 dX6_bar_7 (by decide) (fun c7 => ?_) (fun c7 => ?_)
  · exact absurd (of_decide_eq_true c7) hx
  · refine px_iconst (v := -1) dX6_bar_10 (by decide) ?_
    exact px_iret dX6_bar_11 rfl rfl rfl ⟨rfl, D, hR, rfl⟩
set_option maxHeartbeats 4000000 in
set_option maxRecDepth 100000 in
theorem c_X6_bar {E : xE} {h : xHp} {w : Nat} {D : xMd} {O : xO} (hR : Rel O D) (v : Nat) (hv : v ≤ 99) : PMX E mX6_bar [.ref w, .int (nI v)] h w D (nI ((O.1.1 0).2 5)) (oT O 0 (tSS (O.1.1 0) 5 v)) := by
  have R := hR.1.1
  have hOK := hR.1.2.1.1
  have hm6 := hOK.1.1
  have hm4 := hOK.1.2.1
  have hN9 := hR.1.2.1.2
  refine pm_of [some (.ref w), some (.int (nI v)), none] (by decide +kernel) (Nat.le_of_ble_eq_true rfl) rfl ?_
  refine px_iload_n dX6_bar_0 rfl ?_
  refine px_iconst (v := nI 0) dX6_bar_1 (by decide) ?_
  refine px_bipush (v := nI 99) dX6_bar_2 (by decide) ?_
  refine px_si (c_X6_in (nI v) (nI 0) (nI 99)) mw_X6_in wt_X6_in (Or.inl ml_X6_38) dX6_bar_4 (by decide) rfl rfl (Nat.le_of_ble_eq_true rfl) ⟨rfl, rfl⟩ ?_
  refine px_if_neB 12 dX6_bar_7 (by decide) (fun c7 => ?_) (fun c7 => ?_)
  · refine px_aload_n dX6_bar_12 rfl ?_
    refine px_get xk_X6 7 dX6_bar_13 (Or.inl fl_X6_23) MH_obj (by decide) rfl ?_
    refine px_bipush (v := nI 22) dX6_bar_16 (by decide) ?_
    refine px_bL (b := 0) rfl dX6_bar_18 (by decide) (by omega) (R.ba) ?_
    refine px_istn_2 dX6_bar_19 (by decide) rfl ?_
    refine px_aload_n dX6_bar_20 rfl ?_
    refine px_get xk_X6 7 dX6_bar_21 (Or.inl fl_X6_23) MH_obj (by decide) rfl ?_
    refine px_bipush (v := nI 22) dX6_bar_24 (by decide) ?_
    refine px_iload_n dX6_bar_26 rfl ?_
    refine px_bW (b := 0) dX6_bar_27 (by decide) (by decide) ?_
    refine px_iload_n dX6_bar_28 rfl ?_
    exact px_iret dX6_bar_29 rfl rfl rfl ⟨rfl, _, hR.setT (hR.1.town (R.ups5 hm6 hm4) (tSS_ok hOK (by omega)) hN9 (tst.rf _) (fun q hq => va_up_ne _ _ (by omega))), rfl⟩
  · rw [in_t (by omega) (by omega) (by decide)] at c7
    cases c7
set_option maxHeartbeats 4000000 in
set_option maxRecDepth 100000 in
theorem c_X6_seed_n {E : xE} {h : xHp} {w : Nat} {D : xMd} {O : xO} (hR : Rel O D) (v : Int32) (hx : v < 0) : PMX E mX6_seed [.ref w, .int v] h w D (-1) O := by
  have R := hR.1.1
  have hOK := hR.1.2.1.1
  have hm6 := hOK.1.1
  have hm4 := hOK.1.2.1
  have hN9 := hR.1.2.1.2
  refine pm_of [some (.ref w), some (.int v), none] (by decide +kernel) (Nat.le_of_ble_eq_true rfl) rfl ?_
  refine px_iload_n dX6_seed_0 rfl ?_
  refine px_if_ge 6 dX6_seed_1 (by decide) (fun c1 => ?_) (fun c1 => ?_)
  · exact absurd hx (Int32.not_lt.mpr c1)
  · refine px_iconst (v := -1) dX6_seed_4 (by decide) ?_
    exact px_iret dX6_seed_5 rfl rfl rfl ⟨rfl, D, hR, rfl⟩
set_option maxHeartbeats 4000000 in
set_option maxRecDepth 100000 in
theorem c_X6_seed {E : xE} {h : xHp} {w : Nat} {D : xMd} {O : xO} (hR : Rel O D) (v : Nat) (hv : v < 2 ^ 31) : PMX E mX6_seed [.ref w, .int (nI v)] h w D (nI ((O.1.1 0).2 6)) (oT O 0 (tSS (O.1.1 0) 6 v)) := by
  have R := hR.1.1
  have hOK := hR.1.2.1.1
  have hm6 := hOK.1.1
  have hm4 := hOK.1.2.1
  have hN9 := hR.1.2.1.2
  refine pm_of [some (.ref w), some (.int (nI v)), none] (by decide +kernel) (Nat.le_of_ble_eq_true rfl) rfl ?_
  refine px_iload_n dX6_seed_0 rfl ?_
  refine px_if_geN 6 dX6_seed_1 (by decide) (by first | omega | exact hOK.lt (by decide) | exact hOK.lts (by decide)) ?_
  refine px_aload_n dX6_seed_6 rfl ?_
  refine px_get xk_X6 7 dX6_seed_7 (Or.inl fl_X6_23) MH_obj (by decide) rfl ?_
  refine px_iconst (v := nI 1) dX6_seed_10 (by decide) ?_
  refine px_bL (b := 0) rfl dX6_seed_11 (by decide) (by omega) (R.dr) ?_
  refine px_istn_2 dX6_seed_12 (by decide) rfl ?_
  refine px_aload_n dX6_seed_13 rfl ?_
  refine px_get xk_X6 7 dX6_seed_14 (Or.inl fl_X6_23) MH_obj (by decide) rfl ?_
  refine px_iconst (v := nI 1) dX6_seed_17 (by decide) ?_
  refine px_iload_n dX6_seed_18 rfl ?_
  refine px_bW (b := 0) dX6_seed_19 (by decide) (by decide) ?_
  refine px_iload_n dX6_seed_20 rfl ?_
  exact px_iret dX6_seed_21 rfl rfl rfl ⟨rfl, _, hR.setT (hR.1.town (R.ups6 hm6 hm4) (tSS_ok hOK (by omega)) hN9 (tst.rf _) (fun q hq => va_up_ne _ _ (by omega))), rfl⟩
set_option maxHeartbeats 4000000 in
set_option maxRecDepth 100000 in
theorem c_X6_of_n {E : xE} {h : xHp} {w : Nat} {D : xMd} {O : xO} (hR : Rel O D) (x u : Int32) (hx : ¬ ((0 ≤ x ∧ x < nI ((O.1.1 0).2 0)))) : PMX E mX6_of [.ref w, .int x, .int u] h w D (-1) O := by
  have R := hR.1.1
  have hOK := hR.1.2.1.1
  have hm6 := hOK.1.1
  have hm4 := hOK.1.2.1
  have hN9 := hR.1.2.1.2
  refine pm_of [some (.ref w), some (.int x), some (.int u)] (by decide +kernel) (Nat.le_of_ble_eq_true rfl) rfl ?_
  refine px_aload_n dX6_of_0 rfl ?_
  refine px_iload_n dX6_of_1 rfl ?_
  refine px_vi (M2 := mX6_isOne) (c_X6_isOne R hOK x) mw_X6_isOne wm_X6_isOne we_X6_isOne (Or.inl ml_X6_58) dX6_of_2 (MH_obj) rfl (by decide) rfl rfl (Nat.le_of_ble_eq_true rfl) ⟨rfl, rfl⟩ ?_
  refine px_if_neB 10 dX6_of_5 (by decide) (fun c5 => ?_) (fun c5 => ?_)
  · exact absurd (of_decide_eq_true c5) hx
  · refine px_iconst (v := -1) dX6_of_8 (by decide) ?_
    exact px_iret dX6_of_9 rfl rfl rfl ⟨rfl, D, hR, rfl⟩
set_option maxHeartbeats 4000000 in
set_option maxRecDepth 100000 in
theorem c_X6_of_w {E : xE} {h : xHp} {w : Nat} {D : xMd} {O : xO} (hR : Rel O D) (a : Nat) (u : Int32) (ha : a < (O.1.1 0).2 0) (hw : u.toInt < 0 ∨ 6 < u.toInt) : PMX E mX6_of [.ref w, .int (nI a), .int u] h w D (-1) O := by
  have R := hR.1.1
  have hOK := hR.1.2.1.1
  have hm6 := hOK.1.1
  have hm4 := hOK.1.2.1
  have hN9 := hR.1.2.1.2
  refine pm_of [some (.ref w), some (.int (nI a)), some (.int u)] (by decide +kernel) (Nat.le_of_ble_eq_true rfl) rfl ?_
  refine px_aload_n dX6_of_0 rfl ?_
  refine px_iload_n dX6_of_1 rfl ?_
  refine px_vi (M2 := mX6_isOne) (c_m1_y R hOK ha) mw_X6_isOne wm_X6_isOne we_X6_isOne (Or.inl ml_X6_58) dX6_of_2 (MH_obj) rfl (by decide) rfl rfl (Nat.le_of_ble_eq_true rfl) ⟨rfl, rfl⟩ ?_
  refine px_if_neB 10 dX6_of_5 (by decide) (fun c5 => ?_) (fun c5 => ?_)
  · refine px_iload_n dX6_of_10 rfl ?_
    refine px_tabOut 121 dX6_of_11 hw (by decide) ?_
    refine px_iconst (v := -1) dX6_of_121 (by decide) ?_
    exact px_iret dX6_of_122 rfl rfl rfl ⟨rfl, D, hR, rfl⟩
  · cases c5
set_option maxHeartbeats 4000000 in
set_option maxRecDepth 100000 in
theorem c_X6_of {E : xE} {h : xHp} {w : Nat} {D : xMd} {O : xO} (hR : Rel O D) (a u : Nat) (ha : a < (O.1.1 0).2 0) (hu : u < 7) : PMX E mX6_of [.ref w, .int (nI a), .int (nI u)] h w D (nI (tof (O.1.1 0) a u)) O := by
  have R := hR.1.1
  have hOK := hR.1.2.1.1
  have hm6 := hOK.1.1
  have hm4 := hOK.1.2.1
  have hN9 := hR.1.2.1.2
  refine pm_of [some (.ref w), some (.int (nI a)), some (.int (nI u))] (by decide +kernel) (Nat.le_of_ble_eq_true rfl) rfl ?_
  refine px_aload_n dX6_of_0 rfl ?_
  refine px_iload_n dX6_of_1 rfl ?_
  refine px_vi (M2 := mX6_isOne) (c_m1_y R hOK ha) mw_X6_isOne wm_X6_isOne we_X6_isOne (Or.inl ml_X6_58) dX6_of_2 (MH_obj) rfl (by decide) rfl rfl (Nat.le_of_ble_eq_true rfl) ⟨rfl, rfl⟩ ?_
  refine px_if_neB 10 dX6_of_5 (by decide) (fun c5 => ?_) (fun c5 => ?_)
  · refine px_iload_n dX6_of_10 rfl ?_
    have hww : u = 0 ∨ u = 1 ∨ u = 2 ∨ u = 3 ∨ u = 4 ∨ u = 5 ∨ u = 6 := by omega
    rcases hww with hw0 | hw0 | hw0 | hw0 | hw0 | hw0 | hw0
    · subst hw0
      refine px_tabIn 52 dX6_of_11 (by decide) (by decide) rfl (by decide) ?_
      refine px_aload_n dX6_of_52 rfl ?_
      refine px_get xk_X6 7 dX6_of_53 (Or.inl fl_X6_23) MH_obj (by decide) rfl ?_
      refine px_bipush (v := nI 24) dX6_of_56 (by decide) ?_
      refine px_iload_n dX6_of_58 rfl ?_
      refine px_iaddN dX6_of_59 ?_
      refine px_bL (b := 0) rfl dX6_of_60 (by decide) (by omega) (R.ki ha) ?_
      exact px_iret dX6_of_61 rfl rfl rfl ⟨rfl, D, hR, rfl⟩
    · subst hw0
      refine px_tabIn 62 dX6_of_11 (by decide) (by decide) rfl (by decide) ?_
      refine px_aload_n dX6_of_62 rfl ?_
      refine px_get xk_X6 7 dX6_of_63 (Or.inl fl_X6_23) MH_obj (by decide) rfl ?_
      refine px_bipush (v := nI 8) dX6_of_66 (by decide) ?_
      refine px_iload_n dX6_of_68 rfl ?_
      refine px_iaddN dX6_of_69 ?_
      refine px_bL (b := 0) rfl dX6_of_70 (by decide) (by omega) (R.so ha) ?_
      exact px_iret dX6_of_71 rfl rfl rfl ⟨rfl, D, hR, rfl⟩
    · subst hw0
      refine px_tabIn 72 dX6_of_11 (by decide) (by decide) rfl (by decide) ?_
      refine px_aload_n dX6_of_72 rfl ?_
      refine px_get xk_X6 7 dX6_of_73 (Or.inl fl_X6_23) MH_obj (by decide) rfl ?_
      refine px_iconst (v := nI 2) dX6_of_76 (by decide) ?_
      refine px_iload_n dX6_of_77 rfl ?_
      refine px_iaddN dX6_of_78 ?_
      refine px_bL (b := 0) rfl dX6_of_79 (by decide) (by omega) (R.de ha) ?_
      exact px_iret dX6_of_80 rfl rfl rfl ⟨rfl, D, hR, rfl⟩
    · subst hw0
      refine px_tabIn 81 dX6_of_11 (by decide) (by decide) rfl (by decide) ?_
      refine px_aload_n dX6_of_81 rfl ?_
      refine px_get xk_X6 7 dX6_of_82 (Or.inl fl_X6_23) MH_obj (by decide) rfl ?_
      refine px_bipush (v := nI 14) dX6_of_85 (by decide) ?_
      refine px_iload_n dX6_of_87 rfl ?_
      refine px_iaddN dX6_of_88 ?_
      refine px_bL (b := 0) rfl dX6_of_89 (by decide) (by omega) (R.ca ha) ?_
      exact px_iret dX6_of_90 rfl rfl rfl ⟨rfl, D, hR, rfl⟩
    · subst hw0
      refine px_tabIn 91 dX6_of_11 (by decide) (by decide) rfl (by decide) ?_
      refine px_aload_n dX6_of_91 rfl ?_
      refine px_get xk_X6 7 dX6_of_92 (Or.inl fl_X6_23) MH_obj (by decide) rfl ?_
      refine px_bipush (v := nI 20) dX6_of_95 (by decide) ?_
      refine px_bL (b := 0) rfl dX6_of_97 (by decide) (by omega) (R.sh) ?_
      refine px_iload_n dX6_of_98 rfl ?_
      refine px_ishrN dX6_of_99 (by first | omega | exact hOK.lt (by decide) | exact hOK.lts (by decide)) (by omega) ?_
      refine px_iconst (v := nI 1) dX6_of_100 (by decide) ?_
      refine px_iandN dX6_of_101 ?_
      exact px_iret dX6_of_102 rfl rfl rfl ⟨by rw [bit1]; rfl, D, hR, rfl⟩
    · subst hw0
      refine px_tabIn 103 dX6_of_11 (by decide) (by decide) rfl (by decide) ?_
      refine px_aload_n dX6_of_103 rfl ?_
      refine px_get xk_X6 7 dX6_of_104 (Or.inl fl_X6_23) MH_obj (by decide) rfl ?_
      refine px_bipush (v := nI 21) dX6_of_107 (by decide) ?_
      refine px_bL (b := 0) rfl dX6_of_109 (by decide) (by omega) (R.sw) ?_
      refine px_iload_n dX6_of_110 rfl ?_
      refine px_ishrN dX6_of_111 (by first | omega | exact hOK.lt (by decide) | exact hOK.lts (by decide)) (by omega) ?_
      refine px_iconst (v := nI 1) dX6_of_112 (by decide) ?_
      refine px_iandN dX6_of_113 ?_
      exact px_iret dX6_of_114 rfl rfl rfl ⟨by rw [bit1]; rfl, D, hR, rfl⟩
    · subst hw0
      refine px_tabIn 115 dX6_of_11 (by decide) (by decide) rfl (by decide) ?_
      refine px_aload_n dX6_of_115 rfl ?_
      refine px_iload_n dX6_of_116 rfl ?_
      refine px_vi (M2 := mX6_robbersOf) (c_X6_robbersOf R hOK a ha) mw_X6_robbersOf wm_X6_robbersOf we_X6_robbersOf (Or.inl ml_X6_62) dX6_of_117 (MH_obj) rfl (by decide) rfl rfl (Nat.le_of_ble_eq_true rfl) ⟨rfl, rfl⟩ ?_
      exact px_iret dX6_of_120 rfl rfl rfl ⟨rfl, D, hR, rfl⟩
  · cases c5
set_option maxHeartbeats 4000000 in
set_option maxRecDepth 100000 in
theorem c_X6_at_n {E : xE} {h : xHp} {w : Nat} {D : xMd} {O : xO} (hR : Rel O D) (x u : Int32) (hx : ¬ ((0 ≤ x ∧ x < nI ((O.1.1 0).2 1)))) : PMX E mX6_at [.ref w, .int x, .int u] h w D (-1) O := by
  have R := hR.1.1
  have hOK := hR.1.2.1.1
  have hm6 := hOK.1.1
  have hm4 := hOK.1.2.1
  have hN9 := hR.1.2.1.2
  refine pm_of [some (.ref w), some (.int x), some (.int u)] (by decide +kernel) (Nat.le_of_ble_eq_true rfl) rfl ?_
  refine px_aload_n dX6_at_0 rfl ?_
  refine px_iload_n dX6_at_1 rfl ?_
  refine px_vi (M2 := mX6_isThief) (c_X6_isThief R hOK x) mw_X6_isThief wm_X6_isThief we_X6_isThief (Or.inl ml_X6_66) dX6_at_2 (MH_obj) rfl (by decide) rfl rfl (Nat.le_of_ble_eq_true rfl) ⟨rfl, rfl⟩ ?_
  refine px_if_neB 10 dX6_at_5 (by decide) (fun c5 => ?_) (fun c5 => ?_)
  · exact absurd (of_decide_eq_true c5) hx
  · refine px_iconst (v := -1) dX6_at_8 (by decide) ?_
    exact px_iret dX6_at_9 rfl rfl rfl ⟨rfl, D, hR, rfl⟩
set_option maxHeartbeats 4000000 in
set_option maxRecDepth 100000 in
theorem c_X6_at_w {E : xE} {h : xHp} {w : Nat} {D : xMd} {O : xO} (hR : Rel O D) (t : Nat) (u : Int32) (ht : t < (O.1.1 0).2 1) (hw : u.toInt < 0 ∨ 2 < u.toInt) : PMX E mX6_at [.ref w, .int (nI t), .int u] h w D (-1) O := by
  have R := hR.1.1
  have hOK := hR.1.2.1.1
  have hm6 := hOK.1.1
  have hm4 := hOK.1.2.1
  have hN9 := hR.1.2.1.2
  refine pm_of [some (.ref w), some (.int (nI t)), some (.int u)] (by decide +kernel) (Nat.le_of_ble_eq_true rfl) rfl ?_
  refine px_aload_n dX6_at_0 rfl ?_
  refine px_iload_n dX6_at_1 rfl ?_
  refine px_vi (M2 := mX6_isThief) (c_m2_y R hOK ht) mw_X6_isThief wm_X6_isThief we_X6_isThief (Or.inl ml_X6_66) dX6_at_2 (MH_obj) rfl (by decide) rfl rfl (Nat.le_of_ble_eq_true rfl) ⟨rfl, rfl⟩ ?_
  refine px_if_neB 10 dX6_at_5 (by decide) (fun c5 => ?_) (fun c5 => ?_)
  · refine px_iload_n dX6_at_10 rfl ?_
    refine px_if_ne 26 dX6_at_11 (by decide) (fun c11 => ?_) (fun c11 => ?_)
    · refine px_iload_n dX6_at_26 rfl ?_
      refine px_iconst (v := nI 1) dX6_at_27 (by decide) ?_
      refine px_icmp_ne 43 dX6_at_28 (by decide) (fun c28 => ?_) (fun c28 => ?_)
      · refine px_iload_n dX6_at_43 rfl ?_
        refine px_iconst (v := nI 2) dX6_at_44 (by decide) ?_
        refine px_icmp_ne 56 dX6_at_45 (by decide) (fun c45 => ?_) (fun c45 => ?_)
        · refine px_iconst (v := -1) dX6_at_56 (by decide) ?_
          exact px_iret dX6_at_57 rfl rfl rfl ⟨rfl, D, hR, rfl⟩
        · exact absurd (c45 ▸ hw) (by decide)
      · exact absurd (c28 ▸ hw) (by decide)
    · exact absurd (c11 ▸ hw) (by decide)
  · cases c5
set_option maxHeartbeats 4000000 in
set_option maxRecDepth 100000 in
theorem c_X6_at {E : xE} {h : xHp} {w : Nat} {D : xMd} {O : xO} (hR : Rel O D) (t u : Nat) (ht : t < (O.1.1 0).2 1) (hu : u < 3) : PMX E mX6_at [.ref w, .int (nI t), .int (nI u)] h w D (nI (tat (O.1.1 0) t u)) O := by
  have R := hR.1.1
  have hOK := hR.1.2.1.1
  have hm6 := hOK.1.1
  have hm4 := hOK.1.2.1
  have hN9 := hR.1.2.1.2
  refine pm_of [some (.ref w), some (.int (nI t)), some (.int (nI u))] (by decide +kernel) (Nat.le_of_ble_eq_true rfl) rfl ?_
  refine px_aload_n dX6_at_0 rfl ?_
  refine px_iload_n dX6_at_1 rfl ?_
  refine px_vi (M2 := mX6_isThief) (c_m2_y R hOK ht) mw_X6_isThief wm_X6_isThief we_X6_isThief (Or.inl ml_X6_66) dX6_at_2 (MH_obj) rfl (by decide) rfl rfl (Nat.le_of_ble_eq_true rfl) ⟨rfl, rfl⟩ ?_
  refine px_if_neB 10 dX6_at_5 (by decide) (fun c5 => ?_) (fun c5 => ?_)
  · refine px_iload_n dX6_at_10 rfl ?_
    refine px_if_neN 26 dX6_at_11 (by decide) (by first | omega | exact hOK.lt (by decide) | exact hOK.lts (by decide)) (fun c11 => ?_) (fun c11 => ?_)
    · refine px_iload_n dX6_at_26 rfl ?_
      refine px_iconst (v := nI 1) dX6_at_27 (by decide) ?_
      refine px_icmp_neN 43 dX6_at_28 (by decide) (by first | omega | exact hOK.lt (by decide) | exact hOK.lts (by decide)) (by first | omega | exact hOK.lt (by decide) | exact hOK.lts (by decide)) (fun c28 => ?_) (fun c28 => ?_)
      · refine px_iload_n dX6_at_43 rfl ?_
        refine px_iconst (v := nI 2) dX6_at_44 (by decide) ?_
        refine px_icmp_neN 56 dX6_at_45 (by decide) (by first | omega | exact hOK.lt (by decide) | exact hOK.lts (by decide)) (by first | omega | exact hOK.lt (by decide) | exact hOK.lts (by decide)) (fun c45 => ?_) (fun c45 => ?_)
        · omega
        · refine px_aload_n dX6_at_48 rfl ?_
          refine px_iload_n dX6_at_49 rfl ?_
          refine px_vi (M2 := mX6_preyOf) (c_X6_preyOf R hOK t ht) mw_X6_preyOf wm_X6_preyOf we_X6_preyOf (Or.inl ml_X6_69) dX6_at_50 (MH_obj) rfl (by decide) rfl rfl (Nat.le_of_ble_eq_true rfl) ⟨rfl, rfl⟩ ?_
          refine px_goto 57 dX6_at_53 (by decide) ?_
          exact px_iret dX6_at_57 rfl rfl rfl ⟨by rw [c45]; rfl, D, hR, rfl⟩
      · refine px_aload_n dX6_at_31 rfl ?_
        refine px_get xk_X6 7 dX6_at_32 (Or.inl fl_X6_23) MH_obj (by decide) rfl ?_
        refine px_bipush (v := nI 35) dX6_at_35 (by decide) ?_
        refine px_iload_n dX6_at_37 rfl ?_
        refine px_iaddN dX6_at_38 ?_
        refine px_bL (b := 0) rfl dX6_at_39 (by decide) (by omega) (R.wa ht) ?_
        refine px_goto 57 dX6_at_40 (by decide) ?_
        exact px_iret dX6_at_57 rfl rfl rfl ⟨by rw [c28]; rfl, D, hR, rfl⟩
    · refine px_aload_n dX6_at_14 rfl ?_
      refine px_get xk_X6 7 dX6_at_15 (Or.inl fl_X6_23) MH_obj (by decide) rfl ?_
      refine px_bipush (v := nI 31) dX6_at_18 (by decide) ?_
      refine px_iload_n dX6_at_20 rfl ?_
      refine px_iaddN dX6_at_21 ?_
      refine px_bL (b := 0) rfl dX6_at_22 (by decide) (by omega) (R.sk ht) ?_
      refine px_goto 57 dX6_at_23 (by decide) ?_
      exact px_iret dX6_at_57 rfl rfl rfl ⟨by rw [c11]; rfl, D, hR, rfl⟩
  · cases c5
set_option maxHeartbeats 4000000 in
set_option maxRecDepth 100000 in
theorem c_X6_type_n {E : xE} {h : xHp} {w : Nat} {D : xMd} {O : xO} (hR : Rel O D) (c : Int32) (hx : ¬ ((nI 32 ≤ c ∧ c ≤ nI 126))) : PMX E mX6_type [.ref w, .int c] h w D (-1) O := by
  have R := hR.1.1
  have hOK := hR.1.2.1.1
  have hm6 := hOK.1.1
  have hm4 := hOK.1.2.1
  have hN9 := hR.1.2.1.2
  refine pm_of [some (.ref w), some (.int c)] (by decide +kernel) (Nat.le_of_ble_eq_true rfl) rfl ?_
  refine px_iload_n dX6_type_0 rfl ?_
  refine px_bipush (v := nI 32) dX6_type_1 (by decide) ?_
  refine px_bipush (v := nI 126) dX6_type_3 (by decide) ?_
  refine px_si (c_X6_in (c) (nI 32) (nI 126)) mw_X6_in wt_X6_in (Or.inl ml_X6_38) dX6_type_5 (by decide) rfl rfl (Nat.le_of_ble_eq_true rfl) ⟨rfl, rfl⟩ ?_
  refine px_if_neB 13 dX6_type_8 (by decide) (fun c8 => ?_) (fun c8 => ?_)
  · exact absurd (of_decide_eq_true c8) hx
  · refine px_iconst (v := -1) dX6_type_11 (by decide) ?_
    exact px_iret dX6_type_12 rfl rfl rfl ⟨rfl, D, hR, rfl⟩
set_option maxHeartbeats 4000000 in
set_option maxRecDepth 100000 in
theorem c_X6_type_f {E : xE} {h : xHp} {w : Nat} {D : xMd} {O : xO} (hR : Rel O D) (c : Nat) (h1 : 32 ≤ c) (h2 : c ≤ 126) (hz : 80 ≤ O.2.2.1.2.1) : PMX E mX6_type [.ref w, .int (nI c)] h w D (-3) O := by
  have R := hR.1.1
  have hOK := hR.1.2.1.1
  have hm6 := hOK.1.1
  have hm4 := hOK.1.2.1
  have hN9 := hR.1.2.1.2
  have hln := hR.2.2.2.1.1
  have hl8 := hR.2.2.2.1.2.1
  refine pm_of [some (.ref w), some (.int (nI c))] (by decide +kernel) (Nat.le_of_ble_eq_true rfl) rfl ?_
  refine px_iload_n dX6_type_0 rfl ?_
  refine px_bipush (v := nI 32) dX6_type_1 (by decide) ?_
  refine px_bipush (v := nI 126) dX6_type_3 (by decide) ?_
  refine px_si (c_X6_in (nI c) (nI 32) (nI 126)) mw_X6_in wt_X6_in (Or.inl ml_X6_38) dX6_type_5 (by decide) rfl rfl (Nat.le_of_ble_eq_true rfl) ⟨rfl, rfl⟩ ?_
  refine px_if_neB 13 dX6_type_8 (by decide) (fun c8 => ?_) (fun c8 => ?_)
  · refine px_aload_n dX6_type_13 rfl ?_
    refine px_get xk_X6 3 dX6_type_14 (Or.inl fl_X6_72) MH_obj (by decide) rfl ?_
    refine px_bipush (v := nI 80) dX6_type_17 (by decide) ?_
    refine px_icmp_neN 25 dX6_type_19 (by decide) (by omega) (by omega) (fun c19 => ?_) (fun c19 => ?_)
    · omega
    · refine px_bipush (v := -3) dX6_type_22 (by decide) ?_
      exact px_iret dX6_type_24 rfl rfl rfl ⟨rfl, D, hR, rfl⟩
  · rw [in_t (by omega) (by omega) (by decide)] at c8
    cases c8
theorem Rel.typ {O : xO} {D : xMd} (hR : Rel O D) {c : Nat} (h1 : 32 ≤ c) (h2 : c ≤ 126) (hz : O.2.2.1.2.1 < 80) : Rel (oK O (va_up O.2.2.1.1 O.2.2.1.2.1 c, O.2.2.1.2.1 + 1, O.2.2.1.2.2)) (sLn (sTp D (va_up (mTp D) (mLn D) c)) (mLn D + 1)) := by
  obtain ⟨r1, r2, r3, ⟨k1, k2, k3, k4⟩, r5⟩ := hR
  refine ⟨r1, r2, r3, ⟨?_, ?_, fun i => ?_, fun i hi => ?_⟩, r5⟩
  · show mLn D + 1 = O.2.2.1.2.1 + 1
    rw [k1]
  · show O.2.2.1.2.1 + 1 ≤ 80
    omega
  · show va_up O.2.2.1.1 O.2.2.1.2.1 c i ≤ 126
    by_cases hi : i = O.2.2.1.2.1
    · rw [hi, va_up_self]; exact h2
    · rw [va_up_ne _ _ hi]; exact k3 i
  · have hi : i < O.2.2.1.2.1 + 1 := hi
    show va_up (mTp D) (mLn D) c i = va_up O.2.2.1.1 O.2.2.1.2.1 c i ∧ 32 ≤ va_up O.2.2.1.1 O.2.2.1.2.1 c i
    rw [k1]
    by_cases he : i = O.2.2.1.2.1
    · rw [he, va_up_self, va_up_self]; exact ⟨rfl, h1⟩
    · rw [va_up_ne _ _ he, va_up_ne _ _ he]
      exact k4 i (by omega)
set_option maxHeartbeats 4000000 in
set_option maxRecDepth 100000 in
theorem c_X6_type {E : xE} {h : xHp} {w : Nat} {D : xMd} {O : xO} (hR : Rel O D) (c : Nat) (h1 : 32 ≤ c) (h2 : c ≤ 126) (hz : O.2.2.1.2.1 < 80) : PMX E mX6_type [.ref w, .int (nI c)] h w D (nI (O.2.2.1.2.1 + 1)) (oK O (va_up O.2.2.1.1 O.2.2.1.2.1 c, O.2.2.1.2.1 + 1, O.2.2.1.2.2)) := by
  have R := hR.1.1
  have hOK := hR.1.2.1.1
  have hm6 := hOK.1.1
  have hm4 := hOK.1.2.1
  have hN9 := hR.1.2.1.2
  have hln := hR.2.2.2.1.1
  refine pm_of [some (.ref w), some (.int (nI c))] (by decide +kernel) (Nat.le_of_ble_eq_true rfl) rfl ?_
  refine px_iload_n dX6_type_0 rfl ?_
  refine px_bipush (v := nI 32) dX6_type_1 (by decide) ?_
  refine px_bipush (v := nI 126) dX6_type_3 (by decide) ?_
  refine px_si (c_X6_in (nI c) (nI 32) (nI 126)) mw_X6_in wt_X6_in (Or.inl ml_X6_38) dX6_type_5 (by decide) rfl rfl (Nat.le_of_ble_eq_true rfl) ⟨rfl, rfl⟩ ?_
  refine px_if_neB 13 dX6_type_8 (by decide) (fun c8 => ?_) (fun c8 => ?_)
  · refine px_aload_n dX6_type_13 rfl ?_
    refine px_get xk_X6 3 dX6_type_14 (Or.inl fl_X6_72) MH_obj (by decide) rfl ?_
    refine px_bipush (v := nI 80) dX6_type_17 (by decide) ?_
    refine px_icmp_neN 25 dX6_type_19 (by decide) (by omega) (by omega) (fun c19 => ?_) (fun c19 => ?_)
    · refine px_aload_n dX6_type_25 rfl ?_
      refine px_get xk_X6 4 dX6_type_26 (Or.inl fl_X6_20) MH_obj (by decide) rfl ?_
      refine px_aload_n dX6_type_29 rfl ?_
      refine px_get xk_X6 3 dX6_type_30 (Or.inl fl_X6_72) MH_obj (by decide) rfl ?_
      refine px_iload_n dX6_type_33 rfl ?_
      refine px_tpW dX6_type_34 (by omega) ?_
      refine px_aload_n dX6_type_35 rfl ?_
      refine px_dup dX6_type_36 rfl ?_
      refine px_get xk_X6 3 dX6_type_37 (Or.inl fl_X6_72) MH_obj (by decide) rfl ?_
      refine px_iconst (v := nI 1) dX6_type_40 (by decide) ?_
      refine px_iaddN dX6_type_41 ?_
      refine px_pLn dX6_type_42 (Or.inl fl_X6_72) ?_
      refine px_aload_n dX6_type_45 rfl ?_
      refine px_get xk_X6 3 dX6_type_46 (Or.inl fl_X6_72) MH_obj (by decide) rfl ?_
      exact px_iret dX6_type_49 rfl rfl rfl ⟨by show some (Value.int (nI (mLn D + 1))) = _; rw [hln], _, hR.typ h1 h2 hz, rfl⟩
    · omega
  · rw [in_t (by omega) (by omega) (by decide)] at c8
    cases c8
set_option maxHeartbeats 4000000 in
set_option maxRecDepth 100000 in
theorem c_X6_count_w {E : xE} {h : xHp} {w : Nat} {D : xMd} {O : xO} (hR : Rel O D) (u : Int32) (hw : u.toInt < 0 ∨ 7 < u.toInt) : PMX E mX6_count [.ref w, .int u] h w D (-1) O := by
  have R := hR.1.1
  have hOK := hR.1.2.1.1
  have hm6 := hOK.1.1
  have hm4 := hOK.1.2.1
  have hN9 := hR.1.2.1.2
  refine pm_of [some (.ref w), some (.int u), none, none] (by decide +kernel) (Nat.le_of_ble_eq_true rfl) rfl ?_
  refine px_iconst (v := nI 0) dX6_count_0 (by decide) ?_
  refine px_istn_2 dX6_count_1 (by decide) rfl ?_
  refine px_iload_n dX6_count_2 rfl ?_
  refine px_tabOut 153 dX6_count_3 hw (by decide) ?_
  refine px_iconst (v := -1) dX6_count_153 (by decide) ?_
  exact px_iret dX6_count_154 rfl rfl rfl ⟨rfl, D, hR, rfl⟩
set_option maxHeartbeats 4000000 in
set_option maxRecDepth 100000 in
theorem l_X6_count {E : xE} {h : xHp} {w : Nat} {D : xMd} {O : xO} (hR : Rel O D) : ∀ (n i : Nat), i ≤ (O.1.1 0).2 0 → (O.1.1 0).2 0 + 1 ≤ i + n → PW E mX6_count (fun v h' => v = some (.int (nI (tsum (O.1.1 0) ((O.1.1 0).2 0)))) ∧ ∃ D', Rel O D' ∧ h' = MH E h w D') 0 0 97 [some (.ref w), some (.int (nI 6)), some (.int (nI (tsum (O.1.1 0) i))), some (.int (nI i))] [] (MH E h w D) := by
  have R := hR.1.1
  have hOK := hR.1.2.1.1
  have hm6 := hOK.1.1
  have hm4 := hOK.1.2.1
  have hN9 := hR.1.2.1.2
  intro n
  induction n with
  | zero =>
    intro i h1 h2
    omega
  | succ n ih =>
    intro i h1 h2
    refine px_iload_n dX6_count_97 rfl ?_
    refine px_aload_n dX6_count_98 rfl ?_
    refine px_get xk_X6 7 dX6_count_99 (Or.inl fl_X6_23) MH_obj (by decide) rfl ?_
    refine px_bipush (v := nI 23) dX6_count_102 (by decide) ?_
    refine px_bL (b := 0) rfl dX6_count_104 (by decide) (by omega) (R.mn) ?_
    refine px_icmp_geN 143 dX6_count_105 (by decide) (by first | omega | exact hOK.lt (by decide) | exact hOK.lts (by decide)) (by first | omega | exact hOK.lt (by decide) | exact hOK.lts (by decide)) (fun c105 => ?_) (fun c105 => ?_)
    · refine px_iload_n dX6_count_143 rfl ?_
      have hi : i = (O.1.1 0).2 0 := by omega
      subst hi
      exact px_iret dX6_count_144 rfl rfl rfl ⟨rfl, D, hR, rfl⟩
    · refine px_iload_n dX6_count_108 rfl ?_
      refine px_aload_n dX6_count_109 rfl ?_
      refine px_get xk_X6 7 dX6_count_110 (Or.inl fl_X6_23) MH_obj (by decide) rfl ?_
      refine px_bipush (v := nI 21) dX6_count_113 (by decide) ?_
      refine px_bL (b := 0) rfl dX6_count_115 (by decide) (by omega) (R.sw) ?_
      refine px_iload_n dX6_count_116 rfl ?_
      refine px_si (c_X6_has_n ((O.1.1 0).2 3) i (by have := hOK.1.2.2.2.1; omega) (by omega)) mw_X6_has wt_X6_has (Or.inl ml_X6_50) dX6_count_117 (by decide) rfl rfl (Nat.le_of_ble_eq_true rfl) ⟨rfl, rfl⟩ ?_
      refine px_if_eqB 127 dX6_count_120 (by decide) (fun c120 => ?_) (fun c120 => ?_)
      · refine px_aload_n dX6_count_127 rfl ?_
        refine px_get xk_X6 7 dX6_count_128 (Or.inl fl_X6_23) MH_obj (by decide) rfl ?_
        refine px_iconst (v := nI 2) dX6_count_131 (by decide) ?_
        refine px_iload_n dX6_count_132 rfl ?_
        refine px_iaddN dX6_count_133 ?_
        refine px_bL (b := 0) rfl dX6_count_134 (by decide) (by omega) (R.de c105) ?_
        refine px_iaddN dX6_count_135 ?_
        refine px_istn_2 dX6_count_136 (by decide) rfl ?_
        refine px_inc_3 dX6_count_137 rfl (nI_1 _) (by decide) rfl ?_
        refine px_goto 97 dX6_count_140 (by decide) ?_
        refine px_eq (lo2 := [some (.ref w), some (.int (nI 6)), some (.int (nI (tsum (O.1.1 0) (i + 1)))), some (.int (nI (i + 1)))]) ?_ rfl rfl (ih (i + 1) (by omega) (by omega))
        rw [tsum, c120]
        rfl
      · refine px_iconst (v := nI 0) dX6_count_123 (by decide) ?_
        refine px_goto 135 dX6_count_124 (by decide) ?_
        refine px_iaddN dX6_count_135 ?_
        refine px_istn_2 dX6_count_136 (by decide) rfl ?_
        refine px_inc_3 dX6_count_137 rfl (nI_1 _) (by decide) rfl ?_
        refine px_goto 97 dX6_count_140 (by decide) ?_
        refine px_eq (lo2 := [some (.ref w), some (.int (nI 6)), some (.int (nI (tsum (O.1.1 0) (i + 1)))), some (.int (nI (i + 1)))]) ?_ rfl rfl (ih (i + 1) (by omega) (by omega))
        rw [tsum, c120]
        rfl
set_option maxHeartbeats 4000000 in
set_option maxRecDepth 100000 in
theorem c_X6_count {E : xE} {h : xHp} {w : Nat} {D : xMd} {O : xO} (hR : Rel O D) (u : Nat) (hu : u < 8) : PMX E mX6_count [.ref w, .int (nI u)] h w D (nI (tcnt (O.1.1 0) (O.1.2 0).2.2 u)) O := by
  have R := hR.1.1
  have hOK := hR.1.2.1.1
  have hm6 := hOK.1.1
  have hm4 := hOK.1.2.1
  have hN9 := hR.1.2.1.2
  refine pm_of [some (.ref w), some (.int (nI u)), none, none] (by decide +kernel) (Nat.le_of_ble_eq_true rfl) rfl ?_
  refine px_iconst (v := nI 0) dX6_count_0 (by decide) ?_
  refine px_istn_2 dX6_count_1 (by decide) rfl ?_
  refine px_iload_n dX6_count_2 rfl ?_
  have hww : u = 0 ∨ u = 1 ∨ u = 2 ∨ u = 3 ∨ u = 4 ∨ u = 5 ∨ u = 6 ∨ u = 7 := by omega
  rcases hww with hw0 | hw0 | hw0 | hw0 | hw0 | hw0 | hw0 | hw0
  · subst hw0
    refine px_tabIn 48 dX6_count_3 (by decide) (by decide) rfl (by decide) ?_
    refine px_aload_n dX6_count_48 rfl ?_
    refine px_get xk_X6 7 dX6_count_49 (Or.inl fl_X6_23) MH_obj (by decide) rfl ?_
    refine px_bipush (v := nI 23) dX6_count_52 (by decide) ?_
    refine px_bL (b := 0) rfl dX6_count_54 (by decide) (by omega) (R.mn) ?_
    exact px_iret dX6_count_55 rfl rfl rfl ⟨rfl, D, hR, rfl⟩
  · subst hw0
    refine px_tabIn 56 dX6_count_3 (by decide) (by decide) rfl (by decide) ?_
    refine px_aload_n dX6_count_56 rfl ?_
    refine px_get xk_X6 7 dX6_count_57 (Or.inl fl_X6_23) MH_obj (by decide) rfl ?_
    refine px_bipush (v := nI 30) dX6_count_60 (by decide) ?_
    refine px_bL (b := 0) rfl dX6_count_62 (by decide) (by omega) (R.th) ?_
    exact px_iret dX6_count_63 rfl rfl rfl ⟨rfl, D, hR, rfl⟩
  · subst hw0
    refine px_tabIn 64 dX6_count_3 (by decide) (by decide) rfl (by decide) ?_
    refine px_aload_n dX6_count_64 rfl ?_
    refine px_get xk_X6 7 dX6_count_65 (Or.inl fl_X6_23) MH_obj (by decide) rfl ?_
    refine px_iconst (v := nI 0) dX6_count_68 (by decide) ?_
    refine px_bL (b := 0) rfl dX6_count_69 (by decide) (by omega) (R.nt) ?_
    exact px_iret dX6_count_70 rfl rfl rfl ⟨rfl, D, hR, rfl⟩
  · subst hw0
    refine px_tabIn 71 dX6_count_3 (by decide) (by decide) rfl (by decide) ?_
    refine px_aload_n dX6_count_71 rfl ?_
    refine px_get xk_X6 7 dX6_count_72 (Or.inl fl_X6_23) MH_obj (by decide) rfl ?_
    refine px_bipush (v := nI 22) dX6_count_75 (by decide) ?_
    refine px_bL (b := 0) rfl dX6_count_77 (by decide) (by omega) (R.ba) ?_
    exact px_iret dX6_count_78 rfl rfl rfl ⟨rfl, D, hR, rfl⟩
  · subst hw0
    refine px_tabIn 79 dX6_count_3 (by decide) (by decide) rfl (by decide) ?_
    refine px_aload_n dX6_count_79 rfl ?_
    refine px_get xk_X6 7 dX6_count_80 (Or.inl fl_X6_23) MH_obj (by decide) rfl ?_
    refine px_bipush (v := nI 21) dX6_count_83 (by decide) ?_
    refine px_bL (b := 0) rfl dX6_count_85 (by decide) (by omega) (R.sw) ?_
    exact px_iret dX6_count_86 rfl rfl rfl ⟨rfl, D, hR, rfl⟩
  · subst hw0
    refine px_tabIn 87 dX6_count_3 (by decide) (by decide) rfl (by decide) ?_
    refine px_aload_n dX6_count_87 rfl ?_
    refine px_get xk_X6 7 dX6_count_88 (Or.inl fl_X6_23) MH_obj (by decide) rfl ?_
    refine px_bipush (v := nI 20) dX6_count_91 (by decide) ?_
    refine px_bL (b := 0) rfl dX6_count_93 (by decide) (by omega) (R.sh) ?_
    exact px_iret dX6_count_94 rfl rfl rfl ⟨rfl, D, hR, rfl⟩
  · subst hw0
    refine px_tabIn 95 dX6_count_3 (by decide) (by decide) rfl (by decide) ?_
    refine px_iconst (v := nI 0) dX6_count_95 (by decide) ?_
    refine px_istn_3 dX6_count_96 (by decide) rfl ?_
    exact l_X6_count hR ((O.1.1 0).2 0 + 1) 0 (Nat.zero_le _) (by omega)
  · subst hw0
    refine px_tabIn 145 dX6_count_3 (by decide) (by decide) rfl (by decide) ?_
    refine px_aload_n dX6_count_145 rfl ?_
    refine px_get xk_X6 7 dX6_count_146 (Or.inl fl_X6_23) MH_obj (by decide) rfl ?_
    refine px_bipush (v := nI 39) dX6_count_149 (by decide) ?_
    refine px_bL (b := 0) rfl dX6_count_151 (by decide) (by omega) (hR.1.2.2.1) ?_
    exact px_iret dX6_count_152 rfl rfl rfl ⟨rfl, D, hR, rfl⟩
