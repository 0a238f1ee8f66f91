set_option maxHeartbeats 4000000 in
set_option maxRecDepth 100000 in
theorem c_X5_apprentice_n {E : xE} {h : xHp} {z : Nat} {O : xO} (k s c : Int32) (hx : ¬ ((nI 0 ≤ k ∧ k ≤ nI 4) ∧ (nI 0 ≤ s ∧ s ≤ nI 3) ∧ (nI 0 ≤ c ∧ c ≤ nI 9))) : PMI E mX5_apprentice [.ref z, .int k, .int s, .int c] (RO E h z O) (-1) (RO E h z O) := by
  refine pm_of [some (.ref z), some (.int k), some (.int s), some (.int c)] (by decide +kernel) (Nat.le_of_ble_eq_true rfl) rfl ?_
  refine px_iload_n dX5_apprentice_0 rfl ?_
  refine px_iconst (v := nI 0) dX5_apprentice_1 (by decide) ?_
  refine px_iconst (v := nI 4) dX5_apprentice_2 (by decide) ?_
  refine px_si (c_X5_isWithin (k) (nI 0) (nI 4)) mw_X5_isWithin wt_X5_isWithin (Or.inl ml_X5_53) dX5_apprentice_3 (by decide) rfl rfl (Nat.le_of_ble_eq_true rfl) ⟨rfl, rfl⟩ ?_
  refine px_if_eqB 28 dX5_apprentice_6 (by decide) (fun c6 => ?_) (fun c6 => ?_)
  · refine px_iconst (v := -1) dX5_apprentice_28 (by decide) ?_
    exact px_iret dX5_apprentice_29 rfl rfl rfl ⟨rfl, rfl⟩
  · refine px_iload_n dX5_apprentice_9 rfl ?_
    refine px_iconst (v := nI 0) dX5_apprentice_10 (by decide) ?_
    refine px_iconst (v := nI 3) dX5_apprentice_11 (by decide) ?_
    refine px_si (c_X5_isWithin (s) (nI 0) (nI 3)) mw_X5_isWithin wt_X5_isWithin (Or.inl ml_X5_53) dX5_apprentice_12 (by decide) rfl rfl (Nat.le_of_ble_eq_true rfl) ⟨rfl, rfl⟩ ?_
    refine px_if_eqB 28 dX5_apprentice_15 (by decide) (fun c15 => ?_) (fun c15 => ?_)
    · refine px_iconst (v := -1) dX5_apprentice_28 (by decide) ?_
      exact px_iret dX5_apprentice_29 rfl rfl rfl ⟨rfl, rfl⟩
    · refine px_iload_n dX5_apprentice_18 rfl ?_
      refine px_iconst (v := nI 0) dX5_apprentice_19 (by decide) ?_
      refine px_bipush (v := nI 9) dX5_apprentice_20 (by decide) ?_
      refine px_si (c_X5_isWithin (c) (nI 0) (nI 9)) mw_X5_isWithin wt_X5_isWithin (Or.inl ml_X5_53) dX5_apprentice_22 (by decide) rfl rfl (Nat.le_of_ble_eq_true rfl) ⟨rfl, rfl⟩ ?_
      refine px_if_neB 30 dX5_apprentice_25 (by decide) (fun c25 => ?_) (fun c25 => ?_)
      · exact absurd ⟨of_decide_eq_true c6, of_decide_eq_true c15, of_decide_eq_true c25⟩ hx
      · refine px_iconst (v := -1) dX5_apprentice_28 (by decide) ?_
        exact px_iret dX5_apprentice_29 rfl rfl rfl ⟨rfl, rfl⟩
set_option maxHeartbeats 4000000 in
set_option maxRecDepth 100000 in
theorem c_X5_apprentice_f {E : xE} {h : xHp} {z : Nat} {O : xO} (hOK : tOK (O.1.1 0)) (k s c : Nat) (hk : k ≤ 4) (hs : s ≤ 3) (hc : c ≤ 9) (ha : 6 ≤ (O.1.1 0).2 0) : PMI E mX5_apprentice [.ref z, .int (nI k), .int (nI s), .int (nI c)] (RO E h z O) (-3) (RO E h z O) := by
  refine pm_of [some (.ref z), some (.int (nI k)), some (.int (nI s)), some (.int (nI c))] (by decide +kernel) (Nat.le_of_ble_eq_true rfl) rfl ?_
  refine px_iload_n dX5_apprentice_0 rfl ?_
  refine px_iconst (v := nI 0) dX5_apprentice_1 (by decide) ?_
  refine px_iconst (v := nI 4) dX5_apprentice_2 (by decide) ?_
  refine px_si (c_X5_isWithin (nI k) (nI 0) (nI 4)) mw_X5_isWithin wt_X5_isWithin (Or.inl ml_X5_53) dX5_apprentice_3 (by decide) rfl rfl (Nat.le_of_ble_eq_true rfl) ⟨rfl, rfl⟩ ?_
  refine px_if_eqB 28 dX5_apprentice_6 (by decide) (fun c6 => ?_) (fun c6 => ?_)
  · rw [in_t (by omega) (by omega) (by decide)] at c6
    cases c6
  · refine px_iload_n dX5_apprentice_9 rfl ?_
    refine px_iconst (v := nI 0) dX5_apprentice_10 (by decide) ?_
    refine px_iconst (v := nI 3) dX5_apprentice_11 (by decide) ?_
    refine px_si (c_X5_isWithin (nI s) (nI 0) (nI 3)) mw_X5_isWithin wt_X5_isWithin (Or.inl ml_X5_53) dX5_apprentice_12 (by decide) rfl rfl (Nat.le_of_ble_eq_true rfl) ⟨rfl, rfl⟩ ?_
    refine px_if_eqB 28 dX5_apprentice_15 (by decide) (fun c15 => ?_) (fun c15 => ?_)
    · rw [in_t (by omega) (by omega) (by decide)] at c15
      cases c15
    · refine px_iload_n dX5_apprentice_18 rfl ?_
      refine px_iconst (v := nI 0) dX5_apprentice_19 (by decide) ?_
      refine px_bipush (v := nI 9) dX5_apprentice_20 (by decide) ?_
      refine px_si (c_X5_isWithin (nI c) (nI 0) (nI 9)) mw_X5_isWithin wt_X5_isWithin (Or.inl ml_X5_53) dX5_apprentice_22 (by decide) rfl rfl (Nat.le_of_ble_eq_true rfl) ⟨rfl, rfl⟩ ?_
      refine px_if_neB 30 dX5_apprentice_25 (by decide) (fun c25 => ?_) (fun c25 => ?_)
      · refine px_aload_n dX5_apprentice_30 rfl ?_
        refine px_get xk_X5 0 dX5_apprentice_31 (Or.inl fl_X5_10) RO_obj (by decide) rfl ?_
        refine px_heap ro_t0a.symm ?_
        refine px_tS 0 dX5_apprentice_34 (Or.inr ⟨_, fl_X5_57⟩) (by decide) ?_
        refine px_heap ro_t0a ?_
        refine px_bipush (v := nI 6) dX5_apprentice_37 (by decide) ?_
        refine px_icmp_ltN 45 dX5_apprentice_39 (by decide) (by first | omega | exact hOK.lt (by decide) | exact hOK.lts (by decide)) (by first | omega | exact hOK.lt (by decide) | exact hOK.lts (by decide)) (fun c39 => ?_) (fun c39 => ?_)
        · omega
        · refine px_bipush (v := -3) dX5_apprentice_42 (by decide) ?_
          exact px_iret dX5_apprentice_44 rfl rfl rfl ⟨rfl, rfl⟩
      · rw [in_t (by omega) (by omega) (by decide)] at c25
        cases c25
set_option maxHeartbeats 4000000 in
set_option maxRecDepth 100000 in
theorem c_X5_apprentice {E : xE} {h : xHp} {z : Nat} {O : xO} (hOK : tOK (O.1.1 0)) (k s c : Nat) (hk : k ≤ 4) (hs : s ≤ 3) (hc : c ≤ 9) (ha : (O.1.1 0).2 0 < 6) : PMI E mX5_apprentice [.ref z, .int (nI k), .int (nI s), .int (nI c)] (RO E h z O) (nI ((O.1.1 0).2 0)) (RO E h z (oT (oP O 0 ((O.1.2 0).1, (O.1.2 0).2.1, 0)) 0 (taddA (O.1.1 0) k s c))) := by
  refine pm_of [some (.ref z), some (.int (nI k)), some (.int (nI s)), some (.int (nI c))] (by decide +kernel) (Nat.le_of_ble_eq_true rfl) rfl ?_
  refine px_iload_n dX5_apprentice_0 rfl ?_
  refine px_iconst (v := nI 0) dX5_apprentice_1 (by decide) ?_
  refine px_iconst (v := nI 4) dX5_apprentice_2 (by decide) ?_
  refine px_si (c_X5_isWithin (nI k) (nI 0) (nI 4)) mw_X5_isWithin wt_X5_isWithin (Or.inl ml_X5_53) dX5_apprentice_3 (by decide) rfl rfl (Nat.le_of_ble_eq_true rfl) ⟨rfl, rfl⟩ ?_
  refine px_if_eqB 28 dX5_apprentice_6 (by decide) (fun c6 => ?_) (fun c6 => ?_)
  · rw [in_t (by omega) (by omega) (by decide)] at c6
    cases c6
  · refine px_iload_n dX5_apprentice_9 rfl ?_
    refine px_iconst (v := nI 0) dX5_apprentice_10 (by decide) ?_
    refine px_iconst (v := nI 3) dX5_apprentice_11 (by decide) ?_
    refine px_si (c_X5_isWithin (nI s) (nI 0) (nI 3)) mw_X5_isWithin wt_X5_isWithin (Or.inl ml_X5_53) dX5_apprentice_12 (by decide) rfl rfl (Nat.le_of_ble_eq_true rfl) ⟨rfl, rfl⟩ ?_
    refine px_if_eqB 28 dX5_apprentice_15 (by decide) (fun c15 => ?_) (fun c15 => ?_)
    · rw [in_t (by omega) (by omega) (by decide)] at c15
      cases c15
    · refine px_iload_n dX5_apprentice_18 rfl ?_
      refine px_iconst (v := nI 0) dX5_apprentice_19 (by decide) ?_
      refine px_bipush (v := nI 9) dX5_apprentice_20 (by decide) ?_
      refine px_si (c_X5_isWithin (nI c) (nI 0) (nI 9)) mw_X5_isWithin wt_X5_isWithin (Or.inl ml_X5_53) dX5_apprentice_22 (by decide) rfl rfl (Nat.le_of_ble_eq_true rfl) ⟨rfl, rfl⟩ ?_
      refine px_if_neB 30 dX5_apprentice_25 (by decide) (fun c25 => ?_) (fun c25 => ?_)
      · refine px_aload_n dX5_apprentice_30 rfl ?_
        refine px_get xk_X5 0 dX5_apprentice_31 (Or.inl fl_X5_10) RO_obj (by decide) rfl ?_
        refine px_heap ro_t0a.symm ?_
        refine px_tS 0 dX5_apprentice_34 (Or.inr ⟨_, fl_X5_57⟩) (by decide) ?_
        refine px_heap ro_t0a ?_
        refine px_bipush (v := nI 6) dX5_apprentice_37 (by decide) ?_
        refine px_icmp_ltN 45 dX5_apprentice_39 (by decide) (by first | omega | exact hOK.lt (by decide) | exact hOK.lts (by decide)) (by first | omega | exact hOK.lt (by decide) | exact hOK.lts (by decide)) (fun c39 => ?_) (fun c39 => ?_)
        · refine px_aload_n dX5_apprentice_45 rfl ?_
          refine px_get xk_X5 1 dX5_apprentice_46 (Or.inl fl_X5_19) RO_obj (by decide) rfl ?_
          refine px_vv (M2 := mX1_forget) (op0v c_X1_forget) mw_X1_forget wm_X1_forget we_X1_forget (Or.inr ⟨_, ml_X5_61⟩) dX5_apprentice_49 (ro_q0) rfl (by decide) rfl rfl (Nat.le_of_ble_eq_true rfl) ⟨rfl, rfl⟩ ?_
          refine px_aload_n dX5_apprentice_52 rfl ?_
          refine px_get xk_X5 0 dX5_apprentice_53 (Or.inl fl_X5_10) RO_obj (by decide) rfl ?_
          refine px_iload_n dX5_apprentice_56 rfl ?_
          refine px_iload_n dX5_apprentice_57 rfl ?_
          refine px_iload_n dX5_apprentice_58 rfl ?_
          refine px_vi (M2 := mX4_addApprentice) (on0 (c_X4_addApprentice (T := (oP O 0 ((O.1.2 0).1, (O.1.2 0).2.1, 0)).1.1 0) hOK k s c ha)) mw_X4_addApprentice wm_X4_addApprentice we_X4_addApprentice (Or.inr ⟨_, ml_X5_64⟩) dX5_apprentice_59 (ro_o0) rfl (by decide) rfl rfl (Nat.le_of_ble_eq_true rfl) ⟨rfl, rfl⟩ ?_
          exact px_iret dX5_apprentice_62 rfl rfl rfl ⟨rfl, rfl⟩
        · omega
      · rw [in_t (by omega) (by omega) (by decide)] at c25
        cases c25
set_option maxHeartbeats 4000000 in
set_option maxRecDepth 100000 in
theorem c_X5_thief_n {E : xE} {h : xHp} {z : Nat} {O : xO} (k w : Int32) (hx : ¬ ((nI 0 ≤ k ∧ k ≤ nI 9) ∧ (nI 0 ≤ w ∧ w ≤ nI 4))) : PMI E mX5_thief [.ref z, .int k, .int w] (RO E h z O) (-1) (RO E h z O) := by
  refine pm_of [some (.ref z), some (.int k), some (.int w)] (by decide +kernel) (Nat.le_of_ble_eq_true rfl) rfl ?_
  refine px_iload_n dX5_thief_0 rfl ?_
  refine px_iconst (v := nI 0) dX5_thief_1 (by decide) ?_
  refine px_bipush (v := nI 9) dX5_thief_2 (by decide) ?_
  refine px_si (c_X5_isWithin (k) (nI 0) (nI 9)) mw_X5_isWithin wt_X5_isWithin (Or.inl ml_X5_53) dX5_thief_4 (by decide) rfl rfl (Nat.le_of_ble_eq_true rfl) ⟨rfl, rfl⟩ ?_
  refine px_if_eqB 19 dX5_thief_7 (by decide) (fun c7 => ?_) (fun c7 => ?_)
  · refine px_iconst (v := -1) dX5_thief_19 (by decide) ?_
    exact px_iret dX5_thief_20 rfl rfl rfl ⟨rfl, rfl⟩
  · refine px_iload_n dX5_thief_10 rfl ?_
    refine px_iconst (v := nI 0) dX5_thief_11 (by decide) ?_
    refine px_iconst (v := nI 4) dX5_thief_12 (by decide) ?_
    refine px_si (c_X5_isWithin (w) (nI 0) (nI 4)) mw_X5_isWithin wt_X5_isWithin (Or.inl ml_X5_53) dX5_thief_13 (by decide) rfl rfl (Nat.le_of_ble_eq_true rfl) ⟨rfl, rfl⟩ ?_
    refine px_if_neB 21 dX5_thief_16 (by decide) (fun c16 => ?_) (fun c16 => ?_)
    · exact absurd ⟨of_decide_eq_true c7, of_decide_eq_true c16⟩ hx
    · refine px_iconst (v := -1) dX5_thief_19 (by decide) ?_
      exact px_iret dX5_thief_20 rfl rfl rfl ⟨rfl, rfl⟩
set_option maxHeartbeats 4000000 in
set_option maxRecDepth 100000 in
theorem c_X5_thief_f {E : xE} {h : xHp} {z : Nat} {O : xO} (hOK : tOK (O.1.1 0)) (k w : Nat) (hk : k ≤ 9) (hw : w ≤ 4) (ha : 4 ≤ (O.1.1 0).2 1) : PMI E mX5_thief [.ref z, .int (nI k), .int (nI w)] (RO E h z O) (-3) (RO E h z O) := by
  refine pm_of [some (.ref z), some (.int (nI k)), some (.int (nI w))] (by decide +kernel) (Nat.le_of_ble_eq_true rfl) rfl ?_
  refine px_iload_n dX5_thief_0 rfl ?_
  refine px_iconst (v := nI 0) dX5_thief_1 (by decide) ?_
  refine px_bipush (v := nI 9) dX5_thief_2 (by decide) ?_
  refine px_si (c_X5_isWithin (nI k) (nI 0) (nI 9)) mw_X5_isWithin wt_X5_isWithin (Or.inl ml_X5_53) dX5_thief_4 (by decide) rfl rfl (Nat.le_of_ble_eq_true rfl) ⟨rfl, rfl⟩ ?_
  refine px_if_eqB 19 dX5_thief_7 (by decide) (fun c7 => ?_) (fun c7 => ?_)
  · rw [in_t (by omega) (by omega) (by decide)] at c7
    cases c7
  · refine px_iload_n dX5_thief_10 rfl ?_
    refine px_iconst (v := nI 0) dX5_thief_11 (by decide) ?_
    refine px_iconst (v := nI 4) dX5_thief_12 (by decide) ?_
    refine px_si (c_X5_isWithin (nI w) (nI 0) (nI 4)) mw_X5_isWithin wt_X5_isWithin (Or.inl ml_X5_53) dX5_thief_13 (by decide) rfl rfl (Nat.le_of_ble_eq_true rfl) ⟨rfl, rfl⟩ ?_
    refine px_if_neB 21 dX5_thief_16 (by decide) (fun c16 => ?_) (fun c16 => ?_)
    · refine px_aload_n dX5_thief_21 rfl ?_
      refine px_get xk_X5 0 dX5_thief_22 (Or.inl fl_X5_10) RO_obj (by decide) rfl ?_
      refine px_heap ro_t0a.symm ?_
      refine px_tS 1 dX5_thief_25 (Or.inr ⟨_, fl_X5_68⟩) (by decide) ?_
      refine px_heap ro_t0a ?_
      refine px_iconst (v := nI 4) dX5_thief_28 (by decide) ?_
      refine px_icmp_ltN 35 dX5_thief_29 (by decide) (by first | omega | exact hOK.lt (by decide) | exact hOK.lts (by decide)) (by first | omega | exact hOK.lt (by decide) | exact hOK.lts (by decide)) (fun c29 => ?_) (fun c29 => ?_)
      · omega
      · refine px_bipush (v := -3) dX5_thief_32 (by decide) ?_
        exact px_iret dX5_thief_34 rfl rfl rfl ⟨rfl, rfl⟩
    · rw [in_t (by omega) (by omega) (by decide)] at c16
      cases c16
set_option maxHeartbeats 4000000 in
set_option maxRecDepth 100000 in
theorem c_X5_thief {E : xE} {h : xHp} {z : Nat} {O : xO} (hOK : tOK (O.1.1 0)) (k w : Nat) (hk : k ≤ 9) (hw : w ≤ 4) (ha : (O.1.1 0).2 1 < 4) : PMI E mX5_thief [.ref z, .int (nI k), .int (nI w)] (RO E h z O) (nI ((O.1.1 0).2 1)) (RO E h z (oT (oP O 0 ((O.1.2 0).1, (O.1.2 0).2.1, 0)) 0 (taddT (O.1.1 0) k w))) := by
  refine pm_of [some (.ref z), some (.int (nI k)), some (.int (nI w))] (by decide +kernel) (Nat.le_of_ble_eq_true rfl) rfl ?_
  refine px_iload_n dX5_thief_0 rfl ?_
  refine px_iconst (v := nI 0) dX5_thief_1 (by decide) ?_
  refine px_bipush (v := nI 9) dX5_thief_2 (by decide) ?_
  refine px_si (c_X5_isWithin (nI k) (nI 0) (nI 9)) mw_X5_isWithin wt_X5_isWithin (Or.inl ml_X5_53) dX5_thief_4 (by decide) rfl rfl (Nat.le_of_ble_eq_true rfl) ⟨rfl, rfl⟩ ?_
  refine px_if_eqB 19 dX5_thief_7 (by decide) (fun c7 => ?_) (fun c7 => ?_)
  · rw [in_t (by omega) (by omega) (by decide)] at c7
    cases c7
  · refine px_iload_n dX5_thief_10 rfl ?_
    refine px_iconst (v := nI 0) dX5_thief_11 (by decide) ?_
    refine px_iconst (v := nI 4) dX5_thief_12 (by decide) ?_
    refine px_si (c_X5_isWithin (nI w) (nI 0) (nI 4)) mw_X5_isWithin wt_X5_isWithin (Or.inl ml_X5_53) dX5_thief_13 (by decide) rfl rfl (Nat.le_of_ble_eq_true rfl) ⟨rfl, rfl⟩ ?_
    refine px_if_neB 21 dX5_thief_16 (by decide) (fun c16 => ?_) (fun c16 => ?_)
    · refine px_aload_n dX5_thief_21 rfl ?_
      refine px_get xk_X5 0 dX5_thief_22 (Or.inl fl_X5_10) RO_obj (by decide) rfl ?_
      refine px_heap ro_t0a.symm ?_
      refine px_tS 1 dX5_thief_25 (Or.inr ⟨_, fl_X5_68⟩) (by decide) ?_
      refine px_heap ro_t0a ?_
      refine px_iconst (v := nI 4) dX5_thief_28 (by decide) ?_
      refine px_icmp_ltN 35 dX5_thief_29 (by decide) (by first | omega | exact hOK.lt (by decide) | exact hOK.lts (by decide)) (by first | omega | exact hOK.lt (by decide) | exact hOK.lts (by decide)) (fun c29 => ?_) (fun c29 => ?_)
      · refine px_aload_n dX5_thief_35 rfl ?_
        refine px_get xk_X5 1 dX5_thief_36 (Or.inl fl_X5_19) RO_obj (by decide) rfl ?_
        refine px_vv (M2 := mX1_forget) (op0v c_X1_forget) mw_X1_forget wm_X1_forget we_X1_forget (Or.inr ⟨_, ml_X5_61⟩) dX5_thief_39 (ro_q0) rfl (by decide) rfl rfl (Nat.le_of_ble_eq_true rfl) ⟨rfl, rfl⟩ ?_
        refine px_aload_n dX5_thief_42 rfl ?_
        refine px_get xk_X5 0 dX5_thief_43 (Or.inl fl_X5_10) RO_obj (by decide) rfl ?_
        refine px_iload_n dX5_thief_46 rfl ?_
        refine px_iload_n dX5_thief_47 rfl ?_
        refine px_vi (M2 := mX4_addThief) (on0 (c_X4_addThief (T := (oP O 0 ((O.1.2 0).1, (O.1.2 0).2.1, 0)).1.1 0) hOK k w ha)) mw_X4_addThief wm_X4_addThief we_X4_addThief (Or.inr ⟨_, ml_X5_71⟩) dX5_thief_48 (ro_o0) rfl (by decide) rfl rfl (Nat.le_of_ble_eq_true rfl) ⟨rfl, rfl⟩ ?_
        exact px_iret dX5_thief_51 rfl rfl rfl ⟨rfl, rfl⟩
      · omega
    · rw [in_t (by omega) (by omega) (by decide)] at c16
      cases c16
def tof (T : xT) (a w : Nat) : Nat := if w = 0 then T.1 0 a else if w = 1 then T.1 1 a else if w = 2 then T.1 2 a else if w = 3 then T.1 3 a else if w = 4 then ((T.2 2).testBit a).toNat else if w = 5 then ((T.2 3).testBit a).toNat else twho T a (T.2 1)
def tat (T : xT) (t w : Nat) : Nat := if w = 0 then T.1 4 t else if w = 1 then T.1 5 t else twhom T t (T.2 0)
def tcnt (T : xT) (kn w : Nat) : Nat := if w = 0 then T.2 0 else if w = 1 then T.2 1 else if w = 2 then T.2 4 else if w = 3 then T.2 5 else if w = 4 then T.2 3 else if w = 5 then T.2 2 else if w = 6 then tsum T (T.2 0) else kn
set_option maxHeartbeats 4000000 in
set_option maxRecDepth 100000 in
theorem c_X5_of_n {E : xE} {h : xHp} {z : Nat} {O : xO} (x w : Int32) (hx : ¬ (0 ≤ x ∧ x < nI ((O.1.1 0).2 0))) : PMI E mX5_of [.ref z, .int x, .int w] (RO E h z O) (-1) (RO E h z O) := by
  refine pm_of [some (.ref z), some (.int x), some (.int w)] (by decide +kernel) (Nat.le_of_ble_eq_true rfl) rfl ?_
  refine px_aload_n dX5_of_0 rfl ?_
  refine px_iload_n dX5_of_1 rfl ?_
  refine px_vi (M2 := mX5_isApprentice) (c_isA_n hx) mw_X5_isApprentice wm_X5_isApprentice we_X5_isApprentice (Or.inl ml_X5_78) dX5_of_2 (RO_obj) rfl (by decide) rfl rfl (Nat.le_of_ble_eq_true rfl) ⟨rfl, rfl⟩ ?_
  refine px_if_neB 10 dX5_of_5 (by decide) (fun c5 => ?_) (fun c5 => ?_)
  · cases c5
  · refine px_iconst (v := -1) dX5_of_8 (by decide) ?_
    exact px_iret dX5_of_9 rfl rfl rfl ⟨rfl, rfl⟩
set_option maxHeartbeats 4000000 in
set_option maxRecDepth 100000 in
theorem c_X5_of_w {E : xE} {h : xHp} {z : Nat} {O : xO} (hOK : tOK (O.1.1 0)) (a : Nat) (w : Int32) (ha : a < (O.1.1 0).2 0) (hw : w.toInt < 0 ∨ 6 < w.toInt) : PMI E mX5_of [.ref z, .int (nI a), .int w] (RO E h z O) (-1) (RO E h z O) := by
  refine pm_of [some (.ref z), some (.int (nI a)), some (.int w)] (by decide +kernel) (Nat.le_of_ble_eq_true rfl) rfl ?_
  refine px_aload_n dX5_of_0 rfl ?_
  refine px_iload_n dX5_of_1 rfl ?_
  refine px_vi (M2 := mX5_isApprentice) (c_isA_y ha (by have := hOK.1.1; omega)) mw_X5_isApprentice wm_X5_isApprentice we_X5_isApprentice (Or.inl ml_X5_78) dX5_of_2 (RO_obj) rfl (by decide) rfl rfl (Nat.le_of_ble_eq_true rfl) ⟨rfl, rfl⟩ ?_
  refine px_if_neB 10 dX5_of_5 (by decide) (fun c5 => ?_) (fun c5 => ?_)
  · refine px_iload_n dX5_of_10 rfl ?_
    refine px_tabOut 141 dX5_of_11 hw (by decide) ?_
    refine px_iconst (v := -1) dX5_of_141 (by decide) ?_
    exact px_iret dX5_of_142 rfl rfl rfl ⟨rfl, rfl⟩
  · cases c5
set_option maxHeartbeats 4000000 in
set_option maxRecDepth 100000 in
theorem c_X5_of {E : xE} {h : xHp} {z : Nat} {O : xO} (hOK : tOK (O.1.1 0)) (a w : Nat) (ha : a < (O.1.1 0).2 0) (hw : w < 7) : PMI E mX5_of [.ref z, .int (nI a), .int (nI w)] (RO E h z O) (nI (tof (O.1.1 0) a w)) (RO E h z O) := by
  have hm6 := hOK.1.1
  refine pm_of [some (.ref z), some (.int (nI a)), some (.int (nI w))] (by decide +kernel) (Nat.le_of_ble_eq_true rfl) rfl ?_
  refine px_aload_n dX5_of_0 rfl ?_
  refine px_iload_n dX5_of_1 rfl ?_
  refine px_vi (M2 := mX5_isApprentice) (c_isA_y ha (by have := hOK.1.1; omega)) mw_X5_isApprentice wm_X5_isApprentice we_X5_isApprentice (Or.inl ml_X5_78) dX5_of_2 (RO_obj) rfl (by decide) rfl rfl (Nat.le_of_ble_eq_true rfl) ⟨rfl, rfl⟩ ?_
  refine px_if_neB 10 dX5_of_5 (by decide) (fun c5 => ?_) (fun c5 => ?_)
  · refine px_iload_n dX5_of_10 rfl ?_
    have hww : w = 0 ∨ w = 1 ∨ w = 2 ∨ w = 3 ∨ w = 4 ∨ w = 5 ∨ w = 6 := by omega
    rcases hww with hw0 | hw0 | hw0 | hw0 | hw0 | hw0 | hw0
    · subst hw0
      refine px_tabIn 52 dX5_of_11 (by decide) (by decide) rfl (by decide) ?_
      refine px_aload_n dX5_of_52 rfl ?_
      refine px_get xk_X5 0 dX5_of_53 (Or.inl fl_X5_10) RO_obj (by decide) rfl ?_
      refine px_heap ro_t0a.symm ?_
      refine px_tR 0 dX5_of_56 (Or.inr ⟨_, fl_X5_82⟩) (by decide) ?_
      refine px_heap ro_t0a ?_
      refine px_iload_n dX5_of_59 rfl ?_
      refine px_heap ro_t0a.symm ?_
      refine px_tL 0 dX5_of_60 (by decide) (by show _ < 6; omega) ?_
      refine px_heap ro_t0a ?_
      exact px_iret dX5_of_61 rfl rfl rfl ⟨rfl, rfl⟩
    · subst hw0
      refine px_tabIn 62 dX5_of_11 (by decide) (by decide) rfl (by decide) ?_
      refine px_aload_n dX5_of_62 rfl ?_
      refine px_get xk_X5 0 dX5_of_63 (Or.inl fl_X5_10) RO_obj (by decide) rfl ?_
      refine px_heap ro_t0a.symm ?_
      refine px_tR 1 dX5_of_66 (Or.inr ⟨_, fl_X5_86⟩) (by decide) ?_
      refine px_heap ro_t0a ?_
      refine px_iload_n dX5_of_69 rfl ?_
      refine px_heap ro_t0a.symm ?_
      refine px_tL 1 dX5_of_70 (by decide) (by show _ < 6; omega) ?_
      refine px_heap ro_t0a ?_
      exact px_iret dX5_of_71 rfl rfl rfl ⟨rfl, rfl⟩
    · subst hw0
      refine px_tabIn 72 dX5_of_11 (by decide) (by decide) rfl (by decide) ?_
      refine px_aload_n dX5_of_72 rfl ?_
      refine px_get xk_X5 0 dX5_of_73 (Or.inl fl_X5_10) RO_obj (by decide) rfl ?_
      refine px_heap ro_t0a.symm ?_
      refine px_tR 2 dX5_of_76 (Or.inr ⟨_, fl_X5_89⟩) (by decide) ?_
      refine px_heap ro_t0a ?_
      refine px_iload_n dX5_of_79 rfl ?_
      refine px_heap ro_t0a.symm ?_
      refine px_tL 2 dX5_of_80 (by decide) (by show _ < 6; omega) ?_
      refine px_heap ro_t0a ?_
      exact px_iret dX5_of_81 rfl rfl rfl ⟨rfl, rfl⟩
    · subst hw0
      refine px_tabIn 82 dX5_of_11 (by decide) (by decide) rfl (by decide) ?_
      refine px_aload_n dX5_of_82 rfl ?_
      refine px_get xk_X5 0 dX5_of_83 (Or.inl fl_X5_10) RO_obj (by decide) rfl ?_
      refine px_heap ro_t0a.symm ?_
      refine px_tR 3 dX5_of_86 (Or.inr ⟨_, fl_X5_92⟩) (by decide) ?_
      refine px_heap ro_t0a ?_
      refine px_iload_n dX5_of_89 rfl ?_
      refine px_heap ro_t0a.symm ?_
      refine px_tL 3 dX5_of_90 (by decide) (by show _ < 6; omega) ?_
      refine px_heap ro_t0a ?_
      exact px_iret dX5_of_91 rfl rfl rfl ⟨rfl, rfl⟩
    · subst hw0
      refine px_tabIn 92 dX5_of_11 (by decide) (by decide) rfl (by decide) ?_
      refine px_aload_n dX5_of_92 rfl ?_
      refine px_get xk_X5 0 dX5_of_93 (Or.inl fl_X5_10) RO_obj (by decide) rfl ?_
      refine px_heap ro_t0a.symm ?_
      refine px_tS 2 dX5_of_96 (Or.inr ⟨_, fl_X5_95⟩) (by decide) ?_
      refine px_heap ro_t0a ?_
      refine px_iload_n dX5_of_99 rfl ?_
      refine px_si (c_X5_has_n ((O.1.1 0).2 2) a (by have := hOK.1.2.2.1; omega) (by omega)) mw_X5_has wt_X5_has (Or.inl ml_X5_98) dX5_of_100 (by decide) rfl rfl (Nat.le_of_ble_eq_true rfl) ⟨rfl, rfl⟩ ?_
      refine px_if_eqB 110 dX5_of_103 (by decide) (fun c103 => ?_) (fun c103 => ?_)
      · refine px_iconst (v := nI 0) dX5_of_110 (by decide) ?_
        exact px_iret dX5_of_111 rfl rfl rfl ⟨by rw [show tof (O.1.1 0) a 4 = (((O.1.1 0).2 2).testBit a).toNat from rfl, c103]; rfl, rfl⟩
      · refine px_iconst (v := nI 1) dX5_of_106 (by decide) ?_
        refine px_goto 111 dX5_of_107 (by decide) ?_
        exact px_iret dX5_of_111 rfl rfl rfl ⟨by rw [show tof (O.1.1 0) a 4 = (((O.1.1 0).2 2).testBit a).toNat from rfl, c103]; rfl, rfl⟩
    · subst hw0
      refine px_tabIn 112 dX5_of_11 (by decide) (by decide) rfl (by decide) ?_
      refine px_aload_n dX5_of_112 rfl ?_
      refine px_get xk_X5 0 dX5_of_113 (Or.inl fl_X5_10) RO_obj (by decide) rfl ?_
      refine px_heap ro_t0a.symm ?_
      refine px_tS 3 dX5_of_116 (Or.inr ⟨_, fl_X5_102⟩) (by decide) ?_
      refine px_heap ro_t0a ?_
      refine px_iload_n dX5_of_119 rfl ?_
      refine px_si (c_X5_has_n ((O.1.1 0).2 3) a (by have := hOK.1.2.2.2.1; omega) (by omega)) mw_X5_has wt_X5_has (Or.inl ml_X5_98) dX5_of_120 (by decide) rfl rfl (Nat.le_of_ble_eq_true rfl) ⟨rfl, rfl⟩ ?_
      refine px_if_eqB 130 dX5_of_123 (by decide) (fun c123 => ?_) (fun c123 => ?_)
      · refine px_iconst (v := nI 0) dX5_of_130 (by decide) ?_
        exact px_iret dX5_of_131 rfl rfl rfl ⟨by rw [show tof (O.1.1 0) a 5 = (((O.1.1 0).2 3).testBit a).toNat from rfl, c123]; rfl, rfl⟩
      · refine px_iconst (v := nI 1) dX5_of_126 (by decide) ?_
        refine px_goto 131 dX5_of_127 (by decide) ?_
        exact px_iret dX5_of_131 rfl rfl rfl ⟨by rw [show tof (O.1.1 0) a 5 = (((O.1.1 0).2 3).testBit a).toNat from rfl, c123]; rfl, rfl⟩
    · subst hw0
      refine px_tabIn 132 dX5_of_11 (by decide) (by decide) rfl (by decide) ?_
      refine px_aload_n dX5_of_132 rfl ?_
      refine px_get xk_X5 0 dX5_of_133 (Or.inl fl_X5_10) RO_obj (by decide) rfl ?_
      refine px_iload_n dX5_of_136 rfl ?_
      refine px_vi (M2 := mX4_thievesWhoMayRob) (on0r (c_X4_thievesWhoMayRob hOK a (by omega))) mw_X4_thievesWhoMayRob wm_X4_thievesWhoMayRob we_X4_thievesWhoMayRob (Or.inr ⟨_, ml_X5_105⟩) dX5_of_137 (ro_o0) rfl (by decide) rfl rfl (Nat.le_of_ble_eq_true rfl) ⟨rfl, rfl⟩ ?_
      exact px_iret dX5_of_140 rfl rfl rfl ⟨rfl, rfl⟩
  · cases c5
set_option maxHeartbeats 4000000 in
set_option maxRecDepth 100000 in
theorem c_X5_at_n {E : xE} {h : xHp} {z : Nat} {O : xO} (x w : Int32) (hx : ¬ (0 ≤ x ∧ x < nI ((O.1.1 0).2 1))) : PMI E mX5_at [.ref z, .int x, .int w] (RO E h z O) (-1) (RO E h z O) := by
  refine pm_of [some (.ref z), some (.int x), some (.int w)] (by decide +kernel) (Nat.le_of_ble_eq_true rfl) rfl ?_
  refine px_aload_n dX5_at_0 rfl ?_
  refine px_iload_n dX5_at_1 rfl ?_
  refine px_vi (M2 := mX5_isThief) (c_isT_n hx) mw_X5_isThief wm_X5_isThief we_X5_isThief (Or.inl ml_X5_109) dX5_at_2 (RO_obj) rfl (by decide) rfl rfl (Nat.le_of_ble_eq_true rfl) ⟨rfl, rfl⟩ ?_
  refine px_if_neB 10 dX5_at_5 (by decide) (fun c5 => ?_) (fun c5 => ?_)
  · cases c5
  · refine px_iconst (v := -1) dX5_at_8 (by decide) ?_
    exact px_iret dX5_at_9 rfl rfl rfl ⟨rfl, rfl⟩
set_option maxHeartbeats 4000000 in
set_option maxRecDepth 100000 in
theorem c_X5_at_w {E : xE} {h : xHp} {z : Nat} {O : xO} (hOK : tOK (O.1.1 0)) (t : Nat) (w : Int32) (ht : t < (O.1.1 0).2 1) (hw : w.toInt < 0 ∨ 2 < w.toInt) : PMI E mX5_at [.ref z, .int (nI t), .int w] (RO E h z O) (-1) (RO E h z O) := by
  refine pm_of [some (.ref z), some (.int (nI t)), some (.int w)] (by decide +kernel) (Nat.le_of_ble_eq_true rfl) rfl ?_
  refine px_aload_n dX5_at_0 rfl ?_
  refine px_iload_n dX5_at_1 rfl ?_
  refine px_vi (M2 := mX5_isThief) (c_isT_y ht (by have := hOK.1.2.1; omega)) mw_X5_isThief wm_X5_isThief we_X5_isThief (Or.inl ml_X5_109) dX5_at_2 (RO_obj) rfl (by decide) rfl rfl (Nat.le_of_ble_eq_true rfl) ⟨rfl, rfl⟩ ?_
  refine px_if_neB 10 dX5_at_5 (by decide) (fun c5 => ?_) (fun c5 => ?_)
  · refine px_iload_n dX5_at_10 rfl ?_
    refine px_tabOut 65 dX5_at_11 hw (by decide) ?_
    refine px_iconst (v := -1) dX5_at_65 (by decide) ?_
    exact px_iret dX5_at_66 rfl rfl rfl ⟨rfl, rfl⟩
  · cases c5
set_option maxHeartbeats 4000000 in
set_option maxRecDepth 100000 in
theorem c_X5_at {E : xE} {h : xHp} {z : Nat} {O : xO} (hOK : tOK (O.1.1 0)) (t w : Nat) (ht : t < (O.1.1 0).2 1) (hw : w < 3) : PMI E mX5_at [.ref z, .int (nI t), .int (nI w)] (RO E h z O) (nI (tat (O.1.1 0) t w)) (RO E h z O) := by
  have hm4 := hOK.1.2.1
  refine pm_of [some (.ref z), some (.int (nI t)), some (.int (nI w))] (by decide +kernel) (Nat.le_of_ble_eq_true rfl) rfl ?_
  refine px_aload_n dX5_at_0 rfl ?_
  refine px_iload_n dX5_at_1 rfl ?_
  refine px_vi (M2 := mX5_isThief) (c_isT_y ht (by have := hOK.1.2.1; omega)) mw_X5_isThief wm_X5_isThief we_X5_isThief (Or.inl ml_X5_109) dX5_at_2 (RO_obj) rfl (by decide) rfl rfl (Nat.le_of_ble_eq_true rfl) ⟨rfl, rfl⟩ ?_
  refine px_if_neB 10 dX5_at_5 (by decide) (fun c5 => ?_) (fun c5 => ?_)
  · refine px_iload_n dX5_at_10 rfl ?_
    have hww : w = 0 ∨ w = 1 ∨ w = 2 := by omega
    rcases hww with hw0 | hw0 | hw0
    · subst hw0
      refine px_tabIn 36 dX5_at_11 (by decide) (by decide) rfl (by decide) ?_
      refine px_aload_n dX5_at_36 rfl ?_
      refine px_get xk_X5 0 dX5_at_37 (Or.inl fl_X5_10) RO_obj (by decide) rfl ?_
      refine px_heap ro_t0a.symm ?_
      refine px_tR 4 dX5_at_40 (Or.inr ⟨_, fl_X5_112⟩) (by decide) ?_
      refine px_heap ro_t0a ?_
      refine px_iload_n dX5_at_43 rfl ?_
      refine px_heap ro_t0a.symm ?_
      refine px_tL 4 dX5_at_44 (by decide) (by show _ < 4; omega) ?_
      refine px_heap ro_t0a ?_
      exact px_iret dX5_at_45 rfl rfl rfl ⟨rfl, rfl⟩
    · subst hw0
      refine px_tabIn 46 dX5_at_11 (by decide) (by decide) rfl (by decide) ?_
      refine px_aload_n dX5_at_46 rfl ?_
      refine px_get xk_X5 0 dX5_at_47 (Or.inl fl_X5_10) RO_obj (by decide) rfl ?_
      refine px_heap ro_t0a.symm ?_
      refine px_tR 5 dX5_at_50 (Or.inr ⟨_, fl_X5_115⟩) (by decide) ?_
      refine px_heap ro_t0a ?_
      refine px_iload_n dX5_at_53 rfl ?_
      refine px_heap ro_t0a.symm ?_
      refine px_tL 5 dX5_at_54 (by decide) (by show _ < 4; omega) ?_
      refine px_heap ro_t0a ?_
      exact px_iret dX5_at_55 rfl rfl rfl ⟨rfl, rfl⟩
    · subst hw0
      refine px_tabIn 56 dX5_at_11 (by decide) (by decide) rfl (by decide) ?_
      refine px_aload_n dX5_at_56 rfl ?_
      refine px_get xk_X5 0 dX5_at_57 (Or.inl fl_X5_10) RO_obj (by decide) rfl ?_
      refine px_iload_n dX5_at_60 rfl ?_
      refine px_vi (M2 := mX4_whomMayRob) (on0r (c_X4_whomMayRob hOK t (by omega))) mw_X4_whomMayRob wm_X4_whomMayRob we_X4_whomMayRob (Or.inr ⟨_, ml_X5_118⟩) dX5_at_61 (ro_o0) rfl (by decide) rfl rfl (Nat.le_of_ble_eq_true rfl) ⟨rfl, rfl⟩ ?_
      exact px_iret dX5_at_64 rfl rfl rfl ⟨rfl, rfl⟩
  · cases c5
set_option maxHeartbeats 4000000 in
set_option maxRecDepth 100000 in
theorem c_X5_count_w {E : xE} {h : xHp} {z : Nat} {O : xO} (w : Int32) (hw : w.toInt < 0 ∨ 7 < w.toInt) : PMI E mX5_count [.ref z, .int w] (RO E h z O) (-1) (RO E h z O) := by
  refine pm_of [some (.ref z), some (.int w)] (by decide +kernel) (Nat.le_of_ble_eq_true rfl) rfl ?_
  refine px_iload_n dX5_count_0 rfl ?_
  refine px_tabOut 112 dX5_count_1 hw (by decide) ?_
  refine px_iconst (v := -1) dX5_count_112 (by decide) ?_
  exact px_iret dX5_count_113 rfl rfl rfl ⟨rfl, rfl⟩
set_option maxHeartbeats 4000000 in
set_option maxRecDepth 100000 in
theorem c_X5_count {E : xE} {h : xHp} {z : Nat} {O : xO} (hOK : tOK (O.1.1 0)) (w : Nat) (hw : w < 8) : PMI E mX5_count [.ref z, .int (nI w)] (RO E h z O) (nI (tcnt (O.1.1 0) (O.1.2 0).2.2 w)) (RO E h z O) := by
  refine pm_of [some (.ref z), some (.int (nI w))] (by decide +kernel) (Nat.le_of_ble_eq_true rfl) rfl ?_
  refine px_iload_n dX5_count_0 rfl ?_
  have hww : w = 0 ∨ w = 1 ∨ w = 2 ∨ w = 3 ∨ w = 4 ∨ w = 5 ∨ w = 6 ∨ w = 7 := by omega
  rcases hww with hw0 | hw0 | hw0 | hw0 | hw0 | hw0 | hw0 | hw0
  · subst hw0
    refine px_tabIn 48 dX5_count_1 (by decide) (by decide) rfl (by decide) ?_
    refine px_aload_n dX5_count_48 rfl ?_
    refine px_get xk_X5 0 dX5_count_49 (Or.inl fl_X5_10) RO_obj (by decide) rfl ?_
    refine px_heap ro_t0a.symm ?_
    refine px_tS 0 dX5_count_52 (Or.inr ⟨_, fl_X5_57⟩) (by decide) ?_
    refine px_heap ro_t0a ?_
    exact px_iret dX5_count_55 rfl rfl rfl ⟨rfl, rfl⟩
  · subst hw0
    refine px_tabIn 56 dX5_count_1 (by decide) (by decide) rfl (by decide) ?_
    refine px_aload_n dX5_count_56 rfl ?_
    refine px_get xk_X5 0 dX5_count_57 (Or.inl fl_X5_10) RO_obj (by decide) rfl ?_
    refine px_heap ro_t0a.symm ?_
    refine px_tS 1 dX5_count_60 (Or.inr ⟨_, fl_X5_68⟩) (by decide) ?_
    refine px_heap ro_t0a ?_
    exact px_iret dX5_count_63 rfl rfl rfl ⟨rfl, rfl⟩
  · subst hw0
    refine px_tabIn 64 dX5_count_1 (by decide) (by decide) rfl (by decide) ?_
    refine px_aload_n dX5_count_64 rfl ?_
    refine px_get xk_X5 0 dX5_count_65 (Or.inl fl_X5_10) RO_obj (by decide) rfl ?_
    refine px_heap ro_t0a.symm ?_
    refine px_tS 4 dX5_count_68 (Or.inr ⟨_, fl_X5_144⟩) (by decide) ?_
    refine px_heap ro_t0a ?_
    exact px_iret dX5_count_71 rfl rfl rfl ⟨rfl, rfl⟩
  · subst hw0
    refine px_tabIn 72 dX5_count_1 (by decide) (by decide) rfl (by decide) ?_
    refine px_aload_n dX5_count_72 rfl ?_
    refine px_get xk_X5 0 dX5_count_73 (Or.inl fl_X5_10) RO_obj (by decide) rfl ?_
    refine px_heap ro_t0a.symm ?_
    refine px_tS 5 dX5_count_76 (Or.inr ⟨_, fl_X5_75⟩) (by decide) ?_
    refine px_heap ro_t0a ?_
    exact px_iret dX5_count_79 rfl rfl rfl ⟨rfl, rfl⟩
  · subst hw0
    refine px_tabIn 80 dX5_count_1 (by decide) (by decide) rfl (by decide) ?_
    refine px_aload_n dX5_count_80 rfl ?_
    refine px_get xk_X5 0 dX5_count_81 (Or.inl fl_X5_10) RO_obj (by decide) rfl ?_
    refine px_heap ro_t0a.symm ?_
    refine px_tS 3 dX5_count_84 (Or.inr ⟨_, fl_X5_102⟩) (by decide) ?_
    refine px_heap ro_t0a ?_
    exact px_iret dX5_count_87 rfl rfl rfl ⟨rfl, rfl⟩
  · subst hw0
    refine px_tabIn 88 dX5_count_1 (by decide) (by decide) rfl (by decide) ?_
    refine px_aload_n dX5_count_88 rfl ?_
    refine px_get xk_X5 0 dX5_count_89 (Or.inl fl_X5_10) RO_obj (by decide) rfl ?_
    refine px_heap ro_t0a.symm ?_
    refine px_tS 2 dX5_count_92 (Or.inr ⟨_, fl_X5_95⟩) (by decide) ?_
    refine px_heap ro_t0a ?_
    exact px_iret dX5_count_95 rfl rfl rfl ⟨rfl, rfl⟩
  · subst hw0
    refine px_tabIn 96 dX5_count_1 (by decide) (by decide) rfl (by decide) ?_
    refine px_aload_n dX5_count_96 rfl ?_
    refine px_get xk_X5 0 dX5_count_97 (Or.inl fl_X5_10) RO_obj (by decide) rfl ?_
    refine px_vi (M2 := mX4_dearTogether) (on0r (c_X4_dearTogether hOK)) mw_X4_dearTogether wm_X4_dearTogether we_X4_dearTogether (Or.inr ⟨_, ml_X5_147⟩) dX5_count_100 (ro_o0) rfl (by decide) rfl rfl (Nat.le_of_ble_eq_true rfl) ⟨rfl, rfl⟩ ?_
    exact px_iret dX5_count_103 rfl rfl rfl ⟨rfl, rfl⟩
  · subst hw0
    refine px_tabIn 104 dX5_count_1 (by decide) (by decide) rfl (by decide) ?_
    refine px_aload_n dX5_count_104 rfl ?_
    refine px_get xk_X5 1 dX5_count_105 (Or.inl fl_X5_19) RO_obj (by decide) rfl ?_
    refine px_heap ro_p0a.symm ?_
    refine px_pK dX5_count_108 (Or.inr ⟨_, fl_X5_151⟩) ?_
    refine px_heap ro_p0a ?_
    exact px_iret dX5_count_111 rfl rfl rfl ⟨rfl, rfl⟩
set_option maxHeartbeats 4000000 in
set_option maxRecDepth 100000 in
theorem c_X5_type_n {E : xE} {h : xHp} {z : Nat} {O : xO} (x : Int32) (hx : ¬ (nI 32 ≤ x ∧ x ≤ nI 126)) : PMI E mX5_type [.ref z, .int x] (RO E h z O) (-1) (RO E h z O) := by
  refine pm_of [some (.ref z), some (.int x)] (by decide +kernel) (Nat.le_of_ble_eq_true rfl) rfl ?_
  refine px_iload_n dX5_type_0 rfl ?_
  refine px_bipush (v := nI 32) dX5_type_1 (by decide) ?_
  refine px_bipush (v := nI 126) dX5_type_3 (by decide) ?_
  refine px_si (c_X5_isWithin (x) (nI 32) (nI 126)) mw_X5_isWithin wt_X5_isWithin (Or.inl ml_X5_53) dX5_type_5 (by decide) rfl rfl (Nat.le_of_ble_eq_true rfl) ⟨rfl, rfl⟩ ?_
  refine px_if_neB 13 dX5_type_8 (by decide) (fun c8 => ?_) (fun c8 => ?_)
  · exact absurd (of_decide_eq_true c8) hx
  · refine px_iconst (v := -1) dX5_type_11 (by decide) ?_
    exact px_iret dX5_type_12 rfl rfl rfl ⟨rfl, rfl⟩
set_option maxHeartbeats 4000000 in
set_option maxRecDepth 100000 in
theorem c_X5_type_f {E : xE} {h : xHp} {z : Nat} {O : xO} (c : Nat) (h1 : 32 ≤ c) (h2 : c ≤ 126) (hz : 80 ≤ O.2.2.1.2.1) (hz2 : O.2.2.1.2.1 < 2 ^ 31) : PMI E mX5_type [.ref z, .int (nI c)] (RO E h z O) (-3) (RO E h z O) := by
  refine pm_of [some (.ref z), some (.int (nI c))] (by decide +kernel) (Nat.le_of_ble_eq_true rfl) rfl ?_
  refine px_iload_n dX5_type_0 rfl ?_
  refine px_bipush (v := nI 32) dX5_type_1 (by decide) ?_
  refine px_bipush (v := nI 126) dX5_type_3 (by decide) ?_
  refine px_si (c_X5_isWithin (nI c) (nI 32) (nI 126)) mw_X5_isWithin wt_X5_isWithin (Or.inl ml_X5_53) dX5_type_5 (by decide) rfl rfl (Nat.le_of_ble_eq_true rfl) ⟨rfl, rfl⟩ ?_
  refine px_if_neB 13 dX5_type_8 (by decide) (fun c8 => ?_) (fun c8 => ?_)
  · refine px_aload_n dX5_type_13 rfl ?_
    refine px_get xk_X5 6 dX5_type_14 (Or.inl fl_X5_39) RO_obj (by decide) rfl ?_
    refine px_heap ro_ka.symm ?_
    refine px_kZ dX5_type_17 (Or.inr ⟨_, fl_X5_121⟩) ?_
    refine px_heap ro_ka ?_
    refine px_bipush (v := nI 80) dX5_type_20 (by decide) ?_
    refine px_icmp_ltN 28 dX5_type_22 (by decide) (by first | omega | exact hOK.lt (by decide) | exact hOK.lts (by decide)) (by first | omega | exact hOK.lt (by decide) | exact hOK.lts (by decide)) (fun c22 => ?_) (fun c22 => ?_)
    · omega
    · refine px_bipush (v := -3) dX5_type_25 (by decide) ?_
      exact px_iret dX5_type_27 rfl rfl rfl ⟨rfl, rfl⟩
  · rw [in_t (by omega) (by omega) (by decide)] at c8
    cases c8
set_option maxHeartbeats 4000000 in
set_option maxRecDepth 100000 in
theorem c_X5_type {E : xE} {h : xHp} {z : Nat} {O : xO} (c : Nat) (h1 : 32 ≤ c) (h2 : c ≤ 126) (hz : O.2.2.1.2.1 < 80) : PMI E mX5_type [.ref z, .int (nI c)] (RO E h z O) (nI (O.2.2.1.2.1 + 1)) (RO E h z (oK O (va_up O.2.2.1.1 O.2.2.1.2.1 c, O.2.2.1.2.1 + 1, O.2.2.1.2.2))) := by
  refine pm_of [some (.ref z), some (.int (nI c))] (by decide +kernel) (Nat.le_of_ble_eq_true rfl) rfl ?_
  refine px_iload_n dX5_type_0 rfl ?_
  refine px_bipush (v := nI 32) dX5_type_1 (by decide) ?_
  refine px_bipush (v := nI 126) dX5_type_3 (by decide) ?_
  refine px_si (c_X5_isWithin (nI c) (nI 32) (nI 126)) mw_X5_isWithin wt_X5_isWithin (Or.inl ml_X5_53) dX5_type_5 (by decide) rfl rfl (Nat.le_of_ble_eq_true rfl) ⟨rfl, rfl⟩ ?_
  refine px_if_neB 13 dX5_type_8 (by decide) (fun c8 => ?_) (fun c8 => ?_)
  · refine px_aload_n dX5_type_13 rfl ?_
    refine px_get xk_X5 6 dX5_type_14 (Or.inl fl_X5_39) RO_obj (by decide) rfl ?_
    refine px_heap ro_ka.symm ?_
    refine px_kZ dX5_type_17 (Or.inr ⟨_, fl_X5_121⟩) ?_
    refine px_heap ro_ka ?_
    refine px_bipush (v := nI 80) dX5_type_20 (by decide) ?_
    refine px_icmp_ltN 28 dX5_type_22 (by decide) (by first | omega | exact hOK.lt (by decide) | exact hOK.lts (by decide)) (by first | omega | exact hOK.lt (by decide) | exact hOK.lts (by decide)) (fun c22 => ?_) (fun c22 => ?_)
    · refine px_aload_n dX5_type_28 rfl ?_
      refine px_get xk_X5 6 dX5_type_29 (Or.inl fl_X5_39) RO_obj (by decide) rfl ?_
      refine px_iload_n dX5_type_32 rfl ?_
      refine px_vi (M2 := mX3_add) (onk (c_X3_add c (by omega) hz)) mw_X3_add wm_X3_add we_X3_add (Or.inr ⟨_, ml_X5_124⟩) dX5_type_33 (ro_ko) rfl (by decide) rfl rfl (Nat.le_of_ble_eq_true rfl) ⟨rfl, rfl⟩ ?_
      exact px_iret dX5_type_36 rfl rfl rfl ⟨rfl, rfl⟩
    · omega
  · rw [in_t (by omega) (by omega) (by decide)] at c8
    cases c8
